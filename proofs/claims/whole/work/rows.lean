section
-- ===== PART A: goes FIRST, ahead of the names: the tables' words, and 'selects' of the private methods out of them =====
/-- a private method of a class that the tables say can be made, by its rows of tables_1 -/
def lw_okq (q : MethodName × Nat) : Prop := (q.1.cls ≠ "java/lang/invoke/MethodHandle" ∧ q.1.cls ≠ "java/lang/invoke/VarHandle") ∧ Cond.instantiable q.1.cls q.2 ∈ tables_1 ∧ Cond.privateMethod q.1 ∈ tables_1 ∧ Cond.instanceMethod q.1 ∈ tables_1
theorem lw_p0 : lw_okq (⟨"CallFrames", "areaSize", "()I"⟩, 14) := ⟨⟨by decide +kernel, by decide +kernel⟩, List.mem_of_getElem? (i := 12) (by decide +kernel), List.mem_of_getElem? (i := 68) (by decide +kernel), List.mem_of_getElem? (i := 69) (by decide +kernel)⟩
theorem lw_p1 : lw_okq (⟨"java/lang/Throwable", "fillInStackTrace", "(I)Ljava/lang/Throwable;"⟩, 6) := ⟨⟨by decide +kernel, by decide +kernel⟩, List.mem_of_getElem? (i := 128) (by decide +kernel), List.mem_of_getElem? (i := 126) (by decide +kernel), List.mem_of_getElem? (i := 127) (by decide +kernel)⟩
theorem lw_p2 : lw_okq (⟨"CallFrames", "isArgument", "(I)Z"⟩, 14) := ⟨⟨by decide +kernel, by decide +kernel⟩, List.mem_of_getElem? (i := 12) (by decide +kernel), List.mem_of_getElem? (i := 204) (by decide +kernel), List.mem_of_getElem? (i := 205) (by decide +kernel)⟩
theorem lw_p3 : lw_okq (⟨"CallFrames", "isAdded", "(I)Z"⟩, 14) := ⟨⟨by decide +kernel, by decide +kernel⟩, List.mem_of_getElem? (i := 12) (by decide +kernel), List.mem_of_getElem? (i := 208) (by decide +kernel), List.mem_of_getElem? (i := 209) (by decide +kernel)⟩
theorem lw_p4 : lw_okq (⟨"CallFrames", "wordsAt", "(I)I"⟩, 14) := ⟨⟨by decide +kernel, by decide +kernel⟩, List.mem_of_getElem? (i := 12) (by decide +kernel), List.mem_of_getElem? (i := 228) (by decide +kernel), List.mem_of_getElem? (i := 229) (by decide +kernel)⟩
theorem lw_p5 : lw_okq (⟨"CallFrames", "bytesAt", "(I)I"⟩, 14) := ⟨⟨by decide +kernel, by decide +kernel⟩, List.mem_of_getElem? (i := 12) (by decide +kernel), List.mem_of_getElem? (i := 232) (by decide +kernel), List.mem_of_getElem? (i := 233) (by decide +kernel)⟩
theorem lw_p6 : lw_okq (⟨"CallFrames", "isInFraction", "(I)Z"⟩, 14) := ⟨⟨by decide +kernel, by decide +kernel⟩, List.mem_of_getElem? (i := 12) (by decide +kernel), List.mem_of_getElem? (i := 237) (by decide +kernel), List.mem_of_getElem? (i := 238) (by decide +kernel)⟩
theorem lw_p7 : lw_okq (⟨"CallFrames", "isFractional", "(I)Z"⟩, 14) := ⟨⟨by decide +kernel, by decide +kernel⟩, List.mem_of_getElem? (i := 12) (by decide +kernel), List.mem_of_getElem? (i := 241) (by decide +kernel), List.mem_of_getElem? (i := 242) (by decide +kernel)⟩
theorem lw_p8 : lw_okq (⟨"CallFrames", "fractionOf", "(II)I"⟩, 14) := ⟨⟨by decide +kernel, by decide +kernel⟩, List.mem_of_getElem? (i := 12) (by decide +kernel), List.mem_of_getElem? (i := 245) (by decide +kernel), List.mem_of_getElem? (i := 246) (by decide +kernel)⟩
theorem lw_p9 : lw_okq (⟨"CallFrames", "homeAt", "(I)I"⟩, 14) := ⟨⟨by decide +kernel, by decide +kernel⟩, List.mem_of_getElem? (i := 12) (by decide +kernel), List.mem_of_getElem? (i := 249) (by decide +kernel), List.mem_of_getElem? (i := 250) (by decide +kernel)⟩
theorem lw_p10 : lw_okq (⟨"CallFrames", "resultPlace", "()I"⟩, 14) := ⟨⟨by decide +kernel, by decide +kernel⟩, List.mem_of_getElem? (i := 12) (by decide +kernel), List.mem_of_getElem? (i := 271) (by decide +kernel), List.mem_of_getElem? (i := 272) (by decide +kernel)⟩
theorem lw_p11 : lw_okq (⟨"CallFramesModel", "fail", "(I)I"⟩, 13) := ⟨⟨by decide +kernel, by decide +kernel⟩, List.mem_of_getElem? (i := 305) (by decide +kernel), List.mem_of_getElem? (i := 367) (by decide +kernel), List.mem_of_getElem? (i := 368) (by decide +kernel)⟩
theorem lw_p12 : lw_okq (⟨"CallFramesModel", "home", "(I)I"⟩, 13) := ⟨⟨by decide +kernel, by decide +kernel⟩, List.mem_of_getElem? (i := 305) (by decide +kernel), List.mem_of_getElem? (i := 371) (by decide +kernel), List.mem_of_getElem? (i := 372) (by decide +kernel)⟩
theorem lw_p13 : lw_okq (⟨"CallFramesModel", "isWide", "(I)Z"⟩, 13) := ⟨⟨by decide +kernel, by decide +kernel⟩, List.mem_of_getElem? (i := 305) (by decide +kernel), List.mem_of_getElem? (i := 375) (by decide +kernel), List.mem_of_getElem? (i := 376) (by decide +kernel)⟩
theorem lw_p14 : lw_okq (⟨"CallFramesModel", "bytes", "(I)I"⟩, 13) := ⟨⟨by decide +kernel, by decide +kernel⟩, List.mem_of_getElem? (i := 305) (by decide +kernel), List.mem_of_getElem? (i := 382) (by decide +kernel), List.mem_of_getElem? (i := 383) (by decide +kernel)⟩
theorem lw_p15 : lw_okq (⟨"CallFramesModel", "isThere", "(I)Z"⟩, 13) := ⟨⟨by decide +kernel, by decide +kernel⟩, List.mem_of_getElem? (i := 305) (by decide +kernel), List.mem_of_getElem? (i := 391) (by decide +kernel), List.mem_of_getElem? (i := 392) (by decide +kernel)⟩
def lw_privs_1 : List (MethodName × Nat) := [(⟨"CallFrames", "areaSize", "()I"⟩, 14), (⟨"java/lang/Throwable", "fillInStackTrace", "(I)Ljava/lang/Throwable;"⟩, 6), (⟨"CallFrames", "isArgument", "(I)Z"⟩, 14), (⟨"CallFrames", "isAdded", "(I)Z"⟩, 14), (⟨"CallFrames", "wordsAt", "(I)I"⟩, 14), (⟨"CallFrames", "bytesAt", "(I)I"⟩, 14), (⟨"CallFrames", "isInFraction", "(I)Z"⟩, 14), (⟨"CallFrames", "isFractional", "(I)Z"⟩, 14), (⟨"CallFrames", "fractionOf", "(II)I"⟩, 14), (⟨"CallFrames", "homeAt", "(I)I"⟩, 14), (⟨"CallFrames", "resultPlace", "()I"⟩, 14), (⟨"CallFramesModel", "fail", "(I)I"⟩, 13), (⟨"CallFramesModel", "home", "(I)I"⟩, 13), (⟨"CallFramesModel", "isWide", "(I)Z"⟩, 13), (⟨"CallFramesModel", "bytes", "(I)I"⟩, 13), (⟨"CallFramesModel", "isThere", "(I)Z"⟩, 13)]
theorem lw_r1 : ∀ q ∈ lw_privs_1, lw_okq q := List.forall_mem_cons.mpr ⟨lw_p0, List.forall_mem_cons.mpr ⟨lw_p1, List.forall_mem_cons.mpr ⟨lw_p2, List.forall_mem_cons.mpr ⟨lw_p3, List.forall_mem_cons.mpr ⟨lw_p4, List.forall_mem_cons.mpr ⟨lw_p5, List.forall_mem_cons.mpr ⟨lw_p6, List.forall_mem_cons.mpr ⟨lw_p7, List.forall_mem_cons.mpr ⟨lw_p8, List.forall_mem_cons.mpr ⟨lw_p9, List.forall_mem_cons.mpr ⟨lw_p10, List.forall_mem_cons.mpr ⟨lw_p11, List.forall_mem_cons.mpr ⟨lw_p12, List.forall_mem_cons.mpr ⟨lw_p13, List.forall_mem_cons.mpr ⟨lw_p14, List.forall_mem_cons.mpr ⟨lw_p15, fun _ h => absurd h List.not_mem_nil⟩⟩⟩⟩⟩⟩⟩⟩⟩⟩⟩⟩⟩⟩⟩⟩
theorem lw_p16 : lw_okq (⟨"CallFramesModel", "words", "(I)I"⟩, 13) := ⟨⟨by decide +kernel, by decide +kernel⟩, List.mem_of_getElem? (i := 305) (by decide +kernel), List.mem_of_getElem? (i := 395) (by decide +kernel), List.mem_of_getElem? (i := 396) (by decide +kernel)⟩
theorem lw_p17 : lw_okq (⟨"CallFramesModel", "isFraction", "(I)Z"⟩, 13) := ⟨⟨by decide +kernel, by decide +kernel⟩, List.mem_of_getElem? (i := 305) (by decide +kernel), List.mem_of_getElem? (i := 399) (by decide +kernel), List.mem_of_getElem? (i := 400) (by decide +kernel)⟩
theorem lw_p18 : lw_okq (⟨"CallFramesModel", "area", "()I"⟩, 13) := ⟨⟨by decide +kernel, by decide +kernel⟩, List.mem_of_getElem? (i := 305) (by decide +kernel), List.mem_of_getElem? (i := 411) (by decide +kernel), List.mem_of_getElem? (i := 412) (by decide +kernel)⟩
theorem lw_p19 : lw_okq (⟨"CallFramesModel", "generalAt", "()I"⟩, 13) := ⟨⟨by decide +kernel, by decide +kernel⟩, List.mem_of_getElem? (i := 305) (by decide +kernel), List.mem_of_getElem? (i := 426) (by decide +kernel), List.mem_of_getElem? (i := 427) (by decide +kernel)⟩
theorem lw_p20 : lw_okq (⟨"CallFramesModel", "fractionsAt", "()I"⟩, 13) := ⟨⟨by decide +kernel, by decide +kernel⟩, List.mem_of_getElem? (i := 305) (by decide +kernel), List.mem_of_getElem? (i := 430) (by decide +kernel), List.mem_of_getElem? (i := 431) (by decide +kernel)⟩
def lw_privs_2 : List (MethodName × Nat) := [(⟨"CallFramesModel", "words", "(I)I"⟩, 13), (⟨"CallFramesModel", "isFraction", "(I)Z"⟩, 13), (⟨"CallFramesModel", "area", "()I"⟩, 13), (⟨"CallFramesModel", "generalAt", "()I"⟩, 13), (⟨"CallFramesModel", "fractionsAt", "()I"⟩, 13)]
theorem lw_r2 : ∀ q ∈ lw_privs_2, lw_okq q := List.forall_mem_cons.mpr ⟨lw_p16, List.forall_mem_cons.mpr ⟨lw_p17, List.forall_mem_cons.mpr ⟨lw_p18, List.forall_mem_cons.mpr ⟨lw_p19, List.forall_mem_cons.mpr ⟨lw_p20, fun _ h => absurd h List.not_mem_nil⟩⟩⟩⟩⟩
def lw_privs : List (MethodName × Nat) := lw_privs_1 ++ (lw_privs_2)
def lw_tbl : List Cond := k2_sels lw_privs ++ tables_1
theorem lw_privs_ok : ∀ q ∈ lw_privs, lw_okq q := by
  show ∀ q ∈ lw_privs_1 ++ (lw_privs_2), lw_okq q
  exact List.forall_mem_append.mpr ⟨lw_r1, lw_r2⟩
end
section
/-! ===== BEGIN words of one list among another's, by their places ===== -/
theorem goodIn_r {big : List Cond} (ws : List Cond) (ps : List Nat) (hp : ws = ps.filterMap (fun i => big[i]?)) (h : ws.all goodWord = true) : GoodIn big ws := by
  intro w hw
  have h1 := List.all_eq_true.mp h w hw
  rw [hp] at hw
  obtain ⟨i, -, hi⟩ := List.mem_filterMap.mp hw
  have hm : w ∈ big := by first | exact List.mem_of_getElem? hi | exact List.getElem?_mem hi
  exact ⟨hm, good_of_word h1⟩
theorem goodIn_app {big a b : List Cond} (ha : GoodIn big a) (hb : GoodIn big b) : GoodIn big (a ++ b) := fun w h => (List.mem_append.mp h).elim (ha w) (hb w)
theorem goodIn_ca {big a b : List Cond} {c : Cond} (ha : GoodIn big (c :: a)) (hb : GoodIn big b) : GoodIn big (c :: (a ++ b)) := fun w h => (List.mem_cons.mp h).elim (fun e => ha w (List.mem_cons.mpr (Or.inl e))) (fun h => (List.mem_append.mp h).elim (fun h => ha w (List.mem_cons.mpr (Or.inr h))) (hb w))
theorem goodIn_sub {big ws : List Cond} (hm : ∀ w ∈ ws, w ∈ big) (h : ws.all goodWord = true) : GoodIn big ws := fun w hw => ⟨hm w hw, good_of_word (List.all_eq_true.mp h w hw)⟩
/-! ===== END ===== -/

/-! ===== BEGIN exceptions that leave a method, and their catching by the caller (launches without stack traces) ===== -/
section VXA
/-! The laws vx_back, vx_callV, vx_callS, vx_callSW, vx_throw0, vx_throwS follow proofs of the library, with one case more: JvmDerived/Free/Laws.lean (Back.of_free), Shelf42/LK1.lean (callV, callS), Shelf/KitTraced.lean (throwNew0V, throwNewS). -/
/-- where a method has thrown q: the class by its name, the cell, what was written, the world -/
def vx_T (XC : String → State → State → Prop) (st : State) (q : Addr) (t : State) (mc ms : Nat) (free : Addr → Prop) : Prop :=
  ∃ (E : String) (ce : Cell) (L : List Loc), XC E st t ∧ t.heap[q]? = some ce ∧ ce.vm = .none ∧ st.vm.findClass E = some ce.cls ∧ st.WarmedH t.vm ∧ st.sameButNew ({ t with vm := st.vm } : State) L mc ms ∧ ∀ z ∈ L, free z.base
def vx_Q (Qc : Array Value → State → Outcome → State → Prop) (XC : String → State → State → Prop) (mc ms : Nat) (free : Addr → Prop) : Array Value → State → Outcome → State → Prop := fun a st o t =>
  (Qc a st o t ∧ ∃ L, FrameEnd st o t L mc ms ∧ ∀ q ∈ L, free q.base) ∨ ∃ q, o = .threw q ∧ vx_T XC st q t mc ms free
/-- a callee that returns or throws -/
def vx_Met (l : Launch) (y : MethodName) (ws : List Cond) (rm : Room) (Pc : Array Value → State → Prop) (Qc : Array Value → State → Outcome → State → Prop) (XC : String → State → State → Prop) (mc ms : Nat) (free : Addr → Prop) : Prop :=
  MetFree l y (headSpec ws rm) Pc (fun _ _ _ _ _ => True) (vx_Q Qc XC mc ms free)
def vx_Post (XC : String → State → State → Prop) (mc ms : Nat) (free : Addr → Prop) : Pt → Array Value → Addr → Pt → Prop := fun A a q B =>
  ∃ (g : JFrame) (mk : MethodId) (t : State) (L : List Loc) (E : String) (ce : Cell), B.U.heap = t.heap ∧ B.U.vm = t.vm ∧ XC E (A.U.calling g mk a) t ∧ t.heap[q]? = some ce ∧ ce.vm = .none ∧ A.U.vm.findClass E = some ce.cls ∧ B.locs = A.locs ++ L ∧ (∀ z ∈ L, free z.base) ∧ B.cells = A.cells + mc ∧ B.slots = A.slots + ms
def vx_Back (l : Launch) (R : Room) (p : Program) (e : Env) (below : List Frame) (s : State) (sargs : Array Value) (y : MethodName) (len W9 : Nat)
    (Pre : Pt → Array Value → Prop) (Post : Pt → Array Value → Option Value → Pt → Prop) (PostX : Pt → Array Value → Addr → Pt → Prop) : Prop :=
  ∀ (m : MethodId) (meth : Method) (c : Code) (A : Pt) (g : JFrame) (ig : Instr) (mk : MethodId) (a : Array Value),
    Stand p l e R s m sargs below meth c A.U A.locs A.cells A.slots → g.method = m → g.locals.size = c.maxLocals → decode c.code g.pc = .ok (ig, len) →
    2 * g.monitorRoom + (g.stack.map fun v => v.category).sum ≤ W9 → A.U.methodNamed? y = some mk → Pre A a →
    (∃ (v : Option Value) (B : Pt), Stand p l e R s m sargs below meth c B.U B.locs B.cells B.slots ∧ Post A a v B ∧
      Steps p.tables e below (doInvoke e (A.U.setTop g) [] mk a).1 (B.U.setTop { g with pc := g.pc + len, stack := v.toList ++ g.stack })) ∨
    (∃ (q : Addr) (B : Pt), Stand p l e R s m sargs below meth c B.U B.locs B.cells B.slots ∧ PostX A a q B ∧
      Steps p.tables e below (doInvoke e (A.U.setTop g) [] mk a).1 ((B.U.setTop g).pushFrame (.throwing q)))
section Payer
variable {l : Launch} {R : Room} {p : Program} {e : Env} {below : List Frame} {s : State} {sargs : Array Value} {y : MethodName} {len W9 : Nat}
theorem vx_back {ws : List Cond} {rm : Room} {Pc : Array Value → State → Prop} {Qc : Array Value → State → Outcome → State → Prop} {XC : String → State → State → Prop} {mc ms : Nat} {free : Addr → Prop} {bytes : ByteArray} {maxL : Nat} {ret : Option FieldType}
    (hM : vx_Met l y ws rm Pc Qc XC mc ms free) (hblind : FrameBlind Pc) (hrc : rm.cells = mc) (hrs : rm.slots = ms)
    (hframes : rm.frames + 1 ≤ R.frames) (hlocals : W9 + (maxL + 11) + rm.locals ≤ R.locals)
    (hws : ∀ w ∈ ws, ∀ a' U, s.WarmedH U.vm → w.before a' U = true) (hcode : Cond.code y bytes maxL ret ∈ ws) (hinit : ∀ a' U, s.WarmedH U.vm → (Cond.initialized y.cls).before a' U = true) :
    vx_Back l R p e below s sargs y len W9 (PreOf R mc ms Pc) (PostOf Qc mc ms free) (vx_Post XC mc ms free) := by
  intro m meth c A g ig mk a X hg hsize hdg hW hn hp
  have h1 : (headSpec ws rm).pre.before a A.U = true := atoms_intro fun w hw => hws w hw _ _ X.warmed
  have h2 : (Cond.code y bytes maxL ret).before a A.U = true := hws _ hcode _ _ X.warmed
  have h3 : (Cond.initialized y.cls).before a A.U = true := hinit _ _ X.warmed
  have h4 : A.cells + (headSpec ws rm).room.cells ≤ R.cells := by rw [show (headSpec ws rm).room.cells = mc from hrc]; exact hp.1
  have h5 : A.slots + (headSpec ws rm).room.slots ≤ R.slots := by rw [show (headSpec ws rm).room.slots = ms from hrs]; exact hp.2.1
  have hPc : Pc a (A.U.calling g mk a) := hblind _ _ _ _ hp.2.2
  obtain ⟨U, Ls, c0, s0⟩ := A
  dsimp only [Pt.U, Pt.locs, Pt.cells, Pt.slots] at h1 h2 h3 h4 h5 X hn hPc ⊢
  obtain ⟨methY, cY, hmY, hcY, -, hlY, -, -, -, -⟩ := Cond.code_spec hn h2
  obtain ⟨kY, hkY, -⟩ := className_of_methodNamed hn
  have hinitY : kY.init = .initialized := Cond.initialized_spec (findClass_of_methodNamed hn) hkY h3
  have h : At U g.method c below := by rw [hg]; exact X.here
  have hlocals9 : W9 + (maxL + 11) + (headSpec ws rm).room.locals ≤ R.locals := hlocals
  have happ : (headSpec ws rm).appliesLoose y e.platform (U.calling g mk a) = true :=
    Spec.appliesLoose_calling (g := g) h hdg hn hkY hinitY
      (X.room_calling (g := g) (R' := (headSpec ws rm).room) hsize hmY hcY hframes (by rw [hlY]; omega) h4 h5) h1
  obtain ⟨mid, hmid⟩ := h.above
  have hfr : (U.setTop g).frames = (.java g :: mid) ++ below := by rw [State.frames_setTop' g h.top, hmid]; rfl
  obtain ⟨o, s₂, hsteps, -, hend, hq⟩ := Steps.callFree hM p X.admits X.cas X.clock (acts := []) hfr happ hPc trivial
  have hq' : vx_Q Qc XC mc ms free a (U.calling g mk a) o s₂ := hq
  rw [State.frames_setTop' g h.top] at hend
  obtain ⟨g₀, hg0⟩ := Option.isSome_iff_exists.mp h.top
  obtain ⟨r, hr⟩ := State.topJava?_eq_some.mp hg0
  have hr' : (({ U with heap := s₂.heap, slotsUsed := s₂.slotsUsed } : State).setVm s₂.vm).frames = .java g₀ :: r := hr
  rcases hq' with ⟨hqc, L, hfe, hL⟩ | ⟨q, rfl, E, ce, L, hx, hce, hcv, hcl, hW₂, hsm, hL⟩
  · obtain ⟨⟨v, rfl⟩, hW₂, e2, q2, q3, q4, q5, q6⟩ := id hfe
    have e3 : s₂ = ({ (U.calling g mk a).setFrames s₂.frames with heap := s₂.heap, slotsUsed := s₂.slotsUsed } : State).setVm s₂.vm := by
      have : s₂ = ({ s₂ with vm := (U.calling g mk a).vm } : State).setVm s₂.vm := rfl
      rw [e2] at this
      exact this
    obtain ⟨c₂, i₂, len₂, hc₂, hd₂, hf₂⟩ := hend
    have hW' : U.WarmedH s₂.vm := hW₂
    have hcc : c₂ = c := by
      have h1 : s₂.code? g.method = U.code? g.method := by
        rw [State.code?_eq, State.code?_eq, hW'.alike.method?]
      exact Option.some.inj (hc₂.symm.trans (h1.trans h.code))
    subst hcc
    have hlen : len₂ = len := by rw [hdg] at hd₂; cases hd₂; rfl
    subst hlen
    have hs₂ : s₂ = (({ U with heap := s₂.heap, slotsUsed := s₂.slotsUsed } : State).setVm s₂.vm).setTop { g with pc := g.pc + len₂, stack := v.toList ++ g.stack } := by
      refine e3.trans ?_
      rw [hf₂, State.calling_eq h.top, State.setFrames_setFrames, State.setTop_of_frames _ hr', hr]
      rfl
    have hsame : U.sameButNew ({ U with heap := s₂.heap, slotsUsed := s₂.slotsUsed } : State) L mc ms := by
      refine ⟨?_, q2, q3, q4, q5, q6⟩
      obtain ⟨t, ht, -⟩ := State.frames_cons hr
      show ({ U with heap := s₂.heap, slotsUsed := s₂.slotsUsed } : State) = { U.setFrames U.frames with heap := s₂.heap, slotsUsed := s₂.slotsUsed }
      rw [State.setFrames_self ht]
    subst hg
    refine Or.inl ⟨v, ⟨(({ U with heap := s₂.heap, slotsUsed := s₂.slotsUsed } : State).setVm s₂.vm), Ls ++ L, c0 + mc, s0 + ms⟩,
      ⟨X.admits, X.cas, X.clock, X.frames, X.room, X.hears, X.method, X.code, (X.here.setHeapUsed s₂.heap s₂.slotsUsed).setVm hW'.alike, X.tail, State.WarmedH.trans X.warmed hW', X.limits, X.bytes, X.same.trans (hsame.setVm s.vm)⟩,
      ⟨g, mk, s₂, L, rfl, rfl, hqc, rfl, hL, rfl, rfl⟩, ?_⟩
    show Steps p.tables e below _ ((({ U with heap := s₂.heap, slotsUsed := s₂.slotsUsed } : State).setVm s₂.vm).setTop { g with pc := g.pc + len₂, stack := v.toList ++ g.stack })
    rw [← hs₂]
    exact hsteps
  · obtain ⟨e2, q2, q3, q4, q5, q6⟩ := id hsm
    have e3 : s₂ = ({ (U.calling g mk a).setFrames s₂.frames with heap := s₂.heap, slotsUsed := s₂.slotsUsed } : State).setVm s₂.vm := by
      have : s₂ = ({ s₂ with vm := (U.calling g mk a).vm } : State).setVm s₂.vm := rfl
      rw [e2] at this
      exact this
    have hf₂ : s₂.frames = .throwing q :: .java g :: U.frames.tail := hend
    have hW' : U.WarmedH s₂.vm := hW₂
    have hs₂ : s₂ = ((({ U with heap := s₂.heap, slotsUsed := s₂.slotsUsed } : State).setVm s₂.vm).setTop g).pushFrame (.throwing q) := by
      refine e3.trans ?_
      rw [hf₂, State.calling_eq h.top, State.setFrames_setFrames, State.pushFrame, State.frames_setTop _ hr', State.setTop_of_frames _ hr', State.setFrames_setFrames, hr]
      rfl
    have hsame : U.sameButNew ({ U with heap := s₂.heap, slotsUsed := s₂.slotsUsed } : State) L mc ms := by
      refine ⟨?_, q2, q3, q4, q5, q6⟩
      obtain ⟨t, ht, -⟩ := State.frames_cons hr
      show ({ U with heap := s₂.heap, slotsUsed := s₂.slotsUsed } : State) = { U.setFrames U.frames with heap := s₂.heap, slotsUsed := s₂.slotsUsed }
      rw [State.setFrames_self ht]
    subst hg
    refine Or.inr ⟨q, ⟨(({ U with heap := s₂.heap, slotsUsed := s₂.slotsUsed } : State).setVm s₂.vm), Ls ++ L, c0 + mc, s0 + ms⟩,
      ⟨X.admits, X.cas, X.clock, X.frames, X.room, X.hears, X.method, X.code, (X.here.setHeapUsed s₂.heap s₂.slotsUsed).setVm hW'.alike, X.tail, State.WarmedH.trans X.warmed hW', X.limits, X.bytes, X.same.trans (hsame.setVm s.vm)⟩,
      ⟨g, mk, s₂, L, E, ce, rfl, rfl, hx, hce, hcv, hcl, rfl, hL, rfl, rfl⟩, ?_⟩
    show Steps p.tables e below _ (((({ U with heap := s₂.heap, slotsUsed := s₂.slotsUsed } : State).setVm s₂.vm).setTop g).pushFrame (.throwing q))
    rw [← hs₂]
    exact hsteps
end Payer
section Calls
variable {p : Program} {l : Launch} {e : Env} {R : Room} {s : State} {m : MethodId} {args : Array Value} {below : List Frame} {meth : Method} {c : Code} {T : State} {locs : List Loc} {cells slots : Nat}
theorem vx_callV (X : Stand p l e R s m args below meth c T locs cells slots) (hexec : p.tables.exec = Jvm.exec) {own C : String} {index : Nat} {y : MethodName} {bytes : ByteArray} {maxL : Nat} {ret : Option FieldType}
    (hown : s.vm.findClass own = some m.cls) (hlink : (Cond.methodLink own index y).before args s = true) (hinst : (Cond.instanceMethod y).before args s = true) (hsel : (Cond.selects C y y).before args s = true)
    (hcode : (Cond.code y bytes maxL ret).before args s = true) (hy : y.cls ≠ "java/lang/invoke/MethodHandle" ∧ y.cls ≠ "java/lang/invoke/VarHandle")
    {W9 : Nat} {Pre : Pt → Array Value → Prop} {Post : Pt → Array Value → Option Value → Pt → Prop} {PostX : Pt → Array Value → Addr → Pt → Prop} (hK : vx_Back l R p e below s args y 3 W9 Pre Post PostX)
    {b : Addr} {cellB : Cell} (hcell : T.heap[b]? = some cellB) (hobj : cellB.vm.isStatics = false) (hcls : s.vm.findClass C = some cellB.cls)
    {g : JFrame} (hg : g.method = m) (hsize : g.locals.size = c.maxLocals) {argsL rest : List Value} (hlen : ∀ sig, parseMethodDescriptor y.desc = some sig → argsL.length = sig.parameters.length)
    (hstack : g.stack = argsL.reverse ++ .ref b :: rest) (hW : 2 * g.monitorRoom + (rest.map fun v => v.category).sum ≤ W9) (hdg : decode c.code g.pc = .ok (.invokevirtual index, 3))
    (hpre : ∀ vm₁, s.WarmedH vm₁ → Pre ⟨T.setVm vm₁, locs, cells, slots⟩ (Value.ref b :: argsL).toArray) :
    (∃ (v : Option Value) (vm₁ : Vm) (B : Pt), s.WarmedH vm₁ ∧ Stand p l e R s m args below meth c B.U B.locs B.cells B.slots ∧ Post ⟨T.setVm vm₁, locs, cells, slots⟩ (Value.ref b :: argsL).toArray v B ∧
      ∀ target, Steps p.tables e below (B.U.setTop { g with pc := g.pc + 3, stack := v.toList ++ rest }) target → Steps p.tables e below (T.setTop g) target) ∨
    (∃ (q : Addr) (vm₁ : Vm) (B : Pt), s.WarmedH vm₁ ∧ Stand p l e R s m args below meth c B.U B.locs B.cells B.slots ∧ PostX ⟨T.setVm vm₁, locs, cells, slots⟩ (Value.ref b :: argsL).toArray q B ∧
      Steps p.tables e below (T.setTop g) ((B.U.setTop { g with stack := rest }).pushFrame (.throwing q))) := by
  obtain ⟨mk, methM, hnamed, hmethM, hstM, habM⟩ := Cond.instanceMethod_spec hinst
  obtain ⟨methM', cM, hmethM', -, -, -, -, -, -, hsigM⟩ := Cond.code_spec hnamed hcode
  cases hmethM.symm.trans hmethM'
  obtain ⟨c2, r2, m2, q1, q2, q3, q4, kP, hkP, hkPi⟩ := Cond.selects_spec hsel
  cases hcls.symm.trans q1
  cases (State.methodFound?_of_named hnamed hy).symm.trans q2
  cases hnamed.symm.trans q3
  have hselP : selectMethod e.platform s.vm cellB.cls mk = .method mk := by rw [Launch.admits_selectMethod X.admits]; exact q4
  obtain ⟨vm₁, X₁, hstep₁⟩ := X.invokevirtual hexec hown hlink hnamed hmethM hstM hkP hkPi hy (a := b) (cell := cellB) hcell
    (fun z h => by rw [h] at hobj; cases hobj) hselP hmethM habM hkP hkPi (g := g) hg (argsL := argsL) (rest := rest) (hlen _ hsigM) hstack hdg
  rcases hK m meth c ⟨T.setVm vm₁, locs, cells, slots⟩ { g with stack := rest } (.invokevirtual index) mk (Value.ref b :: argsL).toArray X₁ hg hsize hdg hW (X₁.named hnamed) (hpre vm₁ X₁.warmed) with ⟨v, B, X', hpost, hsteps⟩ | ⟨q, B, X', hpost, hsteps⟩
  · exact Or.inl ⟨v, vm₁, B, X₁.warmed, X', hpost, fun target h => hstep₁ _ fun acts => by rw [doInvoke_state]; exact hsteps.trans h⟩
  · exact Or.inr ⟨q, vm₁, B, X₁.warmed, X', hpost, hstep₁ _ fun acts => by rw [doInvoke_state]; exact hsteps⟩
theorem vx_callS (X : Stand p l e R s m args below meth c T locs cells slots) (hexec : p.tables.exec = Jvm.exec) {own : String} {index : Nat} {y : MethodName} {bytes : ByteArray} {maxL : Nat} {ret : Option FieldType}
    (hown : s.vm.findClass own = some m.cls) (hlink : (Cond.methodLink own index y).before args s = true) (hstat : (Cond.static y).before args s = true) (hinit : (Cond.initialized y.cls).before args s = true)
    (hcode : (Cond.code y bytes maxL ret).before args s = true) (hy : y.cls ≠ "java/lang/invoke/MethodHandle" ∧ y.cls ≠ "java/lang/invoke/VarHandle")
    {W9 : Nat} {Pre : Pt → Array Value → Prop} {Post : Pt → Array Value → Option Value → Pt → Prop} {PostX : Pt → Array Value → Addr → Pt → Prop} (hK : vx_Back l R p e below s args y 3 W9 Pre Post PostX)
    {g : JFrame} (hg : g.method = m) (hsize : g.locals.size = c.maxLocals) {argsL rest : List Value} (hlen : ∀ sig, parseMethodDescriptor y.desc = some sig → argsL.length = sig.parameters.length)
    (hstack : g.stack = argsL.reverse ++ rest) (hW : 2 * g.monitorRoom + (rest.map fun v => v.category).sum ≤ W9) (hdg : decode c.code g.pc = .ok (.invokestatic index, 3))
    (hpre : ∀ vm₁, s.WarmedH vm₁ → Pre ⟨T.setVm vm₁, locs, cells, slots⟩ argsL.toArray) :
    (∃ (v : Option Value) (vm₁ : Vm) (B : Pt), s.WarmedH vm₁ ∧ Stand p l e R s m args below meth c B.U B.locs B.cells B.slots ∧ Post ⟨T.setVm vm₁, locs, cells, slots⟩ argsL.toArray v B ∧
      ∀ target, Steps p.tables e below (B.U.setTop { g with pc := g.pc + 3, stack := v.toList ++ rest }) target → Steps p.tables e below (T.setTop g) target) ∨
    (∃ (q : Addr) (vm₁ : Vm) (B : Pt), s.WarmedH vm₁ ∧ Stand p l e R s m args below meth c B.U B.locs B.cells B.slots ∧ PostX ⟨T.setVm vm₁, locs, cells, slots⟩ argsL.toArray q B ∧
      Steps p.tables e below (T.setTop g) ((B.U.setTop { g with stack := rest }).pushFrame (.throwing q))) := by
  obtain ⟨mk, hnamed⟩ := Cond.code_named hcode
  obtain ⟨methM, cM, hmethM, -, -, -, -, -, -, hsigM⟩ := Cond.code_spec hnamed hcode
  have hstatic : methM.isStatic = true := Cond.static_spec hnamed hmethM hstat
  obtain ⟨kP, hkP, -⟩ := className_of_methodNamed hnamed
  have hinitP : kP.init = .initialized := Cond.initialized_spec (findClass_of_methodNamed hnamed) hkP hinit
  obtain ⟨vm₁, X₁, hstep₁⟩ := X.invokestatic hexec hown hlink hnamed hmethM hstatic hkP hinitP hy (g := g) hg (argsL := argsL) (rest := rest) (hlen _ hsigM) hstack hdg
  rcases hK m meth c ⟨T.setVm vm₁, locs, cells, slots⟩ { g with stack := rest } (.invokestatic index) mk argsL.toArray X₁ hg hsize hdg hW (X₁.named hnamed) (hpre vm₁ X₁.warmed) with ⟨v, B, X', hpost, hsteps⟩ | ⟨q, B, X', hpost, hsteps⟩
  · exact Or.inl ⟨v, vm₁, B, X₁.warmed, X', hpost, fun target h => hstep₁ _ fun acts => by rw [doInvoke_state]; exact hsteps.trans h⟩
  · exact Or.inr ⟨q, vm₁, B, X₁.warmed, X', hpost, hstep₁ _ fun acts => by rw [doInvoke_state]; exact hsteps⟩
end Calls
theorem vx_cls {s : State} {T : State} {vm₁ : Vm} {E : String} {k : ClassId} (hW : s.WarmedH vm₁) (h : (T.setVm vm₁).vm.findClass E = some k) : s.vm.findClass E = some k := by
  have h1 : vm₁.findClass E = some k := h
  rw [hW.alike.findClass] at h1
  exact h1
/-- the method's frame g, with q thrown over it -/
def vx_W (p : Program) (l : Launch) (e : Env) (R : Room) (s : State) (m : MethodId) (args : Array Value) (below : List Frame) (meth : Method) (c : Code) (H : Heap) (locs : List Loc) (cells slots : Nat) (Q : State → Prop) (g : JFrame) (q : Addr) : Prop :=
  ∀ T : State, T.heap = H → Stand p l e R s m args below meth c T locs cells slots → ∃ t, Steps p.tables e below ((T.setTop g).pushFrame (.throwing q)) t ∧ Q t
def vx_Run (p : Program) (l : Launch) (e : Env) (R : Room) (s : State) (m : MethodId) (args : Array Value) (below : List Frame) (meth : Method) (c : Code) (H : Heap) (locs : List Loc) (cells slots mc ms : Nat) (g : JFrame) (rest : List Value) (Qa : State → Outcome → State → Prop) (XC : String → State → State → Prop) (free : Addr → Prop) : Prop :=
  ∀ T : State, T.heap = H → Stand p l e R s m args below meth c T locs cells slots →
    (∃ (v : Option Value) (st₀ t T' : State) (L : List Loc), st₀.heap = H ∧ Stand p l e R s m args below meth c T' (locs ++ L) (cells + mc) (slots + ms) ∧ (∀ q ∈ L, free q.base) ∧ T'.heap = t.heap ∧ T'.vm = t.vm ∧ Qa st₀ (.returned v) t ∧
      Goes p e below T g T' { g with pc := g.pc + 3, stack := v.toList ++ rest }) ∨
    (∃ (q : Addr) (st₀ t T' : State) (L : List Loc) (E : String) (ce : Cell), st₀.heap = H ∧ Stand p l e R s m args below meth c T' (locs ++ L) (cells + mc) (slots + ms) ∧ (∀ z ∈ L, free z.base) ∧ T'.heap = t.heap ∧ T'.vm = t.vm ∧ XC E st₀ t ∧ t.heap[q]? = some ce ∧ ce.vm = .none ∧ s.vm.findClass E = some ce.cls ∧
      Steps p.tables e below (T.setTop g) ((T'.setTop { g with stack := rest }).pushFrame (.throwing q)))
def vx_X {S : Type} (px : S → Prop) (B : String → S → State → Prop) (A : Nat → Prop) : String → State → State → Prop := fun E st t => ∃ u : S, px u ∧ B E u t ∧ va_F A st t
section Runs
variable {p : Program} {l : Launch} {e : Env} {R : Room} {s : State} {m : MethodId} {args : Array Value} {below : List Frame} {meth : Method} {c : Code} {H : Heap} {locs : List Loc} {cells slots : Nat}
variable {y : MethodName} {bytes cc : ByteArray} {maxL nL mc ms n index : Nat} {ret : Option FieldType} {ws : List Cond} {rm : Room} {Pc : Array Value → State → Prop} {Qc : Array Value → State → Outcome → State → Prop} {XC : String → State → State → Prop} {free : Addr → Prop} {Ts : List Cond} {own C : String} {b : Addr} {As rest : List Value} {g : JFrame}
theorem vx_callBack (cb : CallB R s args own index y bytes maxL ret ws rm mc ms n) (hM : vx_Met l y ws rm Pc Qc XC mc ms free) (hbl : FrameBlind Pc) : vx_Back l R p e below s args y 3 8 (PreOf R mc ms Pc) (PostOf Qc mc ms free) (vx_Post XC mc ms free) := by
  obtain ⟨hrc, hrs, hfr, hlo, hws, hcw, -, hini, -⟩ := cb
  exact vx_back (bytes := bytes) (maxL := maxL) (ret := ret) hM hbl hrc hrs hfr hlo hws hcw (fun a' U hW => word_at hW (Or.inl (by first | rfl | simp [Cond.onTables, Cond.keeps, Cond.steady])) hini)
theorem vx_runV (S : CallFix p m c cc nL s args Ts own) (hM : vx_Met l y ws rm Pc Qc XC mc ms free) (cw : CallW R s args own C index y bytes maxL ret ws rm mc ms n) (hp : PreV s H C b Pc As)
    (hg : g.method = m) (hn : As.length = n) (hsize : g.locals.size = nL) (hstack : g.stack = As.reverse ++ .ref b :: rest) (hW : 2 * g.monitorRoom + (rest.map fun v => v.category).sum ≤ 8) (hdg : decode cc g.pc = .ok (.invokevirtual index, 3)) (hf : cells + mc ≤ R.cells ∧ slots + ms ≤ R.slots) :
    vx_Run p l e R s m args below meth c H locs cells slots mc ms g rest (Qc (Value.ref b :: As).toArray) XC free := by
  have hK : vx_Back l R p e below s args y 3 8 (PreOf R mc ms Pc) (PostOf Qc mc ms free) (vx_Post XC mc ms free) := vx_callBack cw.1 hM hp.1
  obtain ⟨⟨-, -, -, -, -, -, hcode, -, hy, hlen, hl⟩, hin, hse⟩ := cw
  obtain ⟨hx, hb, hml, ho, -⟩ := S
  obtain ⟨-, ⟨cellB, hcB, hoB, hclB⟩, hPc⟩ := hp
  intro T hT X
  rcases vx_callV X hx (C := C) (bytes := bytes) (maxL := maxL) (ret := ret) ho hl hin hse hcode hy hK (by rw [hT]; exact hcB) hoB hclB hg (hsize.trans hml.symm) (argsL := As) (rest := rest) (fun sig h => hn.trans (hlen sig h)) hstack hW (by rw [hb]; exact hdg)
    (fun vm₁ hW₁ => ⟨hf.1, hf.2, hPc (T.setVm vm₁) hT hW₁⟩) with ⟨v, vm₁, ⟨U', l2, c2, s2⟩, hW₁, X', ⟨g', mk, t, L, e1, e2, hq, h1, hL, h2, h3⟩, st⟩ | ⟨q, vm₁, ⟨U', l2, c2, s2⟩, hW₁, X', ⟨g', mk, t, L, E, ce, e1, e2, hq, hce, hcv, hcl, h1, hL, h2, h3⟩, st⟩
  · dsimp only [Pt.U, Pt.locs, Pt.cells, Pt.slots] at X' e1 e2 h1 h2 h3 st
    subst h1; subst h2; subst h3
    exact Or.inl ⟨v, (T.setVm vm₁).calling g' mk (Value.ref b :: As).toArray, t, U', L, hT, X', hL, e1, e2, hq, st⟩
  · dsimp only [Pt.U, Pt.locs, Pt.cells, Pt.slots] at X' e1 e2 h1 h2 h3 st hcl
    subst h1; subst h2; subst h3
    exact Or.inr ⟨q, (T.setVm vm₁).calling g' mk (Value.ref b :: As).toArray, t, U', L, E, ce, hT, X', hL, e1, e2, hq, hce, hcv, vx_cls hW₁ hcl, st⟩
theorem vx_runS (S : CallFix p m c cc nL s args Ts own) (hM : vx_Met l y ws rm Pc Qc XC mc ms free) (cw : CallB R s args own index y bytes maxL ret ws rm mc ms n ∧ (Cond.static y).before args s = true) (hp : PreS s H Pc As)
    (hg : g.method = m) (hn : As.length = n) (hsize : g.locals.size = nL) (hstack : g.stack = As.reverse ++ rest) (hW : 2 * g.monitorRoom + (rest.map fun v => v.category).sum ≤ 8) (hdg : decode cc g.pc = .ok (.invokestatic index, 3)) (hf : cells + mc ≤ R.cells ∧ slots + ms ≤ R.slots) :
    vx_Run p l e R s m args below meth c H locs cells slots mc ms g rest (Qc As.toArray) XC free := by
  have hK : vx_Back l R p e below s args y 3 8 (PreOf R mc ms Pc) (PostOf Qc mc ms free) (vx_Post XC mc ms free) := vx_callBack cw.1 hM hp.1
  obtain ⟨⟨-, -, -, -, -, -, hcode, hini, hy, hlen, hl⟩, hstt⟩ := cw
  obtain ⟨hx, hb, hml, ho, -⟩ := S
  intro T hT X
  rcases vx_callS X hx (bytes := bytes) (maxL := maxL) (ret := ret) ho hl hstt hini hcode hy hK hg (hsize.trans hml.symm) (argsL := As) (rest := rest) (fun sig h => hn.trans (hlen sig h)) hstack hW (by rw [hb]; exact hdg)
    (fun vm₁ hW₁ => ⟨hf.1, hf.2, hp.2 (T.setVm vm₁) hT hW₁⟩) with ⟨v, vm₁, ⟨U', l2, c2, s2⟩, hW₁, X', ⟨g', mk, t, L, e1, e2, hq, h1, hL, h2, h3⟩, st⟩ | ⟨q, vm₁, ⟨U', l2, c2, s2⟩, hW₁, X', ⟨g', mk, t, L, E, ce, e1, e2, hq, hce, hcv, hcl, h1, hL, h2, h3⟩, st⟩
  · dsimp only [Pt.U, Pt.locs, Pt.cells, Pt.slots] at X' e1 e2 h1 h2 h3 st
    subst h1; subst h2; subst h3
    exact Or.inl ⟨v, (T.setVm vm₁).calling g' mk As.toArray, t, U', L, hT, X', hL, e1, e2, hq, st⟩
  · dsimp only [Pt.U, Pt.locs, Pt.cells, Pt.slots] at X' e1 e2 h1 h2 h3 st hcl
    subst h1; subst h2; subst h3
    exact Or.inr ⟨q, (T.setVm vm₁).calling g' mk As.toArray, t, U', L, E, ce, hT, X', hL, e1, e2, hq, hce, hcv, vx_cls hW₁ hcl, st⟩
end Runs
section Rows
variable {p : Program} {l : Launch} {e : Env} {R : Room} {s : State} {m : MethodId} {args : Array Value} {below : List Frame} {meth : Method} {c : Code} {H : Heap} {locs : List Loc} {cells slots : Nat} {Q : State → Prop}
variable {mc ms : Nat} {free : Addr → Prop} {A0 A1 : Nat → Prop} {H0 : Heap} {a : Array Value} {pc : Nat} {ls : Array Slot} {st0 rest : List Value}
theorem vx_keep {st₀ t T' : State} {L : List Loc} (h0 : st₀.heap = H) (e1 : T'.heap = t.heap) (hS : va_S A0 H0 H locs) (hA : ∀ q, q < H.size → A1 q → A0 q) (hf : ∀ q, free q → A0 q) (hL : ∀ q ∈ L, free q.base) (hF : va_F A1 st₀ t) :
    H.size ≤ T'.heap.size ∧ (∀ q : Nat, q < H.size → ¬ A1 q → T'.heap[q]? = H[q]?) ∧ va_S A0 H0 T'.heap (locs ++ L) := by
  obtain ⟨hz, hk⟩ := hF
  rw [h0] at hz hk
  exact ⟨by rw [e1]; exact hz, fun q h1 h2 => by rw [e1]; exact hk q h1 h2,
    ⟨Nat.le_trans hS.1 (by rw [e1]; exact hz), fun q h1 h2 => by rw [e1, hk q (Nat.lt_of_lt_of_le h1 hS.1) (fun z => h2 (hA q (Nat.lt_of_lt_of_le h1 hS.1) z))]; exact hS.2.1 q h1 h2, fun q hq => by
      rcases List.mem_append.mp hq with h | h
      · exact hS.2.2 q h
      · exact hf _ (hL q h)⟩⟩
theorem vx_calli {S SX : Type} {post : Int32 → S → Prop} {px : SX → Prop} {B : S → State → Prop} {BX : String → SX → State → Prop} {AX : Nat → Prop} (hr : vx_Run p l e R s m args below meth c H locs cells slots mc ms (F0 m pc ls st0) rest (va_Qi post B A1 a) (vx_X px BX AX) free) (hS : va_S A0 H0 H locs) (hA : ∀ q, q < H.size → A1 q → A0 q) (hf : ∀ q, free q → A0 q) (hAX : ∀ q, q < H.size → AX q → A0 q)
    (kx : ∀ (E : String) (ce : Cell) (q9 : Addr) (u : SX) (t : State) (H1 : Heap) (locs1 : List Loc), t.heap = H1 → s.vm.Alike t.vm → px u → BX E u t → H.size ≤ H1.size → (∀ q : Nat, q < H.size → ¬ AX q → H1[q]? = H[q]?) → va_S A0 H0 H1 locs1 → H1[q9]? = some ce → ce.vm = .none → s.vm.findClass E = some ce.cls → vx_W p l e R s m args below meth c H1 locs1 (cells + mc) (slots + ms) Q (F0 m pc ls rest) q9)
    (kk : ∀ (r : Int32) (u : S) (t : State) (H1 : Heap) (locs1 : List Loc), t.heap = H1 → s.vm.Alike t.vm → post r u → B u t → H.size ≤ H1.size → (∀ q : Nat, q < H.size → ¬ A1 q → H1[q]? = H[q]?) → va_S A0 H0 H1 locs1 → W p l e R s m args below meth c H1 locs1 (cells + mc) (slots + ms) Q (F0 m (pc + 3) ls (.int r :: rest))) : W p l e R s m args below meth c H locs cells slots Q (F0 m pc ls st0) := by
  intro T hT X
  rcases hr T hT X with ⟨v, st₀, t, T', L, h0, X', hL, e1, e2, ⟨⟨r, u, hv, hp, hb⟩, hF⟩, st⟩ | ⟨q, st₀, t, T', L, E, ce, h0, X', hL, e1, e2, ⟨u, hp, hb, hF⟩, hce, hcv, hcl, st⟩
  · cases hv
    obtain ⟨k1, k2, k3⟩ := vx_keep h0 e1 hS hA hf hL hF
    obtain ⟨t2, a1, b1⟩ := kk r u t T'.heap (locs ++ L) e1.symm (by rw [← e2]; exact X'.warmed.alike) hp hb k1 k2 k3 T' rfl X'
    exact ⟨t2, st t2 a1, b1⟩
  · obtain ⟨k1, k2, k3⟩ := vx_keep h0 e1 hS hAX hf hL hF
    obtain ⟨t2, a1, b1⟩ := kx E ce q u t T'.heap (locs ++ L) e1.symm (by rw [← e2]; exact X'.warmed.alike) hp hb k1 k2 k3 (by rw [e1]; exact hce) hcv hcl T' rfl X'
    exact ⟨t2, st.trans a1, b1⟩
theorem vx_calll {S SX : Type} {post : Int64 → S → Prop} {px : SX → Prop} {B : S → State → Prop} {BX : String → SX → State → Prop} {AX : Nat → Prop} (hr : vx_Run p l e R s m args below meth c H locs cells slots mc ms (F0 m pc ls st0) rest (va_Ql post B A1 a) (vx_X px BX AX) free) (hS : va_S A0 H0 H locs) (hA : ∀ q, q < H.size → A1 q → A0 q) (hf : ∀ q, free q → A0 q) (hAX : ∀ q, q < H.size → AX q → A0 q)
    (kx : ∀ (E : String) (ce : Cell) (q9 : Addr) (u : SX) (t : State) (H1 : Heap) (locs1 : List Loc), t.heap = H1 → s.vm.Alike t.vm → px u → BX E u t → H.size ≤ H1.size → (∀ q : Nat, q < H.size → ¬ AX q → H1[q]? = H[q]?) → va_S A0 H0 H1 locs1 → H1[q9]? = some ce → ce.vm = .none → s.vm.findClass E = some ce.cls → vx_W p l e R s m args below meth c H1 locs1 (cells + mc) (slots + ms) Q (F0 m pc ls rest) q9)
    (kk : ∀ (r : Int64) (u : S) (t : State) (H1 : Heap) (locs1 : List Loc), t.heap = H1 → s.vm.Alike t.vm → post r u → B u t → H.size ≤ H1.size → (∀ q : Nat, q < H.size → ¬ A1 q → H1[q]? = H[q]?) → va_S A0 H0 H1 locs1 → W p l e R s m args below meth c H1 locs1 (cells + mc) (slots + ms) Q (F0 m (pc + 3) ls (.long r :: rest))) : W p l e R s m args below meth c H locs cells slots Q (F0 m pc ls st0) := by
  intro T hT X
  rcases hr T hT X with ⟨v, st₀, t, T', L, h0, X', hL, e1, e2, ⟨⟨r, u, hv, hp, hb⟩, hF⟩, st⟩ | ⟨q, st₀, t, T', L, E, ce, h0, X', hL, e1, e2, ⟨u, hp, hb, hF⟩, hce, hcv, hcl, st⟩
  · cases hv
    obtain ⟨k1, k2, k3⟩ := vx_keep h0 e1 hS hA hf hL hF
    obtain ⟨t2, a1, b1⟩ := kk r u t T'.heap (locs ++ L) e1.symm (by rw [← e2]; exact X'.warmed.alike) hp hb k1 k2 k3 T' rfl X'
    exact ⟨t2, st t2 a1, b1⟩
  · obtain ⟨k1, k2, k3⟩ := vx_keep h0 e1 hS hAX hf hL hF
    obtain ⟨t2, a1, b1⟩ := kx E ce q u t T'.heap (locs ++ L) e1.symm (by rw [← e2]; exact X'.warmed.alike) hp hb k1 k2 k3 (by rw [e1]; exact hce) hcv hcl T' rfl X'
    exact ⟨t2, st.trans a1, b1⟩
theorem vx_callf {S SX : Type} {post : UInt32 → S → Prop} {px : SX → Prop} {B : S → State → Prop} {BX : String → SX → State → Prop} {AX : Nat → Prop} (hr : vx_Run p l e R s m args below meth c H locs cells slots mc ms (F0 m pc ls st0) rest (va_Qf post B A1 a) (vx_X px BX AX) free) (hS : va_S A0 H0 H locs) (hA : ∀ q, q < H.size → A1 q → A0 q) (hf : ∀ q, free q → A0 q) (hAX : ∀ q, q < H.size → AX q → A0 q)
    (kx : ∀ (E : String) (ce : Cell) (q9 : Addr) (u : SX) (t : State) (H1 : Heap) (locs1 : List Loc), t.heap = H1 → s.vm.Alike t.vm → px u → BX E u t → H.size ≤ H1.size → (∀ q : Nat, q < H.size → ¬ AX q → H1[q]? = H[q]?) → va_S A0 H0 H1 locs1 → H1[q9]? = some ce → ce.vm = .none → s.vm.findClass E = some ce.cls → vx_W p l e R s m args below meth c H1 locs1 (cells + mc) (slots + ms) Q (F0 m pc ls rest) q9)
    (kk : ∀ (r : UInt32) (u : S) (t : State) (H1 : Heap) (locs1 : List Loc), t.heap = H1 → s.vm.Alike t.vm → post r u → B u t → H.size ≤ H1.size → (∀ q : Nat, q < H.size → ¬ A1 q → H1[q]? = H[q]?) → va_S A0 H0 H1 locs1 → W p l e R s m args below meth c H1 locs1 (cells + mc) (slots + ms) Q (F0 m (pc + 3) ls (.float r :: rest))) : W p l e R s m args below meth c H locs cells slots Q (F0 m pc ls st0) := by
  intro T hT X
  rcases hr T hT X with ⟨v, st₀, t, T', L, h0, X', hL, e1, e2, ⟨⟨r, u, hv, hp, hb⟩, hF⟩, st⟩ | ⟨q, st₀, t, T', L, E, ce, h0, X', hL, e1, e2, ⟨u, hp, hb, hF⟩, hce, hcv, hcl, st⟩
  · cases hv
    obtain ⟨k1, k2, k3⟩ := vx_keep h0 e1 hS hA hf hL hF
    obtain ⟨t2, a1, b1⟩ := kk r u t T'.heap (locs ++ L) e1.symm (by rw [← e2]; exact X'.warmed.alike) hp hb k1 k2 k3 T' rfl X'
    exact ⟨t2, st t2 a1, b1⟩
  · obtain ⟨k1, k2, k3⟩ := vx_keep h0 e1 hS hAX hf hL hF
    obtain ⟨t2, a1, b1⟩ := kx E ce q u t T'.heap (locs ++ L) e1.symm (by rw [← e2]; exact X'.warmed.alike) hp hb k1 k2 k3 (by rw [e1]; exact hce) hcv hcl T' rfl X'
    exact ⟨t2, st.trans a1, b1⟩
theorem vx_calld {S SX : Type} {post : UInt64 → S → Prop} {px : SX → Prop} {B : S → State → Prop} {BX : String → SX → State → Prop} {AX : Nat → Prop} (hr : vx_Run p l e R s m args below meth c H locs cells slots mc ms (F0 m pc ls st0) rest (va_Qd post B A1 a) (vx_X px BX AX) free) (hS : va_S A0 H0 H locs) (hA : ∀ q, q < H.size → A1 q → A0 q) (hf : ∀ q, free q → A0 q) (hAX : ∀ q, q < H.size → AX q → A0 q)
    (kx : ∀ (E : String) (ce : Cell) (q9 : Addr) (u : SX) (t : State) (H1 : Heap) (locs1 : List Loc), t.heap = H1 → s.vm.Alike t.vm → px u → BX E u t → H.size ≤ H1.size → (∀ q : Nat, q < H.size → ¬ AX q → H1[q]? = H[q]?) → va_S A0 H0 H1 locs1 → H1[q9]? = some ce → ce.vm = .none → s.vm.findClass E = some ce.cls → vx_W p l e R s m args below meth c H1 locs1 (cells + mc) (slots + ms) Q (F0 m pc ls rest) q9)
    (kk : ∀ (r : UInt64) (u : S) (t : State) (H1 : Heap) (locs1 : List Loc), t.heap = H1 → s.vm.Alike t.vm → post r u → B u t → H.size ≤ H1.size → (∀ q : Nat, q < H.size → ¬ A1 q → H1[q]? = H[q]?) → va_S A0 H0 H1 locs1 → W p l e R s m args below meth c H1 locs1 (cells + mc) (slots + ms) Q (F0 m (pc + 3) ls (.double r :: rest))) : W p l e R s m args below meth c H locs cells slots Q (F0 m pc ls st0) := by
  intro T hT X
  rcases hr T hT X with ⟨v, st₀, t, T', L, h0, X', hL, e1, e2, ⟨⟨r, u, hv, hp, hb⟩, hF⟩, st⟩ | ⟨q, st₀, t, T', L, E, ce, h0, X', hL, e1, e2, ⟨u, hp, hb, hF⟩, hce, hcv, hcl, st⟩
  · cases hv
    obtain ⟨k1, k2, k3⟩ := vx_keep h0 e1 hS hA hf hL hF
    obtain ⟨t2, a1, b1⟩ := kk r u t T'.heap (locs ++ L) e1.symm (by rw [← e2]; exact X'.warmed.alike) hp hb k1 k2 k3 T' rfl X'
    exact ⟨t2, st t2 a1, b1⟩
  · obtain ⟨k1, k2, k3⟩ := vx_keep h0 e1 hS hAX hf hL hF
    obtain ⟨t2, a1, b1⟩ := kx E ce q u t T'.heap (locs ++ L) e1.symm (by rw [← e2]; exact X'.warmed.alike) hp hb k1 k2 k3 (by rw [e1]; exact hce) hcv hcl T' rfl X'
    exact ⟨t2, st.trans a1, b1⟩
theorem vx_callv {S SX : Type} {post : S → Prop} {px : SX → Prop} {B : S → State → Prop} {BX : String → SX → State → Prop} {AX : Nat → Prop} (hr : vx_Run p l e R s m args below meth c H locs cells slots mc ms (F0 m pc ls st0) rest (va_Qv post B A1 a) (vx_X px BX AX) free) (hS : va_S A0 H0 H locs) (hA : ∀ q, q < H.size → A1 q → A0 q) (hf : ∀ q, free q → A0 q) (hAX : ∀ q, q < H.size → AX q → A0 q)
    (kx : ∀ (E : String) (ce : Cell) (q9 : Addr) (u : SX) (t : State) (H1 : Heap) (locs1 : List Loc), t.heap = H1 → s.vm.Alike t.vm → px u → BX E u t → H.size ≤ H1.size → (∀ q : Nat, q < H.size → ¬ AX q → H1[q]? = H[q]?) → va_S A0 H0 H1 locs1 → H1[q9]? = some ce → ce.vm = .none → s.vm.findClass E = some ce.cls → vx_W p l e R s m args below meth c H1 locs1 (cells + mc) (slots + ms) Q (F0 m pc ls rest) q9)
    (kk : ∀ (u : S) (t : State) (H1 : Heap) (locs1 : List Loc), t.heap = H1 → s.vm.Alike t.vm → post u → B u t → H.size ≤ H1.size → (∀ q : Nat, q < H.size → ¬ A1 q → H1[q]? = H[q]?) → va_S A0 H0 H1 locs1 → W p l e R s m args below meth c H1 locs1 (cells + mc) (slots + ms) Q (F0 m (pc + 3) ls (rest))) : W p l e R s m args below meth c H locs cells slots Q (F0 m pc ls st0) := by
  intro T hT X
  rcases hr T hT X with ⟨v, st₀, t, T', L, h0, X', hL, e1, e2, ⟨⟨u, hv, hp, hb⟩, hF⟩, st⟩ | ⟨q, st₀, t, T', L, E, ce, h0, X', hL, e1, e2, ⟨u, hp, hb, hF⟩, hce, hcv, hcl, st⟩
  · cases hv
    obtain ⟨k1, k2, k3⟩ := vx_keep h0 e1 hS hA hf hL hF
    obtain ⟨t2, a1, b1⟩ := kk u t T'.heap (locs ++ L) e1.symm (by rw [← e2]; exact X'.warmed.alike) hp hb k1 k2 k3 T' rfl X'
    exact ⟨t2, st t2 a1, b1⟩
  · obtain ⟨k1, k2, k3⟩ := vx_keep h0 e1 hS hAX hf hL hF
    obtain ⟨t2, a1, b1⟩ := kx E ce q u t T'.heap (locs ++ L) e1.symm (by rw [← e2]; exact X'.warmed.alike) hp hb k1 k2 k3 (by rw [e1]; exact hce) hcv hcl T' rfl X'
    exact ⟨t2, st.trans a1, b1⟩
/-- caught by the row x of this method's table; the rows ahead don't take it -/
theorem vx_catch {own name : String} {E : String} {ce : Cell} {q : Addr} (hown : s.vm.findClass own = some m.cls) (pre : List ExceptionTableEntry) (x : ExceptionTableEntry) (suf : List ExceptionTableEntry) (hsplit : c.exceptionTable.toList = pre ++ x :: suf)
    (hpass : ∀ z ∈ pre, covers z pc = false ∨ (z.catchType ≠ 0 ∧ ∃ nm : String, (Cond.classLink own z.catchType nm).before args s = true ∧ va_Nc E nm s)) (hx : covers x pc = true) (h0 : x.catchType ≠ 0)
    (hlink : (Cond.classLink own x.catchType name).before args s = true) (hcast : (Cond.castable E name).before args s = true) (hcell : H[q]? = some ce) (hv : ce.vm = .none) (hcl : s.vm.findClass E = some ce.cls)
    (kk : W p l e R s m args below meth c H locs cells slots Q (F0 m x.handlerPc ls [.ref q])) : vx_W p l e R s m args below meth c H locs cells slots Q (F0 m pc ls rest) q := by
  intro T hT X
  have hpl : e.platform.magicAccessors = ({} : Platform).magicAccessors := by rw [X.admits.platform]
  obtain ⟨c3, c4, hc3, hc4, hasg⟩ := Cond.castable_spec hcast
  cases Option.some.inj (hc3.symm.trans hcl)
  obtain ⟨c5, hc5, hcl5⟩ := Cond.classLink_spec hown hlink e.platform hpl
  cases Option.some.inj (hc4.symm.trans hc5)
  obtain ⟨vm', X', st⟩ := X.thenCaughtThrough q (g := F0 m pc ls rest) rfl (Steps.refl _) (by rw [hT]; exact hcell) (by rw [hv]; rfl) (by obtain ⟨k9, h9, -⟩ := Vm.findClass_spec hcl; exact ⟨k9, h9⟩) pre x suf hsplit
    (fun z hz => by
      rcases hpass z hz with h | ⟨hz0, nm, hl1, hn1⟩
      · exact Or.inl h
      · obtain ⟨c6, hc6, hcl6⟩ := Cond.classLink_spec hown hl1 e.platform hpl
        obtain ⟨a8, b8, h1, h2, h3⟩ := hn1
        cases Option.some.inj (h1.symm.trans hcl)
        cases Option.some.inj (h2.symm.trans hc6)
        exact Or.inr ⟨hz0, _, hcl6, h3⟩) hx (Or.inr ⟨h0, c4, hcl5, hasg⟩)
  obtain ⟨t, a1, b1⟩ := kk (T.setVm vm') hT X'
  exact ⟨t, st.trans a1, b1⟩
end Rows
section Ends
variable {p : Program} {l : Launch} {e : Env} {R : Room} {s : State} {m : MethodId} {args : Array Value} {below : List Frame} {meth : Method} {c : Code} {H : Heap} {locs : List Loc} {cells slots : Nat} {Q : State → Prop}
variable {mc ms : Nat} {free : Addr → Prop} {A0 A1 : Nat → Prop} {H0 : Heap} {a : Array Value} {ls : Array Slot} {st0 rest : List Value}
variable {Qc : Array Value → State → Outcome → State → Prop} {XC : String → State → State → Prop}
/-- what a body that may throw owes at its end -/
def vx_MQ (below : List Frame) (Qc : Array Value → State → Outcome → State → Prop) (XC : String → State → State → Prop) (a : Array Value) (s : State) (mc ms : Nat) (free : Addr → Prop) : State → Prop := fun t =>
  ∃ o, t.status = .running ∧ Ended t below o ∧ vx_Q Qc XC mc ms free a s o t
theorem vx_ret {g : JFrame} {mc ms : Nat} (k : W p l e R s m args below meth c H locs cells slots (MQ below Qc args s mc ms free) g) : W p l e R s m args below meth c H locs cells slots (vx_MQ below Qc XC args s mc ms free) g := by
  intro T hT X
  obtain ⟨t, a1, o, b1, b2, b3, b4⟩ := k T hT X
  exact ⟨t, a1, o, b1, b2, Or.inl ⟨b3, b4⟩⟩
/-- not caught here: it goes on to the caller -/
theorem vx_widen {g : JFrame} {q : Addr} {k n : Nat} (h1 : cells ≤ k) (h2 : slots ≤ n) (kk : vx_W p l e R s m args below meth c H locs k n Q g q) : vx_W p l e R s m args below meth c H locs cells slots Q g q := fun T hT X => kk T hT (stand_widen X h1 h2)
theorem vx_out {pc : Nat} {E : String} {ce : Cell} {q : Addr} {mc ms : Nat} (hout : ∀ x ∈ c.exceptionTable.toList, covers x pc = false) (hlocks : meth.locks = false) (hcell : H[q]? = some ce) (hv : ce.vm = .none) (hcl : s.vm.findClass E = some ce.cls)
    (hx : ∀ t : State, t.heap = H → s.vm.Alike t.vm → XC E s t) (hf : ∀ z ∈ locs, free z.base) (hc : cells ≤ mc) (hs : slots ≤ ms) :
    vx_W p l e R s m args below meth c H locs cells slots (vx_MQ below Qc XC args s mc ms free) (F0 m pc ls rest) q := by
  intro T hT X
  obtain ⟨st1, hrun, hend, hW, hsm⟩ := X.leaveThrown q (g := F0 m pc ls rest) rfl rfl rfl hout hlocks
  have hcell9 : (T.setFrames (.throwing q :: below)).heap[q]? = some ce := by
    show T.heap[q]? = some ce
    rw [hT]; exact hcell
  exact ⟨_, st1, .threw q, hrun, hend, Or.inr ⟨q, rfl, E, ce, locs, hx _ hT hW.alike, hcell9, hv, hcl, hW, hsm.mono hc hs, hf⟩⟩
theorem vx_frame {U : State} {k n : Nat} (h : s.sameButNew ({ U with vm := s.vm } : State) locs k n) : s.heap.size ≤ U.heap.size ∧ ∀ q : Nat, q < s.heap.size → (∀ z ∈ locs, z.base ≠ q) → U.heap[q]? = s.heap[q]? := by
  obtain ⟨-, h2, -, -, -, h6⟩ := h
  refine ⟨h2, fun q hq hz => ?_⟩
  obtain ⟨c9, e1, e2, e3, e4⟩ := h6 q _ (Array.getElem?_eq_getElem hq)
  have hs : c9.slots = (s.heap[q]).slots := Array.ext_getElem? fun i => e4 i fun hm => hz _ hm rfl
  have h9 : c9 = s.heap[q] := by
    rw [hs] at e2
    exact e2
  have e5 : U.heap[q]? = some c9 := e1
  rw [e5, h9, Array.getElem?_eq_getElem hq]
/-- the words of a throw but the four that speak of the heap -/
def vx_no (w : Cond) : Bool := decide (w ≠ .isRef (.static Bundle.tN "UNASSIGNED_STACK" Bundle.steD)) && decide (w ≠ .isRef (.static Bundle.tN "SUPPRESSED_SENTINEL" Bundle.listD)) && decide (w ≠ .laysStatic Bundle.tN "UNASSIGNED_STACK" Bundle.steD) && decide (w ≠ .laysStatic Bundle.tN "SUPPRESSED_SENTINEL" Bundle.listD)
def vx_at0 (own : String) (ic : Nat) (X : String) (names : List String) : List Cond := (Bundle.ownAtoms0 own ic X names).filter vx_no
def vx_atS (own : String) (ic : Nat) (X : String) (names : List String) : List Cond := (Bundle.ownAtoms own ic X names).filter vx_no
/-- a word that the tables alone decide, or a good one -/
def vx_ot (w : Cond) : Bool := w.onTables || goodWord w
theorem vx_ot_at {args a' : Array Value} {s U : State} {w : Cond} (hW : s.WarmedH U.vm) (hvm : s.vm = U.vm) (hg : vx_ot w = true) (h : w.before args s = true) : w.before a' U = true := by
  simp only [vx_ot, Bool.or_eq_true] at hg
  rcases hg with hg | hg
  · exact va_tabs hg hvm h
  · exact word_at hW (good_of_word hg) h
/-- a list's words: the good ones out of the method's own list, the others by premises of their own -/
theorem vx_hat {args : Array Value} {s : State} {L B : List Cond} (h1 : ∀ w ∈ L.filter goodWord, w.before args s = true) (h2 : ∀ w ∈ L.filter (fun w => !goodWord w), w ∈ B) (h3 : ∀ w ∈ B, w.before args s = true) : ∀ w ∈ L, w.before args s = true := by
  intro w hw
  by_cases g : goodWord w = true
  · exact h1 w (List.mem_filter.mpr ⟨hw, g⟩)
  · refine h3 w (h2 w (List.mem_filter.mpr ⟨hw, ?_⟩))
    show (!goodWord w) = true
    cases hgw : goodWord w
    · rfl
    · exact absurd hgw g
theorem vx_c {args : Array Value} {s : State} {w : Cond} {B : List Cond} (h : w.before args s = true) (t : ∀ w ∈ B, w.before args s = true) : ∀ w' ∈ w :: B, w'.before args s = true := fun w' h' => (List.mem_cons.mp h').elim (fun e => by rw [e]; exact h) (t w')
theorem vx_n {args : Array Value} {s : State} : ∀ w ∈ ([] : List Cond), w.before args s = true := fun _ h => nomatch h
theorem vx_own {args : Array Value} {s : State} {L : List Cond} (h1 : ∀ w ∈ L.filter vx_no, w.before args s = true)
    (hU : (Cond.isRef (.static Bundle.tN "UNASSIGNED_STACK" Bundle.steD)).before args s = true) (hN : (Cond.isRef (.static Bundle.tN "SUPPRESSED_SENTINEL" Bundle.listD)).before args s = true)
    (lU : (Cond.laysStatic Bundle.tN "UNASSIGNED_STACK" Bundle.steD).before args s = true) (lN : (Cond.laysStatic Bundle.tN "SUPPRESSED_SENTINEL" Bundle.listD).before args s = true) : ∀ w ∈ L, w.before args s = true := by
  intro w hw
  by_cases e1 : w = .isRef (.static Bundle.tN "UNASSIGNED_STACK" Bundle.steD)
  · rw [e1]; exact hU
  · by_cases e2 : w = .isRef (.static Bundle.tN "SUPPRESSED_SENTINEL" Bundle.listD)
    · rw [e2]; exact hN
    · by_cases e3 : w = .laysStatic Bundle.tN "UNASSIGNED_STACK" Bundle.steD
      · rw [e3]; exact lU
      · by_cases e4 : w = .laysStatic Bundle.tN "SUPPRESSED_SENTINEL" Bundle.listD
        · rw [e4]; exact lN
        · exact h1 w (List.mem_filter.mpr ⟨hw, by unfold vx_no; rw [decide_eq_true e1, decide_eq_true e2, decide_eq_true e3, decide_eq_true e4]; rfl⟩)
/-- where a static field lies, its class's statics cell in H -/
def vx_L (C n d : String) (A : Nat → Prop) (U : State) (H : Heap) : Prop := ∃ (c : ClassId) (k : Class) (i : Nat) (f : Field) (a : Nat) (cell : Cell), U.vm.findClass C = some c ∧ U.fieldFound? C n d = some (c, k, i, f) ∧ f.isStatic = true ∧ k.statics = some a ∧ H[a]? = some cell ∧ cell.vm.isStatics = true ∧ cell.cls = c ∧ f.slot < cell.slots.size ∧ k.staticTypes[f.slot]? = some f.type ∧ ¬ A a
theorem vx_L.moved {C n d : String} {A : Nat → Prop} {u U : State} {H : Heap} (hvm : u.vm.Alike U.vm) (h : vx_L C n d A u H) : vx_L C n d A U H := by
  obtain ⟨c, k, i, f, a, cell, h1, h2, h3, h4, h5, h6, h7, h8, h9, h10⟩ := h
  obtain ⟨k', hi', he⟩ := State.fieldFound?_setVm hvm h2
  exact ⟨c, k', i, f, a, cell, by rw [hvm.findClass]; exact h1, hi', h3, by rw [he]; exact h4, h5, h6, h7, h8, by rw [he]; exact h9, h10⟩
theorem vx_L.kept {C n d : String} {A : Nat → Prop} {U : State} {H H1 : Heap} (h : vx_L C n d A U H) (hq : ∀ a : Nat, a < H.size → ¬ A a → H1[a]? = H[a]?) : vx_L C n d A U H1 := by
  obtain ⟨c, k, i, f, a, cell, h1, h2, h3, h4, h5, h6, h7, h8, h9, h10⟩ := h
  exact ⟨c, k, i, f, a, cell, h1, h2, h3, h4, by rw [hq a (Array.getElem?_eq_some_iff.mp h5).1 h10]; exact h5, h6, h7, h8, h9, h10⟩
theorem vx_L.narrow {C n d : String} {A B : Nat → Prop} {U : State} {H : Heap} (h : vx_L C n d A U H) (hAB : ∀ q, B q → A q) : vx_L C n d B U H := by
  obtain ⟨c, k, i, f, a, cell, h1, h2, h3, h4, h5, h6, h7, h8, h9, h10⟩ := h
  exact ⟨c, k, i, f, a, cell, h1, h2, h3, h4, h5, h6, h7, h8, h9, fun z => h10 (hAB _ z)⟩
theorem vx_L.word {C n d : String} {A : Nat → Prop} {s : State} {args : Array Value} (h : vx_L C n d A s s.heap) : (Cond.laysStatic C n d).before args s = true := by
  obtain ⟨c, k, i, f, a, cell, h1, h2, h3, h4, h5, h6, h7, h8, h9, -⟩ := h
  show (Cond.laysStatic C n d).holds args s none s [] = true
  exact Cond.laysStatic_of h1 h2 h3 h4 h5 h6 h7 h8 h9
/-- .. and what it holds: null or some reference -/
def vx_Zq (C n d : String) (A : Nat → Prop) (U : State) (H : Heap) : Prop := va_Zq C n d A U H ∧ vx_L C n d A U H
theorem vx_Zq.moved {C n d : String} {A : Nat → Prop} {u U : State} {H : Heap} (hvm : u.vm.Alike U.vm) (h : vx_Zq C n d A u H) : vx_Zq C n d A U H := ⟨va_Zq.moved hvm h.1, vx_L.moved hvm h.2⟩
theorem vx_Zq.kept {C n d : String} {A : Nat → Prop} {U : State} {H H1 : Heap} (h : vx_Zq C n d A U H) (hq : ∀ a : Nat, a < H.size → ¬ A a → H1[a]? = H[a]?) : vx_Zq C n d A U H1 := ⟨va_Zq.kept h.1 hq, vx_L.kept h.2 hq⟩
theorem vx_Zq.narrow {C n d : String} {A B : Nat → Prop} {U : State} {H : Heap} (h : vx_Zq C n d A U H) (hAB : ∀ q, B q → A q) : vx_Zq C n d B U H := ⟨va_Zq.narrow h.1 hAB, vx_L.narrow h.2 hAB⟩
theorem vx_Zqof {args : Array Value} {s : State} {C n d : String} {A : Nat → Prop} (hl : (Cond.laysStatic C n d).before args s = true) (hini : (Cond.initialized C).before args s = true) (h : (Cond.isRef (.static C n d)).before args s = true) (hA : ∀ a : Nat, a < s.heap.size → ¬ A a) : vx_Zq C n d A s s.heap := by
  refine ⟨va_Zqof hl hini h hA, ?_⟩
  obtain ⟨c, k, i, f, a, cell, h1, h2, h3, h4, h5, h6, h7, h8, h9⟩ := Cond.laysStatic_spec hl
  exact ⟨c, k, i, f, a, cell, h1, h2, h3, h4, h5, h6, h7, h8, h9, hA a (Array.getElem?_eq_some_iff.mp h5).1⟩
theorem vx_isRef {C n d : String} {v : Value} {A : Nat → Prop} {s : State} {args : Array Value} (h : va_Z C n d v A s s.heap) (hv : v.isRef = true) : (Cond.isRef (.static C n d)).before args s = true := by
  obtain ⟨cf, kf, fi, f, a, cell, h1, h2, h3, h4, h5, h6, h7, -⟩ := h
  have he : (Term.static C n d).eval args s none [] s = some v := by
    simp [Term.eval, State.fieldNamed?, h1, h2, h4, h5, h6, h7]
  simp only [Cond.before, Cond.holds, Cond.value, he]
  cases v <;> simp_all [Value.isRef]
theorem vx_isRefq {C n d : String} {A : Nat → Prop} {s : State} {args : Array Value} (h : va_Zq C n d A s s.heap) : (Cond.isRef (.static C n d)).before args s = true := by
  rcases h with h | ⟨t, h⟩
  · exact vx_isRef h rfl
  · exact vx_isRef h rfl
/-- the same frame, seen from here: as if the method were called anew in this heap -/
theorem vx_rebase {T : State} (X : Stand p l e R s m args below meth c T locs cells slots) {R' : Room} (hf : R'.frames ≤ R.frames) (hl : R'.locals ≤ R.locals) (hc : cells + R'.cells ≤ R.cells) (hs : slots + R'.slots ≤ R.slots) :
    Stand p l e R' ((T.setVm s.vm).setFrames (.invoking m args :: below)) m args below meth c T [] 0 0 := by
  have htop : (T.setVm s.vm).topJava?.isSome := X.here.top
  have hF : ((T.setVm s.vm).setFrames (.invoking m args :: below)).frames = .invoking m args :: below := State.frames_setFrames _ (State.cur_lt_of_top htop)
  obtain ⟨g₀, hg0⟩ := Option.isSome_iff_exists.mp htop
  obtain ⟨r, hr⟩ := State.topJava?_eq_some.mp hg0
  have hl9 : e.platform.stackLimits (T.setVm s.vm).me = e.platform.stackLimits s.me := X.limits
  have hb9 : (T.setVm s.vm).me.stackBytes = s.me.stackBytes := X.bytes
  refine ⟨X.admits, X.cas, X.clock, hF, ?_, X.hears, X.method, X.code, X.here, X.tail, X.warmed, ?_, ?_, ?_⟩
  · have h := X.room
    have hU : ((T.setVm s.vm).setFrames (.invoking m args :: below)).localsInUse = s.localsInUse := by
      rw [State.localsInUse_invoking hF (meth := meth) (c := c) X.method X.code, State.localsInUse_invoking X.frames X.method X.code]
    simp only [State.hasRoom, Bool.and_eq_true, decide_eq_true_eq] at h ⊢
    obtain ⟨⟨⟨⟨h1, h2, h3, h4, h5, h6⟩, h7⟩, h8⟩, h9⟩ := h
    rw [X.frames, List.length_cons] at h2 h3
    have q1 := X.heapSize
    have q2 := X.used
    simp only [hF, hU, List.length_cons, State.stackLimits_setFrames, State.stackBytes_setFrames, hl9, hb9]
    refine ⟨⟨⟨⟨by omega, by omega, by omega, by omega, by omega, h6⟩, ?_⟩, ?_⟩, X.book⟩
    · show T.heap.size + R'.cells ≤ e.platform.maxCells
      omega
    · show T.slotsUsed + R'.slots ≤ e.platform.maxSlots
      omega
  · rw [State.stackLimits_setFrames]; rfl
  · rw [State.stackBytes_setFrames]; rfl
  · refine ⟨?_, Nat.le_refl _, Nat.le_refl _, ?_, ?_, fun a c9 h9 => ⟨c9, h9, rfl, rfl, fun _ _ => rfl⟩⟩
    · obtain ⟨t, ht, -⟩ := State.frames_cons hr
      show T.setVm s.vm = { ((T.setVm s.vm).setFrames (.invoking m args :: below)).setFrames (T.setVm s.vm).frames with heap := T.heap, slotsUsed := T.slotsUsed }
      rw [State.setFrames_setFrames, State.setFrames_self ht]
      rfl
    · show T.slotsUsed = T.slotsUsed + ((T.heap.toList.drop T.heap.size).map (·.slots.size)).sum
      rw [List.drop_eq_nil_of_le (Nat.le_of_eq Array.length_toList)]
      rfl
    · show ((T.heap.toList.drop T.heap.size).map (·.slots.size)).sum ≤ 0
      rw [List.drop_eq_nil_of_le (Nat.le_of_eq Array.length_toList)]
      exact Nat.le_refl _
/-- 'throw new E()': new; dup; invokespecial; athrow -/
theorem vx_throw0 {cc : ByteArray} {pc : Nat} (hexec : p.tables.exec = Jvm.exec) (hb : c.code = cc) (hl : l.stackTraces = false) {own cls : String} {names : List String} {ik ic mc ms : Nat} {A : Nat → Prop}
    (hown : s.vm.findClass own = some m.cls) (hcls : Bundle.fit cls = true) (hnames : ∀ n ∈ names, Bundle.fit n = true)
    (hk : (Cond.classLink own ik cls).before args s = true) (hini : (Cond.initialized cls).before args s = true) (hat : ∀ w ∈ vx_at0 own ic cls names, w.before args s = true)
    (hgood : ∀ w ∈ Cond.classLink own ik cls :: Cond.initialized cls :: vx_at0 own ic cls names, vx_ot w = true)
    (hU : vx_Zq Bundle.tN "UNASSIGNED_STACK" Bundle.steD A s s.heap) (hN : vx_Zq Bundle.tN "SUPPRESSED_SENTINEL" Bundle.listD A s s.heap) (hS : va_S A s.heap H locs) (hsize : ls.size = c.maxLocals)
    (d0 : decode cc pc = .ok (.new ik, 3)) (d3 : decode cc (pc + 3) = .ok (.dup, 1)) (d4 : decode cc (pc + 4) = .ok (.invokespecial ic, 3)) (d7 : decode cc (pc + 7) = .ok (.athrow, 1))
    (hout : ∀ x ∈ c.exceptionTable.toList, covers x (pc + 7) = false)
    (hRframes : names.length + 3 < R.frames) (hRlocals : (rest.map fun v => v.category).sum + (13 * (names.length + 1) + 42) ≤ R.locals) (hRcells : cells + 1 ≤ R.cells) (hRslots : slots + 6 ≤ R.slots) (hlocks : meth.locks = false)
    (hx : ∀ t : State, s.vm.Alike t.vm → H.size ≤ t.heap.size → (∀ q : Nat, q < H.size → t.heap[q]? = H[q]?) → XC cls s t)
    (hf : ∀ z ∈ locs, free z.base) (hc : cells + 1 ≤ mc) (hs : slots + 6 ≤ ms) :
    W p l e R s m args below meth c H locs cells slots (vx_MQ below Qc XC args s mc ms free) (F0 m pc ls rest) := by
  intro T hT X
  have htr : e.platform.stackTraces = false := (show e.platform.stackTraces = l.stackTraces by rw [X.admits.platform]).trans hl
  have Y := vx_rebase X (R' := { frames := R.frames, locals := R.locals, cells := 1, slots := 6 }) (Nat.le_refl _) (Nat.le_refl _) hRcells hRslots
  obtain ⟨s', hA⟩ : ∃ z, z = (T.setVm s.vm).setFrames (.invoking m args :: below) := ⟨_, rfl⟩
  rw [← hA] at Y
  have hvm : s'.vm = s.vm := by rw [hA]; rfl
  have hhp : s'.heap = H := by rw [hA]; exact hT
  have hW0 : s.WarmedH s'.vm := by rw [hvm]; exact State.WarmedH.refl s
  have hat' : ∀ w ∈ vx_at0 own ic cls names, w.before args s' = true := fun w hw => vx_ot_at hW0 hvm.symm (hgood w (List.mem_cons_of_mem _ (List.mem_cons_of_mem _ hw))) (hat w hw)
  have hk' : (Cond.classLink own ik cls).before args s' = true := vx_ot_at hW0 hvm.symm (hgood _ List.mem_cons_self) hk
  have hini' : (Cond.initialized cls).before args s' = true := vx_ot_at hW0 hvm.symm (hgood _ (List.mem_cons_of_mem _ List.mem_cons_self)) hini
  have hU' : vx_Zq Bundle.tN "UNASSIGNED_STACK" Bundle.steD A s' s'.heap := by rw [hhp]; exact vx_Zq.moved hW0.alike (hU.kept hS.2.1)
  have hN' : vx_Zq Bundle.tN "SUPPRESSED_SENTINEL" Bundle.listD A s' s'.heap := by rw [hhp]; exact vx_Zq.moved hW0.alike (hN.kept hS.2.1)
  have h : ∀ w ∈ Bundle.ownAtoms0 own ic cls names, w.before args s' = true := vx_own hat' (vx_isRefq hU'.1) (vx_isRefq hN'.1) hU'.2.word hN'.2.word
  have hown' : s'.vm.findClass own = some m.cls := by rw [hvm]; exact hown
  have hins : (Cond.instantiable cls 6).before args s' = true := h _ (by simp [Bundle.ownAtoms0])
  obtain ⟨vm₁, cX, kX, hfX, hkX, -, -, X₁, st1⟩ := Y.newCold hexec (own := own) (C := cls) (index := ik) (n := 6) hown' hk' hins hini'
    (g := F0 m pc ls rest) rfl (by rw [hb]; exact d0) (Nat.le_refl _) (Nat.le_refl _)
  generalize hT1 : (T.setVm vm₁).pushCell { cls := cX, slots := kX.instanceTypes.map defaultValue, vm := .none } = T1 at X₁ st1
  have hcat : (Value.ref T.heap.size).category = 1 := rfl
  have hcellA : T1.heap[T.heap.size]? = some (freshCell cX kX) := by rw [← hT1]; exact State.heap_pushCell_size _ _
  have d3' : decode c.code (pc + 3) = .ok (.dup, 1) := by rw [hb]; exact d3
  obtain ⟨U, hsteps, hrun, hend, hW, hsame, ce, hce, hO⟩ := X₁.ctorThrow0 hexec htr (own := own) (cls := cls) (names := names) (ic := ic) hown' hcls hnames h (fun x hx => nomatch hx) hfX hkX hcellA (by rw [hhp, hT]; exact Nat.le_refl _)
    (g := { method := m, pc := pc + 4, locals := ls, stack := .ref T.heap.size :: .ref T.heap.size :: rest, locked := none }) rfl hsize rfl rfl (rest := rest) rfl
    (by rw [hb]; exact d4) (by rw [hb]; exact d7) hout hRframes (by simp only [List.map_cons, List.sum_cons, hcat]; omega) hlocks
  obtain ⟨f1, f2⟩ := vx_frame hsame
  rw [hhp] at f1 f2
  have hWs : s.WarmedH U.vm := State.WarmedH.trans hW0 hW
  have hcl : s.vm.findClass cls = some ce.cls := by
    have h9 := hO.cls
    rw [hvm] at h9
    exact h9
  have hall : s.sameButNew ({ U with vm := s.vm } : State) locs mc ms := by
    subst hA
    obtain ⟨e1, e2⟩ := hsame
    rw [State.setFrames_setFrames] at e1
    have h2 : (T.setVm s.vm).sameButNew ({ U with vm := s.vm } : State) [] (0 + 1) (0 + 6) := ⟨e1, e2⟩
    have h3 := X.same.trans h2
    rw [List.append_nil] at h3
    exact h3.mono hc hs
  refine ⟨U, ?_, .threw T.heap.size, hrun, hend, Or.inr ⟨T.heap.size, rfl, cls, ce, locs, hx U hWs.alike f1 (fun q hq => f2 q hq (fun z hz => nomatch hz)), hce, hO.vm, hcl, hWs, hall, hf⟩⟩
  refine st1 _ ?_
  show Steps p.tables e below (T1.setTop { method := m, pc := pc + 3, locals := ls, stack := .ref T.heap.size :: rest, locked := none }) _
  jvm_step X₁.here [X₁.here.top, hexec, d3', Value.category]
  exact hsteps
/-- 'throw new E("text")': new; dup; ldc; invokespecial; athrow -/
theorem vx_throwS {cc : ByteArray} {pc : Nat} (hexec : p.tables.exec = Jvm.exec) (hb : c.code = cc) (hl : l.stackTraces = false) {own cls text : String} {names : List String} {ik is ic mc ms sa : Nat} {A : Nat → Prop}
    (hown : s.vm.findClass own = some m.cls) (hcls : Bundle.fit cls = true) (hnames : ∀ n ∈ names, Bundle.fit n = true)
    (hk : (Cond.classLink own ik cls).before args s = true) (hini : (Cond.initialized cls).before args s = true) (hstr : vk_R own is text sa s) (hat : ∀ w ∈ vx_atS own ic cls names, w.before args s = true)
    (hgood : ∀ w ∈ Cond.classLink own ik cls :: Cond.initialized cls :: vx_atS own ic cls names, vx_ot w = true)
    (hU : vx_Zq Bundle.tN "UNASSIGNED_STACK" Bundle.steD A s s.heap) (hN : vx_Zq Bundle.tN "SUPPRESSED_SENTINEL" Bundle.listD A s s.heap) (hS : va_S A s.heap H locs) (hsize : ls.size = c.maxLocals)
    (d0 : decode cc pc = .ok (.new ik, 3)) (d3 : decode cc (pc + 3) = .ok (.dup, 1)) (d4 : decode cc (pc + 4) = .ok (.ldc is, 2)) (d6 : decode cc (pc + 6) = .ok (.invokespecial ic, 3)) (d9 : decode cc (pc + 9) = .ok (.athrow, 1))
    (hout : ∀ x ∈ c.exceptionTable.toList, covers x (pc + 9) = false)
    (hRframes : names.length + 3 < R.frames) (hRlocals : (rest.map fun v => v.category).sum + (13 * (names.length + 1) + 43) ≤ R.locals) (hRcells : cells + 1 ≤ R.cells) (hRslots : slots + 6 ≤ R.slots) (hlocks : meth.locks = false)
    (hx : ∀ t : State, s.vm.Alike t.vm → H.size ≤ t.heap.size → (∀ q : Nat, q < H.size → t.heap[q]? = H[q]?) → XC cls s t)
    (hf : ∀ z ∈ locs, free z.base) (hc : cells + 1 ≤ mc) (hs : slots + 6 ≤ ms) :
    W p l e R s m args below meth c H locs cells slots (vx_MQ below Qc XC args s mc ms free) (F0 m pc ls rest) := by
  intro T hT X
  have htr : e.platform.stackTraces = false := (show e.platform.stackTraces = l.stackTraces by rw [X.admits.platform]).trans hl
  have Y := vx_rebase X (R' := { frames := R.frames, locals := R.locals, cells := 1, slots := 6 }) (Nat.le_refl _) (Nat.le_refl _) hRcells hRslots
  obtain ⟨s', hA⟩ : ∃ z, z = (T.setVm s.vm).setFrames (.invoking m args :: below) := ⟨_, rfl⟩
  rw [← hA] at Y
  have hvm : s'.vm = s.vm := by rw [hA]; rfl
  have hhp : s'.heap = H := by rw [hA]; exact hT
  have hW0 : s.WarmedH s'.vm := by rw [hvm]; exact State.WarmedH.refl s
  have hat' : ∀ w ∈ vx_atS own ic cls names, w.before args s' = true := fun w hw => vx_ot_at hW0 hvm.symm (hgood w (List.mem_cons_of_mem _ (List.mem_cons_of_mem _ hw))) (hat w hw)
  have hk' : (Cond.classLink own ik cls).before args s' = true := vx_ot_at hW0 hvm.symm (hgood _ List.mem_cons_self) hk
  have hini' : (Cond.initialized cls).before args s' = true := vx_ot_at hW0 hvm.symm (hgood _ (List.mem_cons_of_mem _ List.mem_cons_self)) hini
  have hU' : vx_Zq Bundle.tN "UNASSIGNED_STACK" Bundle.steD A s' s'.heap := by rw [hhp]; exact vx_Zq.moved hW0.alike (hU.kept hS.2.1)
  have hN' : vx_Zq Bundle.tN "SUPPRESSED_SENTINEL" Bundle.listD A s' s'.heap := by rw [hhp]; exact vx_Zq.moved hW0.alike (hN.kept hS.2.1)
  have h : ∀ w ∈ Bundle.ownAtoms own ic cls names, w.before args s' = true := vx_own hat' (vx_isRefq hU'.1) (vx_isRefq hN'.1) hU'.2.word hN'.2.word
  have hown' : s'.vm.findClass own = some m.cls := by rw [hvm]; exact hown
  have hins : (Cond.instantiable cls 6).before args s' = true := h _ (by simp [Bundle.ownAtoms])
  obtain ⟨vm₁, cX, kX, hfX, hkX, -, -, X₁, st1⟩ := Y.newCold hexec (own := own) (C := cls) (index := ik) (n := 6) hown' hk' hins hini'
    (g := F0 m pc ls rest) rfl (by rw [hb]; exact d0) (Nat.le_refl _) (Nat.le_refl _)
  generalize hT1 : (T.setVm vm₁).pushCell { cls := cX, slots := kX.instanceTypes.map defaultValue, vm := .none } = T1 at X₁ st1
  have hcat : (Value.ref T.heap.size).category = 1 := rfl
  have hcellA : T1.heap[T.heap.size]? = some (freshCell cX kX) := by rw [← hT1]; exact State.heap_pushCell_size _ _
  have d3' : decode c.code (pc + 3) = .ok (.dup, 1) := by rw [hb]; exact d3
  have d4' : decode c.code (pc + 4) = .ok (.ldc is, 2) := by rw [hb]; exact d4
  have hstr' : vk_R own is text sa s' := vk_R.warm hW0 hstr
  obtain ⟨U, hsteps, hrun, hend, hW, hsame, ce, hce, hO⟩ := X₁.ctorThrowS hexec htr (own := own) (cls := cls) (names := names) (ic := ic) hown' hcls hnames h (fun x hx => nomatch hx) hfX hkX hcellA (by rw [hhp, hT]; exact Nat.le_refl _) (msg := .ref sa) rfl
    (g := { method := m, pc := pc + 6, locals := ls, stack := .ref sa :: .ref T.heap.size :: .ref T.heap.size :: rest, locked := none }) rfl hsize rfl rfl (rest := rest) rfl
    (by rw [hb]; exact d6) (by rw [hb]; exact d9) hout hRframes (by simp only [List.map_cons, List.sum_cons, hcat]; omega) hlocks
  obtain ⟨f1, f2⟩ := vx_frame hsame
  rw [hhp] at f1 f2
  have hWs : s.WarmedH U.vm := State.WarmedH.trans hW0 hW
  have hcl : s.vm.findClass cls = some ce.cls := by
    have h9 := hO.cls
    rw [hvm] at h9
    exact h9
  have hall : s.sameButNew ({ U with vm := s.vm } : State) locs mc ms := by
    subst hA
    obtain ⟨e1, e2⟩ := hsame
    rw [State.setFrames_setFrames] at e1
    have h2 : (T.setVm s.vm).sameButNew ({ U with vm := s.vm } : State) [] (0 + 1) (0 + 6) := ⟨e1, e2⟩
    have h3 := X.same.trans h2
    rw [List.append_nil] at h3
    exact h3.mono hc hs
  refine ⟨U, ?_, .threw T.heap.size, hrun, hend, Or.inr ⟨T.heap.size, rfl, cls, ce, locs, hx U hWs.alike f1 (fun q hq => f2 q hq (fun z hz => nomatch hz)), hce, hO.vm, hcl, hWs, hall, hf⟩⟩
  refine st1 _ ?_
  show Steps p.tables e below (T1.setTop { method := m, pc := pc + 3, locals := ls, stack := .ref T.heap.size :: rest, locked := none }) _
  jvm_step X₁.here [X₁.here.top, hexec, d3', Value.category]
  exact X₁.ldcString hexec (own := own) (text := text) (index := is) (a := sa) hown' hstr'.1 hstr'.2
    (g := { method := m, pc := pc + 4, locals := ls, stack := .ref T.heap.size :: .ref T.heap.size :: rest, locked := none }) rfl d4' _ hsteps
/-- 'throw new E("text")', the text by a wide index -/
theorem vx_throwSW {cc : ByteArray} {pc : Nat} (hexec : p.tables.exec = Jvm.exec) (hb : c.code = cc) (hl : l.stackTraces = false) {own cls text : String} {names : List String} {ik is ic mc ms sa : Nat} {A : Nat → Prop}
    (hown : s.vm.findClass own = some m.cls) (hcls : Bundle.fit cls = true) (hnames : ∀ n ∈ names, Bundle.fit n = true)
    (hk : (Cond.classLink own ik cls).before args s = true) (hini : (Cond.initialized cls).before args s = true) (hstr : vk_R own is text sa s) (hat : ∀ w ∈ vx_atS own ic cls names, w.before args s = true)
    (hgood : ∀ w ∈ Cond.classLink own ik cls :: Cond.initialized cls :: vx_atS own ic cls names, vx_ot w = true)
    (hU : vx_Zq Bundle.tN "UNASSIGNED_STACK" Bundle.steD A s s.heap) (hN : vx_Zq Bundle.tN "SUPPRESSED_SENTINEL" Bundle.listD A s s.heap) (hS : va_S A s.heap H locs) (hsize : ls.size = c.maxLocals)
    (d0 : decode cc pc = .ok (.new ik, 3)) (d3 : decode cc (pc + 3) = .ok (.dup, 1)) (d4 : decode cc (pc + 4) = .ok (.ldc_w is, 3)) (d7 : decode cc (pc + 7) = .ok (.invokespecial ic, 3)) (d10 : decode cc (pc + 10) = .ok (.athrow, 1))
    (hout : ∀ x ∈ c.exceptionTable.toList, covers x (pc + 10) = false)
    (hRframes : names.length + 3 < R.frames) (hRlocals : (rest.map fun v => v.category).sum + (13 * (names.length + 1) + 43) ≤ R.locals) (hRcells : cells + 1 ≤ R.cells) (hRslots : slots + 6 ≤ R.slots) (hlocks : meth.locks = false)
    (hx : ∀ t : State, s.vm.Alike t.vm → H.size ≤ t.heap.size → (∀ q : Nat, q < H.size → t.heap[q]? = H[q]?) → XC cls s t)
    (hf : ∀ z ∈ locs, free z.base) (hc : cells + 1 ≤ mc) (hs : slots + 6 ≤ ms) :
    W p l e R s m args below meth c H locs cells slots (vx_MQ below Qc XC args s mc ms free) (F0 m pc ls rest) := by
  intro T hT X
  have htr : e.platform.stackTraces = false := (show e.platform.stackTraces = l.stackTraces by rw [X.admits.platform]).trans hl
  have Y := vx_rebase X (R' := { frames := R.frames, locals := R.locals, cells := 1, slots := 6 }) (Nat.le_refl _) (Nat.le_refl _) hRcells hRslots
  obtain ⟨s', hA⟩ : ∃ z, z = (T.setVm s.vm).setFrames (.invoking m args :: below) := ⟨_, rfl⟩
  rw [← hA] at Y
  have hvm : s'.vm = s.vm := by rw [hA]; rfl
  have hhp : s'.heap = H := by rw [hA]; exact hT
  have hW0 : s.WarmedH s'.vm := by rw [hvm]; exact State.WarmedH.refl s
  have hat' : ∀ w ∈ vx_atS own ic cls names, w.before args s' = true := fun w hw => vx_ot_at hW0 hvm.symm (hgood w (List.mem_cons_of_mem _ (List.mem_cons_of_mem _ hw))) (hat w hw)
  have hk' : (Cond.classLink own ik cls).before args s' = true := vx_ot_at hW0 hvm.symm (hgood _ List.mem_cons_self) hk
  have hini' : (Cond.initialized cls).before args s' = true := vx_ot_at hW0 hvm.symm (hgood _ (List.mem_cons_of_mem _ List.mem_cons_self)) hini
  have hU' : vx_Zq Bundle.tN "UNASSIGNED_STACK" Bundle.steD A s' s'.heap := by rw [hhp]; exact vx_Zq.moved hW0.alike (hU.kept hS.2.1)
  have hN' : vx_Zq Bundle.tN "SUPPRESSED_SENTINEL" Bundle.listD A s' s'.heap := by rw [hhp]; exact vx_Zq.moved hW0.alike (hN.kept hS.2.1)
  have h : ∀ w ∈ Bundle.ownAtoms own ic cls names, w.before args s' = true := vx_own hat' (vx_isRefq hU'.1) (vx_isRefq hN'.1) hU'.2.word hN'.2.word
  have hown' : s'.vm.findClass own = some m.cls := by rw [hvm]; exact hown
  have hins : (Cond.instantiable cls 6).before args s' = true := h _ (by simp [Bundle.ownAtoms])
  obtain ⟨vm₁, cX, kX, hfX, hkX, -, -, X₁, st1⟩ := Y.newCold hexec (own := own) (C := cls) (index := ik) (n := 6) hown' hk' hins hini'
    (g := F0 m pc ls rest) rfl (by rw [hb]; exact d0) (Nat.le_refl _) (Nat.le_refl _)
  generalize hT1 : (T.setVm vm₁).pushCell { cls := cX, slots := kX.instanceTypes.map defaultValue, vm := .none } = T1 at X₁ st1
  have hcat : (Value.ref T.heap.size).category = 1 := rfl
  have hcellA : T1.heap[T.heap.size]? = some (freshCell cX kX) := by rw [← hT1]; exact State.heap_pushCell_size _ _
  have d3' : decode c.code (pc + 3) = .ok (.dup, 1) := by rw [hb]; exact d3
  have d4' : decode c.code (pc + 4) = .ok (.ldc_w is, 3) := by rw [hb]; exact d4
  have hstr' : vk_R own is text sa s' := vk_R.warm hW0 hstr
  obtain ⟨U, hsteps, hrun, hend, hW, hsame, ce, hce, hO⟩ := X₁.ctorThrowS hexec htr (own := own) (cls := cls) (names := names) (ic := ic) hown' hcls hnames h (fun x hx => nomatch hx) hfX hkX hcellA (by rw [hhp, hT]; exact Nat.le_refl _) (msg := .ref sa) rfl
    (g := { method := m, pc := pc + 7, locals := ls, stack := .ref sa :: .ref T.heap.size :: .ref T.heap.size :: rest, locked := none }) rfl hsize rfl rfl (rest := rest) rfl
    (by rw [hb]; exact d7) (by rw [hb]; exact d10) hout hRframes (by simp only [List.map_cons, List.sum_cons, hcat]; omega) hlocks
  obtain ⟨f1, f2⟩ := vx_frame hsame
  rw [hhp] at f1 f2
  have hWs : s.WarmedH U.vm := State.WarmedH.trans hW0 hW
  have hcl : s.vm.findClass cls = some ce.cls := by
    have h9 := hO.cls
    rw [hvm] at h9
    exact h9
  have hall : s.sameButNew ({ U with vm := s.vm } : State) locs mc ms := by
    subst hA
    obtain ⟨e1, e2⟩ := hsame
    rw [State.setFrames_setFrames] at e1
    have h2 : (T.setVm s.vm).sameButNew ({ U with vm := s.vm } : State) [] (0 + 1) (0 + 6) := ⟨e1, e2⟩
    have h3 := X.same.trans h2
    rw [List.append_nil] at h3
    exact h3.mono hc hs
  refine ⟨U, ?_, .threw T.heap.size, hrun, hend, Or.inr ⟨T.heap.size, rfl, cls, ce, locs, hx U hWs.alike f1 (fun q hq => f2 q hq (fun z hz => nomatch hz)), hce, hO.vm, hcl, hWs, hall, hf⟩⟩
  refine st1 _ ?_
  show Steps p.tables e below (T1.setTop { method := m, pc := pc + 3, locals := ls, stack := .ref T.heap.size :: rest, locked := none }) _
  jvm_step X₁.here [X₁.here.top, hexec, d3', Value.category]
  exact X₁.ldcStringW hexec (own := own) (text := text) (index := is) (a := sa) hown' hstr'.1 hstr'.2
    (g := { method := m, pc := pc + 4, locals := ls, stack := .ref T.heap.size :: .ref T.heap.size :: rest, locked := none }) rfl d4' _ hsteps
end Ends
section Bodies
variable {l : Launch}
theorem vx_ofW {y : MethodName} {ws ws' : List Cond} {rm : Room} {Pc : Array Value → State → Prop} {Qc : Array Value → State → Outcome → State → Prop} {XC : String → State → State → Prop} {mc ms : Nat} {free : Addr → Prop} {cc : ByteArray} {maxL : Nat} {ret : Option FieldType}
    (hy : plainName y.cls = true) (hw : ws = Cond.code y cc maxL ret :: ws')
    (body : ∀ p e s m args below meth c s₁, BodyLoose p l y (headSpec ws rm) cc maxL ret e s m args below meth c s₁ → c.maxLocals = maxL → (∀ x ∈ c.exceptionTable.toList, False) → Pc args s →
      W p l e (headSpec ws rm).room s m args below meth c s.heap [] 0 0 (vx_MQ below Qc XC args s mc ms free) (entryFrame m args maxL)) : vx_Met l y ws rm Pc Qc XC mc ms free := by
  refine MetFree.of_bodyS (code := cc) (maxLocals := maxL) (ret := ret) hy ?_ ?_
  · intro args s m h hn
    obtain ⟨meth, c, h1, h2, h3, h4, h5, h6, -, -⟩ := Cond.code_spec hn (atoms_spec (ws := ws) h _ (by rw [hw]; exact List.mem_cons_self))
    exact ⟨meth, c, h1, h2, h3, h4, h5, h6⟩
  · intro p e s m args below meth c s₁ B hml hP _
    have hh0 : s₁.heap = s.heap := by rw [B.state]; rfl
    have ht : ∀ x ∈ c.exceptionTable.toList, False := by
      obtain ⟨meth9, c9, h1, h2, -, -, -, -, h7, -⟩ := Cond.code_spec B.named (atoms_spec (ws := ws) B.pre _ (by rw [hw]; exact List.mem_cons_self))
      cases Option.some.inj (h1.symm.trans B.method)
      cases Option.some.inj (h2.symm.trans (Stand.of_body B).code)
      intro x hx
      rw [Array.isEmpty_iff.mp h7] at hx
      cases hx
    obtain ⟨t, a1, o, b1, b2, b3⟩ := body p e s m args below meth c s₁ B hml ht hP s₁ hh0 (Stand.of_body B)
    exact ⟨t, o, a1, b1, b2, b3⟩
/-- the table of a body with handlers -/
theorem vx_table {p : Program} {x y : MethodName} {S : Spec} {cc bytes : ByteArray} {maxL maxL' : Nat} {ret ret' : Option FieldType} {e : Env} {s s₁ : State} {m : MethodId} {args : Array Value} {below : List Frame} {meth : Method} {c : Code} {hh : List (Nat × Nat × Nat × Nat)}
    (B : BodyLoose p l y S cc maxL ret e s m args below meth c s₁) (h : (Cond.codeWith y bytes maxL' ret' hh).before args s = true) : c.exceptionTable.toList = tableOf hh := by
  obtain ⟨m9, meth9, c9, hn9, h1, h2, -, -, h6, -⟩ := Cond.codeWith_spec h
  cases Option.some.inj (hn9.symm.trans B.named)
  cases Option.some.inj (h1.symm.trans B.method)
  cases Option.some.inj (h2.symm.trans (Stand.of_body B).code)
  rw [← h6, table_eq]
end Bodies
end VXA
/-! ===== END ===== -/
/-! ===== BEGIN a static call of a method with an exception table ===== -/
section VXS
variable {p : Program} {l : Launch} {e : Env} {R : Room} {s : State} {m : MethodId} {args : Array Value} {below : List Frame} {meth : Method} {c : Code} {T : State} {H : Heap} {locs : List Loc} {cells slots : Nat}
abbrev vx_CSW (R : Room) (s : State) (args : Array Value) (own : String) (index : Nat) (y : MethodName) (bytes : ByteArray) (maxL : Nat) (ret : Option FieldType) (hh : List (Nat × Nat × Nat × Nat)) (ws : List Cond) (rm : Room) (mc ms n : Nat) : Prop :=
  (rm.cells = mc ∧ rm.slots = ms ∧ rm.frames + 1 ≤ R.frames ∧ 8 + (maxL + 11) + rm.locals ≤ R.locals ∧ (∀ w ∈ ws, ∀ (a' : Array Value) (U : State), s.WarmedH U.vm → w.before a' U = true) ∧ Cond.codeWith y bytes maxL ret hh ∈ ws) ∧
  (Cond.codeWith y bytes maxL ret hh).before args s = true ∧ (Cond.initialized y.cls).before args s = true ∧ (y.cls ≠ "java/lang/invoke/MethodHandle" ∧ y.cls ≠ "java/lang/invoke/VarHandle") ∧
  (∀ sig, parseMethodDescriptor y.desc = some sig → n = sig.parameters.length) ∧ (Cond.methodLink own index y).before args s = true ∧ (Cond.static y).before args s = true
theorem vx_cwSW {own : String} {index maxL mc ms : Nat} {y : MethodName} {bytes : ByteArray} {ret : Option FieldType} {hh : List (Nat × Nat × Nat × Nat)} {Ts ws ws' : List Cond} {rm : Room} (n : Nat) (ht : ∀ w ∈ Ts, w.before args s = true) (hT : GoodIn Ts (va_wsS own index y ws)) (hw : ws = Cond.codeWith y bytes maxL ret hh :: ws') (hrc : rm.cells = mc) (hrs : rm.slots = ms)
    (hd : y.cls ≠ "java/lang/invoke/MethodHandle" ∧ y.cls ≠ "java/lang/invoke/VarHandle" ∧ (parseMethodDescriptor y.desc).map (fun d => d.parameters.length) = some n) (hR : rm.frames + 1 ≤ R.frames ∧ 8 + (maxL + 11) + rm.locals ≤ R.locals) :
    vx_CSW R s args own index y bytes maxL ret hh ws rm mc ms n := by
  have ok : ∀ w ∈ va_wsS own index y ws, w.before args s = true := fun w h => ht w (hT w h).1
  have hG : GoodIn Ts ws := fun w h => hT w (by unfold va_wsS; exact List.mem_append_right _ h)
  have hc : Cond.codeWith y bytes maxL ret hh ∈ ws := by rw [hw]; exact List.mem_cons_self
  refine ⟨⟨hrc, hrs, hR.1, hR.2, pay_in ht hG, hc⟩, ht _ (hG _ hc).1, ok _ (by simp [va_wsS]), ⟨hd.1, hd.2.1⟩, fun sig h => ?_, ok _ (by simp [va_wsS]), ok _ (by simp [va_wsS])⟩
  have h2 := hd.2.2
  rw [h] at h2
  exact (Option.some.inj h2).symm
theorem vx_callSW (X : Stand p l e R s m args below meth c T locs cells slots) (hexec : p.tables.exec = Jvm.exec) {own : String} {index : Nat} {y : MethodName} {bytes : ByteArray} {maxL : Nat} {ret : Option FieldType} {hh : List (Nat × Nat × Nat × Nat)}
    (hown : s.vm.findClass own = some m.cls) (hlink : (Cond.methodLink own index y).before args s = true) (hstat : (Cond.static y).before args s = true) (hinit : (Cond.initialized y.cls).before args s = true)
    (hcode : (Cond.codeWith y bytes maxL ret hh).before args s = true) (hy : y.cls ≠ "java/lang/invoke/MethodHandle" ∧ y.cls ≠ "java/lang/invoke/VarHandle")
    {W9 : Nat} {Pre : Pt → Array Value → Prop} {Post : Pt → Array Value → Option Value → Pt → Prop} (hK : Back l R p e below s args y 3 W9 Pre Post)
    {g : JFrame} (hg : g.method = m) (hsize : g.locals.size = c.maxLocals) {argsL rest : List Value} (hlen : ∀ sig, parseMethodDescriptor y.desc = some sig → argsL.length = sig.parameters.length)
    (hstack : g.stack = argsL.reverse ++ rest) (hW : 2 * g.monitorRoom + (rest.map fun v => v.category).sum ≤ W9) (hdg : decode c.code g.pc = .ok (.invokestatic index, 3))
    (hpre : ∀ vm₁, s.WarmedH vm₁ → Pre ⟨T.setVm vm₁, locs, cells, slots⟩ argsL.toArray) :
    ∃ (v : Option Value) (vm₁ : Vm) (B : Pt), s.WarmedH vm₁ ∧ Stand p l e R s m args below meth c B.U B.locs B.cells B.slots ∧ Post ⟨T.setVm vm₁, locs, cells, slots⟩ argsL.toArray v B ∧
      ∀ target, Steps p.tables e below (B.U.setTop { g with pc := g.pc + 3, stack := v.toList ++ rest }) target → Steps p.tables e below (T.setTop g) target := by
  obtain ⟨mk, methM, cM, hnamed, hmethM, -, -, -, -, -, -, hsigM⟩ := Cond.codeWith_spec hcode
  have hstatic : methM.isStatic = true := Cond.static_spec hnamed hmethM hstat
  obtain ⟨kP, hkP, -⟩ := className_of_methodNamed hnamed
  have hinitP : kP.init = .initialized := Cond.initialized_spec (findClass_of_methodNamed hnamed) hkP hinit
  obtain ⟨vm₁, X₁, hstep₁⟩ := X.invokestatic hexec hown hlink hnamed hmethM hstatic hkP hinitP hy (g := g) hg (argsL := argsL) (rest := rest) (hlen _ hsigM) hstack hdg
  obtain ⟨v, B, X', hpost, hsteps⟩ := hK m meth c ⟨T.setVm vm₁, locs, cells, slots⟩ { g with stack := rest } (.invokestatic index) mk argsL.toArray X₁ hg hsize hdg hW (X₁.named hnamed) (hpre vm₁ X₁.warmed)
  exact ⟨v, vm₁, B, X₁.warmed, X', hpost, fun target h => hstep₁ _ fun acts => by rw [doInvoke_state]; exact hsteps.trans h⟩
theorem vx_runSW {y : MethodName} {bytes cc : ByteArray} {maxL nL mc ms n index : Nat} {ret : Option FieldType} {hh : List (Nat × Nat × Nat × Nat)} {ws : List Cond} {rm : Room} {Pc : Array Value → State → Prop} {Qc : Array Value → State → Outcome → State → Prop} {free : Addr → Prop} {Ts : List Cond} {own : String} {As rest : List Value} {g : JFrame}
    (S : CallFix p m c cc nL s args Ts own) (hM : Met l y ws rm Pc Qc mc ms free) (cw : vx_CSW R s args own index y bytes maxL ret hh ws rm mc ms n) (hp : PreS s H Pc As)
    (hg : g.method = m) (hn : As.length = n) (hsize : g.locals.size = nL) (hstack : g.stack = As.reverse ++ rest) (hW : 2 * g.monitorRoom + (rest.map fun v => v.category).sum ≤ 8) (hdg : decode cc g.pc = .ok (.invokestatic index, 3)) (hf : cells + mc ≤ R.cells ∧ slots + ms ≤ R.slots) :
    va_Run p l e R s m args below meth c H locs cells slots mc ms g rest (Qc As.toArray) (free) := by
  obtain ⟨⟨hrc, hrs, hfr, hlo, hws, hcw⟩, hcode, hini, hy, hlen, hl, hstt⟩ := cw
  have hK : Back l R p e below s args y 3 8 (PreOf R mc ms Pc) (PostOf Qc mc ms free) := va_backW (hh := hh) (bytes := bytes) (maxL := maxL) (ret := ret) hM hp.1 hrc hrs hfr hlo hws hcw (fun a' U hW => word_at hW (Or.inl (by first | rfl | simp [Cond.onTables, Cond.keeps, Cond.steady])) hini)
  obtain ⟨hx, hb, hml, ho, -⟩ := S
  intro T hT X
  obtain ⟨v, vm₁, ⟨U', l2, c2, s2⟩, hW₁, X', ⟨g', mk, t, L, e1, e2, hq, h1, hL, h2, h3⟩, st⟩ := vx_callSW X hx (hh := hh) (bytes := bytes) (maxL := maxL) (ret := ret) ho hl hstt hini hcode hy hK hg (hsize.trans hml.symm) (argsL := As) (rest := rest) (fun sig h => hn.trans (hlen sig h)) hstack hW (by rw [hb]; exact hdg)
    (fun vm₁ hW₁ => ⟨hf.1, hf.2, hp.2 (T.setVm vm₁) hT hW₁⟩)
  dsimp only [Pt.U, Pt.locs, Pt.cells, Pt.slots] at X' e1 e2 h1 h2 h3 st
  subst h1; subst h2; subst h3
  exact ⟨v, (T.setVm vm₁).calling g' mk As.toArray, t, U', L, hT, X', hL, e1, e2, hq, st⟩
/-- not caught here, past rows that name other classes: it goes on to the caller -/
theorem vx_outP {p : Program} {l : Launch} {e : Env} {R : Room} {s : State} {m : MethodId} {args : Array Value} {below : List Frame} {meth : Method} {c : Code} {H : Heap} {locs : List Loc} {cells slots : Nat} {free : Addr → Prop} {ls : Array Slot} {rest : List Value} {Qc : Array Value → State → Outcome → State → Prop} {XC : String → State → State → Prop}
    {pc : Nat} {own E : String} {ce : Cell} {q : Addr} {mc ms : Nat} (hown : s.vm.findClass own = some m.cls) (hlocks : meth.locks = false)
    (hpass : ∀ z ∈ c.exceptionTable.toList, covers z pc = false ∨ (z.catchType ≠ 0 ∧ ∃ nm : String, (Cond.classLink own z.catchType nm).before args s = true ∧ va_Nc E nm s)) (hcell : H[q]? = some ce) (hv : ce.vm = .none) (hcl : s.vm.findClass E = some ce.cls)
    (hx : ∀ t : State, t.heap = H → s.vm.Alike t.vm → XC E s t) (hf : ∀ z ∈ locs, free z.base) (hc : cells ≤ mc) (hs : slots ≤ ms) :
    vx_W p l e R s m args below meth c H locs cells slots (vx_MQ below Qc XC args s mc ms free) (F0 m pc ls rest) q := by
  intro T hT X
  have hpl : e.platform.magicAccessors = ({} : Platform).magicAccessors := by rw [X.admits.platform]
  obtain ⟨vm', hW', X', st⟩ := X.outThrough hlocks q (g := F0 m pc ls rest) rfl rfl rfl (cell := ce) (by rw [hT]; exact hcell) (by rw [hv]; rfl)
    (by obtain ⟨k9, h9, -⟩ := Vm.findClass_spec hcl; exact ⟨k9, h9⟩) (fun z hz => by
      rcases hpass z hz with h | ⟨hz0, nm, hl1, hn1⟩
      · exact Or.inl h
      · obtain ⟨c6, hc6, hcl6⟩ := Cond.classLink_spec hown hl1 e.platform hpl
        obtain ⟨a8, b8, h1, h2, h3⟩ := hn1
        cases Option.some.inj (h1.symm.trans hcl)
        cases Option.some.inj (h2.symm.trans hc6)
        exact Or.inr ⟨hz0, _, hcl6, h3⟩)
  obtain ⟨g₀, hfr⟩ := X'.frames_eq
  have hcell9 : ((T.setVm vm').setFrames (.throwing q :: below)).heap[q]? = some ce := by
    show T.heap[q]? = some ce
    rw [hT]; exact hcell
  have hend : Ended ((T.setVm vm').setFrames (.throwing q :: below)) below (.threw q) := State.frames_setFrames _ (State.cur_lt_of_frames hfr)
  refine ⟨(T.setVm vm').setFrames (.throwing q :: below), ?_, .threw q, X'.here.running, hend, Or.inr ⟨q, rfl, E, ce, locs, hx _ hT (X'.ends _).1.alike, hcell9, hv, hcl, (X'.ends _).1, (X'.ends _).2.mono hc hs, hf⟩⟩
  rw [X.pushThrowing_eq]
  exact st
/-- a thing of a world lies in the heap -/
theorem vx_lt {D : va_G} {cl : List vw_C} {ws : va_W} {H1 : Heap} (h : va_P D cl ws H1) {k : Nat} {q : Nat × va_E} (hk : ws[k]? = some q) : q.1 < H1.size := (h k q hk).lt
end VXS
/-! ===== END ===== -/
/-! ===== BEGIN methods with a table of their own: called by a name, returning or throwing ===== -/
section VXH
/-! vx_backW, vx_callVX, vx_callSX, vx_callVW, vx_runVW, vx_runVX, vx_runSX, vx_ofWH follow the same proofs as their sisters above (Free/Laws.lean, Shelf42/LK1.lean); vx_outP calls Shelf42/NT130.lean (outThrough). -/
section
variable {l : Launch} {R : Room} {p : Program} {e : Env} {below : List Frame} {s : State} {sargs : Array Value} {y : MethodName} {len W9 : Nat}
theorem vx_backW {ws : List Cond} {rm : Room} {Pc : Array Value → State → Prop} {Qc : Array Value → State → Outcome → State → Prop} {XC : String → State → State → Prop} {mc ms : Nat} {free : Addr → Prop} {bytes : ByteArray} {maxL : Nat} {ret : Option FieldType} {hh : List (Nat × Nat × Nat × Nat)}
    (hM : vx_Met l y ws rm Pc Qc XC mc ms free) (hblind : FrameBlind Pc) (hrc : rm.cells = mc) (hrs : rm.slots = ms)
    (hframes : rm.frames + 1 ≤ R.frames) (hlocals : W9 + (maxL + 11) + rm.locals ≤ R.locals)
    (hws : ∀ w ∈ ws, ∀ a' U, s.WarmedH U.vm → w.before a' U = true) (hcode : Cond.codeWith y bytes maxL ret hh ∈ ws) (hinit : ∀ a' U, s.WarmedH U.vm → (Cond.initialized y.cls).before a' U = true) :
    vx_Back l R p e below s sargs y len W9 (PreOf R mc ms Pc) (PostOf Qc mc ms free) (vx_Post XC mc ms free) := by
  intro m meth c A g ig mk a X hg hsize hdg hW hn hp
  have h1 : (headSpec ws rm).pre.before a A.U = true := atoms_intro fun w hw => hws w hw _ _ X.warmed
  have h2 : (Cond.codeWith y bytes maxL ret hh).before a A.U = true := hws _ hcode _ _ X.warmed
  have h3 : (Cond.initialized y.cls).before a A.U = true := hinit _ _ X.warmed
  have h4 : A.cells + (headSpec ws rm).room.cells ≤ R.cells := by rw [show (headSpec ws rm).room.cells = mc from hrc]; exact hp.1
  have h5 : A.slots + (headSpec ws rm).room.slots ≤ R.slots := by rw [show (headSpec ws rm).room.slots = ms from hrs]; exact hp.2.1
  have hPc : Pc a (A.U.calling g mk a) := hblind _ _ _ _ hp.2.2
  obtain ⟨U, Ls, c0, s0⟩ := A
  dsimp only [Pt.U, Pt.locs, Pt.cells, Pt.slots] at h1 h2 h3 h4 h5 X hn hPc ⊢
  obtain ⟨m9, methY, cY, hn9, hmY, hcY, -, hlY, -⟩ := Cond.codeWith_spec h2
  cases Option.some.inj (hn9.symm.trans hn)
  obtain ⟨kY, hkY, -⟩ := className_of_methodNamed hn
  have hinitY : kY.init = .initialized := Cond.initialized_spec (findClass_of_methodNamed hn) hkY h3
  have h : At U g.method c below := by rw [hg]; exact X.here
  have hlocals9 : W9 + (maxL + 11) + (headSpec ws rm).room.locals ≤ R.locals := hlocals
  have happ : (headSpec ws rm).appliesLoose y e.platform (U.calling g mk a) = true :=
    Spec.appliesLoose_calling (g := g) h hdg hn hkY hinitY
      (X.room_calling (g := g) (R' := (headSpec ws rm).room) hsize hmY hcY hframes (by rw [hlY]; omega) h4 h5) h1
  obtain ⟨mid, hmid⟩ := h.above
  have hfr : (U.setTop g).frames = (.java g :: mid) ++ below := by rw [State.frames_setTop' g h.top, hmid]; rfl
  obtain ⟨o, s₂, hsteps, -, hend, hq⟩ := Steps.callFree hM p X.admits X.cas X.clock (acts := []) hfr happ hPc trivial
  have hq' : vx_Q Qc XC mc ms free a (U.calling g mk a) o s₂ := hq
  rw [State.frames_setTop' g h.top] at hend
  obtain ⟨g₀, hg0⟩ := Option.isSome_iff_exists.mp h.top
  obtain ⟨r, hr⟩ := State.topJava?_eq_some.mp hg0
  have hr' : (({ U with heap := s₂.heap, slotsUsed := s₂.slotsUsed } : State).setVm s₂.vm).frames = .java g₀ :: r := hr
  rcases hq' with ⟨hqc, L, hfe, hL⟩ | ⟨q, rfl, E, ce, L, hx, hce, hcv, hcl, hW₂, hsm, hL⟩
  · obtain ⟨⟨v, rfl⟩, hW₂, e2, q2, q3, q4, q5, q6⟩ := id hfe
    have e3 : s₂ = ({ (U.calling g mk a).setFrames s₂.frames with heap := s₂.heap, slotsUsed := s₂.slotsUsed } : State).setVm s₂.vm := by
      have : s₂ = ({ s₂ with vm := (U.calling g mk a).vm } : State).setVm s₂.vm := rfl
      rw [e2] at this
      exact this
    obtain ⟨c₂, i₂, len₂, hc₂, hd₂, hf₂⟩ := hend
    have hW' : U.WarmedH s₂.vm := hW₂
    have hcc : c₂ = c := by
      have h1 : s₂.code? g.method = U.code? g.method := by
        rw [State.code?_eq, State.code?_eq, hW'.alike.method?]
      exact Option.some.inj (hc₂.symm.trans (h1.trans h.code))
    subst hcc
    have hlen : len₂ = len := by rw [hdg] at hd₂; cases hd₂; rfl
    subst hlen
    have hs₂ : s₂ = (({ U with heap := s₂.heap, slotsUsed := s₂.slotsUsed } : State).setVm s₂.vm).setTop { g with pc := g.pc + len₂, stack := v.toList ++ g.stack } := by
      refine e3.trans ?_
      rw [hf₂, State.calling_eq h.top, State.setFrames_setFrames, State.setTop_of_frames _ hr', hr]
      rfl
    have hsame : U.sameButNew ({ U with heap := s₂.heap, slotsUsed := s₂.slotsUsed } : State) L mc ms := by
      refine ⟨?_, q2, q3, q4, q5, q6⟩
      obtain ⟨t, ht, -⟩ := State.frames_cons hr
      show ({ U with heap := s₂.heap, slotsUsed := s₂.slotsUsed } : State) = { U.setFrames U.frames with heap := s₂.heap, slotsUsed := s₂.slotsUsed }
      rw [State.setFrames_self ht]
    subst hg
    refine Or.inl ⟨v, ⟨(({ U with heap := s₂.heap, slotsUsed := s₂.slotsUsed } : State).setVm s₂.vm), Ls ++ L, c0 + mc, s0 + ms⟩,
      ⟨X.admits, X.cas, X.clock, X.frames, X.room, X.hears, X.method, X.code, (X.here.setHeapUsed s₂.heap s₂.slotsUsed).setVm hW'.alike, X.tail, State.WarmedH.trans X.warmed hW', X.limits, X.bytes, X.same.trans (hsame.setVm s.vm)⟩,
      ⟨g, mk, s₂, L, rfl, rfl, hqc, rfl, hL, rfl, rfl⟩, ?_⟩
    show Steps p.tables e below _ ((({ U with heap := s₂.heap, slotsUsed := s₂.slotsUsed } : State).setVm s₂.vm).setTop { g with pc := g.pc + len₂, stack := v.toList ++ g.stack })
    rw [← hs₂]
    exact hsteps
  · obtain ⟨e2, q2, q3, q4, q5, q6⟩ := id hsm
    have e3 : s₂ = ({ (U.calling g mk a).setFrames s₂.frames with heap := s₂.heap, slotsUsed := s₂.slotsUsed } : State).setVm s₂.vm := by
      have : s₂ = ({ s₂ with vm := (U.calling g mk a).vm } : State).setVm s₂.vm := rfl
      rw [e2] at this
      exact this
    have hf₂ : s₂.frames = .throwing q :: .java g :: U.frames.tail := hend
    have hW' : U.WarmedH s₂.vm := hW₂
    have hs₂ : s₂ = ((({ U with heap := s₂.heap, slotsUsed := s₂.slotsUsed } : State).setVm s₂.vm).setTop g).pushFrame (.throwing q) := by
      refine e3.trans ?_
      rw [hf₂, State.calling_eq h.top, State.setFrames_setFrames, State.pushFrame, State.frames_setTop _ hr', State.setTop_of_frames _ hr', State.setFrames_setFrames, hr]
      rfl
    have hsame : U.sameButNew ({ U with heap := s₂.heap, slotsUsed := s₂.slotsUsed } : State) L mc ms := by
      refine ⟨?_, q2, q3, q4, q5, q6⟩
      obtain ⟨t, ht, -⟩ := State.frames_cons hr
      show ({ U with heap := s₂.heap, slotsUsed := s₂.slotsUsed } : State) = { U.setFrames U.frames with heap := s₂.heap, slotsUsed := s₂.slotsUsed }
      rw [State.setFrames_self ht]
    subst hg
    refine Or.inr ⟨q, ⟨(({ U with heap := s₂.heap, slotsUsed := s₂.slotsUsed } : State).setVm s₂.vm), Ls ++ L, c0 + mc, s0 + ms⟩,
      ⟨X.admits, X.cas, X.clock, X.frames, X.room, X.hears, X.method, X.code, (X.here.setHeapUsed s₂.heap s₂.slotsUsed).setVm hW'.alike, X.tail, State.WarmedH.trans X.warmed hW', X.limits, X.bytes, X.same.trans (hsame.setVm s.vm)⟩,
      ⟨g, mk, s₂, L, E, ce, rfl, rfl, hx, hce, hcv, hcl, rfl, hL, rfl, rfl⟩, ?_⟩
    show Steps p.tables e below _ (((({ U with heap := s₂.heap, slotsUsed := s₂.slotsUsed } : State).setVm s₂.vm).setTop g).pushFrame (.throwing q))
    rw [← hs₂]
    exact hsteps
end
variable {p : Program} {l : Launch} {e : Env} {R : Room} {s : State} {m : MethodId} {args : Array Value} {below : List Frame} {meth : Method} {c : Code} {T : State} {H : Heap} {locs : List Loc} {cells slots : Nat}
theorem vx_callVX (X : Stand p l e R s m args below meth c T locs cells slots) (hexec : p.tables.exec = Jvm.exec) {own C : String} {index : Nat} {y : MethodName} {bytes : ByteArray} {maxL : Nat} {ret : Option FieldType} {hh : List (Nat × Nat × Nat × Nat)}
    (hown : s.vm.findClass own = some m.cls) (hlink : (Cond.methodLink own index y).before args s = true) (hinst : (Cond.instanceMethod y).before args s = true) (hsel : (Cond.selects C y y).before args s = true)
    (hcode : (Cond.codeWith y bytes maxL ret hh).before args s = true) (hy : y.cls ≠ "java/lang/invoke/MethodHandle" ∧ y.cls ≠ "java/lang/invoke/VarHandle")
    {W9 : Nat} {Pre : Pt → Array Value → Prop} {Post : Pt → Array Value → Option Value → Pt → Prop} {PostX : Pt → Array Value → Addr → Pt → Prop} (hK : vx_Back l R p e below s args y 3 W9 Pre Post PostX)
    {b : Addr} {cellB : Cell} (hcell : T.heap[b]? = some cellB) (hobj : cellB.vm.isStatics = false) (hcls : s.vm.findClass C = some cellB.cls)
    {g : JFrame} (hg : g.method = m) (hsize : g.locals.size = c.maxLocals) {argsL rest : List Value} (hlen : ∀ sig, parseMethodDescriptor y.desc = some sig → argsL.length = sig.parameters.length)
    (hstack : g.stack = argsL.reverse ++ .ref b :: rest) (hW : 2 * g.monitorRoom + (rest.map fun v => v.category).sum ≤ W9) (hdg : decode c.code g.pc = .ok (.invokevirtual index, 3))
    (hpre : ∀ vm₁, s.WarmedH vm₁ → Pre ⟨T.setVm vm₁, locs, cells, slots⟩ (Value.ref b :: argsL).toArray) :
    (∃ (v : Option Value) (vm₁ : Vm) (B : Pt), s.WarmedH vm₁ ∧ Stand p l e R s m args below meth c B.U B.locs B.cells B.slots ∧ Post ⟨T.setVm vm₁, locs, cells, slots⟩ (Value.ref b :: argsL).toArray v B ∧
      ∀ target, Steps p.tables e below (B.U.setTop { g with pc := g.pc + 3, stack := v.toList ++ rest }) target → Steps p.tables e below (T.setTop g) target) ∨
    (∃ (q : Addr) (vm₁ : Vm) (B : Pt), s.WarmedH vm₁ ∧ Stand p l e R s m args below meth c B.U B.locs B.cells B.slots ∧ PostX ⟨T.setVm vm₁, locs, cells, slots⟩ (Value.ref b :: argsL).toArray q B ∧
      Steps p.tables e below (T.setTop g) ((B.U.setTop { g with stack := rest }).pushFrame (.throwing q))) := by
  obtain ⟨mk, methM, hnamed, hmethM, hstM, habM⟩ := Cond.instanceMethod_spec hinst
  obtain ⟨m8, methM', cM, hn8, hmethM', -, -, -, -, -, -, hsigM⟩ := Cond.codeWith_spec hcode
  cases Option.some.inj (hn8.symm.trans hnamed)
  cases hmethM.symm.trans hmethM'
  obtain ⟨c2, r2, m2, q1, q2, q3, q4, kP, hkP, hkPi⟩ := Cond.selects_spec hsel
  cases hcls.symm.trans q1
  cases (State.methodFound?_of_named hnamed hy).symm.trans q2
  cases hnamed.symm.trans q3
  have hselP : selectMethod e.platform s.vm cellB.cls mk = .method mk := by rw [Launch.admits_selectMethod X.admits]; exact q4
  obtain ⟨vm₁, X₁, hstep₁⟩ := X.invokevirtual hexec hown hlink hnamed hmethM hstM hkP hkPi hy (a := b) (cell := cellB) hcell
    (fun z h => by rw [h] at hobj; cases hobj) hselP hmethM habM hkP hkPi (g := g) hg (argsL := argsL) (rest := rest) (hlen _ hsigM) hstack hdg
  rcases hK m meth c ⟨T.setVm vm₁, locs, cells, slots⟩ { g with stack := rest } (.invokevirtual index) mk (Value.ref b :: argsL).toArray X₁ hg hsize hdg hW (X₁.named hnamed) (hpre vm₁ X₁.warmed) with ⟨v, B, X', hpost, hsteps⟩ | ⟨q, B, X', hpost, hsteps⟩
  · exact Or.inl ⟨v, vm₁, B, X₁.warmed, X', hpost, fun target h => hstep₁ _ fun acts => by rw [doInvoke_state]; exact hsteps.trans h⟩
  · exact Or.inr ⟨q, vm₁, B, X₁.warmed, X', hpost, hstep₁ _ fun acts => by rw [doInvoke_state]; exact hsteps⟩
theorem vx_callSX (X : Stand p l e R s m args below meth c T locs cells slots) (hexec : p.tables.exec = Jvm.exec) {own : String} {index : Nat} {y : MethodName} {bytes : ByteArray} {maxL : Nat} {ret : Option FieldType} {hh : List (Nat × Nat × Nat × Nat)}
    (hown : s.vm.findClass own = some m.cls) (hlink : (Cond.methodLink own index y).before args s = true) (hstat : (Cond.static y).before args s = true) (hinit : (Cond.initialized y.cls).before args s = true)
    (hcode : (Cond.codeWith y bytes maxL ret hh).before args s = true) (hy : y.cls ≠ "java/lang/invoke/MethodHandle" ∧ y.cls ≠ "java/lang/invoke/VarHandle")
    {W9 : Nat} {Pre : Pt → Array Value → Prop} {Post : Pt → Array Value → Option Value → Pt → Prop} {PostX : Pt → Array Value → Addr → Pt → Prop} (hK : vx_Back l R p e below s args y 3 W9 Pre Post PostX)
    {g : JFrame} (hg : g.method = m) (hsize : g.locals.size = c.maxLocals) {argsL rest : List Value} (hlen : ∀ sig, parseMethodDescriptor y.desc = some sig → argsL.length = sig.parameters.length)
    (hstack : g.stack = argsL.reverse ++ rest) (hW : 2 * g.monitorRoom + (rest.map fun v => v.category).sum ≤ W9) (hdg : decode c.code g.pc = .ok (.invokestatic index, 3))
    (hpre : ∀ vm₁, s.WarmedH vm₁ → Pre ⟨T.setVm vm₁, locs, cells, slots⟩ argsL.toArray) :
    (∃ (v : Option Value) (vm₁ : Vm) (B : Pt), s.WarmedH vm₁ ∧ Stand p l e R s m args below meth c B.U B.locs B.cells B.slots ∧ Post ⟨T.setVm vm₁, locs, cells, slots⟩ argsL.toArray v B ∧
      ∀ target, Steps p.tables e below (B.U.setTop { g with pc := g.pc + 3, stack := v.toList ++ rest }) target → Steps p.tables e below (T.setTop g) target) ∨
    (∃ (q : Addr) (vm₁ : Vm) (B : Pt), s.WarmedH vm₁ ∧ Stand p l e R s m args below meth c B.U B.locs B.cells B.slots ∧ PostX ⟨T.setVm vm₁, locs, cells, slots⟩ argsL.toArray q B ∧
      Steps p.tables e below (T.setTop g) ((B.U.setTop { g with stack := rest }).pushFrame (.throwing q))) := by
  obtain ⟨mk, methM, cM, hnamed, hmethM, -, -, -, -, -, -, hsigM⟩ := Cond.codeWith_spec hcode
  have hstatic : methM.isStatic = true := Cond.static_spec hnamed hmethM hstat
  obtain ⟨kP, hkP, -⟩ := className_of_methodNamed hnamed
  have hinitP : kP.init = .initialized := Cond.initialized_spec (findClass_of_methodNamed hnamed) hkP hinit
  obtain ⟨vm₁, X₁, hstep₁⟩ := X.invokestatic hexec hown hlink hnamed hmethM hstatic hkP hinitP hy (g := g) hg (argsL := argsL) (rest := rest) (hlen _ hsigM) hstack hdg
  rcases hK m meth c ⟨T.setVm vm₁, locs, cells, slots⟩ { g with stack := rest } (.invokestatic index) mk argsL.toArray X₁ hg hsize hdg hW (X₁.named hnamed) (hpre vm₁ X₁.warmed) with ⟨v, B, X', hpost, hsteps⟩ | ⟨q, B, X', hpost, hsteps⟩
  · exact Or.inl ⟨v, vm₁, B, X₁.warmed, X', hpost, fun target h => hstep₁ _ fun acts => by rw [doInvoke_state]; exact hsteps.trans h⟩
  · exact Or.inr ⟨q, vm₁, B, X₁.warmed, X', hpost, hstep₁ _ fun acts => by rw [doInvoke_state]; exact hsteps⟩
theorem vx_callVW (X : Stand p l e R s m args below meth c T locs cells slots) (hexec : p.tables.exec = Jvm.exec) {own C : String} {index : Nat} {y : MethodName} {bytes : ByteArray} {maxL : Nat} {ret : Option FieldType} {hh : List (Nat × Nat × Nat × Nat)}
    (hown : s.vm.findClass own = some m.cls) (hlink : (Cond.methodLink own index y).before args s = true) (hinst : (Cond.instanceMethod y).before args s = true) (hsel : (Cond.selects C y y).before args s = true)
    (hcode : (Cond.codeWith y bytes maxL ret hh).before args s = true) (hy : y.cls ≠ "java/lang/invoke/MethodHandle" ∧ y.cls ≠ "java/lang/invoke/VarHandle")
    {W9 : Nat} {Pre : Pt → Array Value → Prop} {Post : Pt → Array Value → Option Value → Pt → Prop} (hK : Back l R p e below s args y 3 W9 Pre Post)
    {b : Addr} {cellB : Cell} (hcell : T.heap[b]? = some cellB) (hobj : cellB.vm.isStatics = false) (hcls : s.vm.findClass C = some cellB.cls)
    {g : JFrame} (hg : g.method = m) (hsize : g.locals.size = c.maxLocals) {argsL rest : List Value} (hlen : ∀ sig, parseMethodDescriptor y.desc = some sig → argsL.length = sig.parameters.length)
    (hstack : g.stack = argsL.reverse ++ .ref b :: rest) (hW : 2 * g.monitorRoom + (rest.map fun v => v.category).sum ≤ W9) (hdg : decode c.code g.pc = .ok (.invokevirtual index, 3))
    (hpre : ∀ vm₁, s.WarmedH vm₁ → Pre ⟨T.setVm vm₁, locs, cells, slots⟩ (Value.ref b :: argsL).toArray) :
    ∃ (v : Option Value) (vm₁ : Vm) (B : Pt), s.WarmedH vm₁ ∧ Stand p l e R s m args below meth c B.U B.locs B.cells B.slots ∧ Post ⟨T.setVm vm₁, locs, cells, slots⟩ (Value.ref b :: argsL).toArray v B ∧
      ∀ target, Steps p.tables e below (B.U.setTop { g with pc := g.pc + 3, stack := v.toList ++ rest }) target → Steps p.tables e below (T.setTop g) target := by
  obtain ⟨mk, methM, hnamed, hmethM, hstM, habM⟩ := Cond.instanceMethod_spec hinst
  obtain ⟨m8, methM', cM, hn8, hmethM', -, -, -, -, -, -, hsigM⟩ := Cond.codeWith_spec hcode
  cases Option.some.inj (hn8.symm.trans hnamed)
  cases hmethM.symm.trans hmethM'
  obtain ⟨c2, r2, m2, q1, q2, q3, q4, kP, hkP, hkPi⟩ := Cond.selects_spec hsel
  cases hcls.symm.trans q1
  cases (State.methodFound?_of_named hnamed hy).symm.trans q2
  cases hnamed.symm.trans q3
  have hselP : selectMethod e.platform s.vm cellB.cls mk = .method mk := by rw [Launch.admits_selectMethod X.admits]; exact q4
  obtain ⟨vm₁, X₁, hstep₁⟩ := X.invokevirtual hexec hown hlink hnamed hmethM hstM hkP hkPi hy (a := b) (cell := cellB) hcell
    (fun z h => by rw [h] at hobj; cases hobj) hselP hmethM habM hkP hkPi (g := g) hg (argsL := argsL) (rest := rest) (hlen _ hsigM) hstack hdg
  obtain ⟨v, B, X', hpost, hsteps⟩ := hK m meth c ⟨T.setVm vm₁, locs, cells, slots⟩ { g with stack := rest } (.invokevirtual index) mk (Value.ref b :: argsL).toArray X₁ hg hsize hdg hW (X₁.named hnamed) (hpre vm₁ X₁.warmed)
  exact ⟨v, vm₁, B, X₁.warmed, X', hpost, fun target h => hstep₁ _ fun acts => by rw [doInvoke_state]; exact hsteps.trans h⟩
abbrev vx_CVW (R : Room) (s : State) (args : Array Value) (own C : String) (index : Nat) (y : MethodName) (bytes : ByteArray) (maxL : Nat) (ret : Option FieldType) (hh : List (Nat × Nat × Nat × Nat)) (ws : List Cond) (rm : Room) (mc ms n : Nat) : Prop :=
  (rm.cells = mc ∧ rm.slots = ms ∧ rm.frames + 1 ≤ R.frames ∧ 8 + (maxL + 11) + rm.locals ≤ R.locals ∧ (∀ w ∈ ws, ∀ (a' : Array Value) (U : State), s.WarmedH U.vm → w.before a' U = true) ∧ Cond.codeWith y bytes maxL ret hh ∈ ws) ∧
  (Cond.codeWith y bytes maxL ret hh).before args s = true ∧ (Cond.initialized y.cls).before args s = true ∧ (y.cls ≠ "java/lang/invoke/MethodHandle" ∧ y.cls ≠ "java/lang/invoke/VarHandle") ∧
  (∀ sig, parseMethodDescriptor y.desc = some sig → n = sig.parameters.length) ∧ (Cond.methodLink own index y).before args s = true ∧ (Cond.instanceMethod y).before args s = true ∧ (Cond.selects C y y).before args s = true
theorem vx_cwVW {own C : String} {index maxL mc ms : Nat} {y : MethodName} {bytes : ByteArray} {ret : Option FieldType} {hh : List (Nat × Nat × Nat × Nat)} {Ts ws ws' : List Cond} {rm : Room} (n : Nat) (ht : ∀ w ∈ Ts, w.before args s = true) (hT : GoodIn Ts (wsV own index C y ws)) (hw : ws = Cond.codeWith y bytes maxL ret hh :: ws') (hrc : rm.cells = mc) (hrs : rm.slots = ms)
    (hd : y.cls = C ∧ y.cls ≠ "java/lang/invoke/MethodHandle" ∧ y.cls ≠ "java/lang/invoke/VarHandle" ∧ (parseMethodDescriptor y.desc).map (fun d => d.parameters.length) = some n) (hR : rm.frames + 1 ≤ R.frames ∧ 8 + (maxL + 11) + rm.locals ≤ R.locals) :
    vx_CVW R s args own C index y bytes maxL ret hh ws rm mc ms n := by
  obtain ⟨hC, hd⟩ := hd
  subst hC
  have ok : ∀ w ∈ wsV own index y.cls y ws, w.before args s = true := fun w h => ht w (hT w h).1
  have hG : GoodIn Ts ws := fun w h => hT w (by unfold wsV; exact List.mem_append_right _ h)
  have hc : Cond.codeWith y bytes maxL ret hh ∈ ws := by rw [hw]; exact List.mem_cons_self
  refine ⟨⟨hrc, hrs, hR.1, hR.2, pay_in ht hG, hc⟩, ht _ (hG _ hc).1, ok _ (by simp [wsV]), ⟨hd.1, hd.2.1⟩, fun sig h => ?_, ok _ (by simp [wsV]), ok _ (by simp [wsV]), ok _ (by simp [wsV])⟩
  have h2 := hd.2.2
  rw [h] at h2
  exact (Option.some.inj h2).symm
theorem vx_runVW {y : MethodName} {bytes cc : ByteArray} {maxL nL mc ms n index : Nat} {ret : Option FieldType} {hh : List (Nat × Nat × Nat × Nat)} {ws : List Cond} {rm : Room} {Pc : Array Value → State → Prop} {Qc : Array Value → State → Outcome → State → Prop} {free : Addr → Prop} {Ts : List Cond} {own C : String} {b : Addr} {As rest : List Value} {g : JFrame}
    (S : CallFix p m c cc nL s args Ts own) (hM : Met l y ws rm Pc Qc mc ms free) (cw : vx_CVW R s args own C index y bytes maxL ret hh ws rm mc ms n) (hp : PreV s H C b Pc As)
    (hg : g.method = m) (hn : As.length = n) (hsize : g.locals.size = nL) (hstack : g.stack = As.reverse ++ .ref b :: rest) (hW : 2 * g.monitorRoom + (rest.map fun v => v.category).sum ≤ 8) (hdg : decode cc g.pc = .ok (.invokevirtual index, 3)) (hf : cells + mc ≤ R.cells ∧ slots + ms ≤ R.slots) :
    va_Run p l e R s m args below meth c H locs cells slots mc ms g rest (Qc (Value.ref b :: As).toArray) free := by
  obtain ⟨⟨hrc, hrs, hfr, hlo, hws, hcw⟩, hcode, hini, hy, hlen, hl, hin, hse⟩ := cw
  have hK : Back l R p e below s args y 3 8 (PreOf R mc ms Pc) (PostOf Qc mc ms free) := va_backW (hh := hh) (bytes := bytes) (maxL := maxL) (ret := ret) hM hp.1 hrc hrs hfr hlo hws hcw (fun a' U hW => word_at hW (Or.inl (by first | rfl | simp [Cond.onTables, Cond.keeps, Cond.steady])) hini)
  obtain ⟨hx, hb, hml, ho, -⟩ := S
  obtain ⟨-, ⟨cellB, hcB, hoB, hclB⟩, hPc⟩ := hp
  intro T hT X
  obtain ⟨v, vm₁, ⟨U', l2, c2, s2⟩, hW₁, X', ⟨g', mk, t, L, e1, e2, hq, h1, hL, h2, h3⟩, st⟩ := vx_callVW X hx (C := C) (hh := hh) (bytes := bytes) (maxL := maxL) (ret := ret) ho hl hin hse hcode hy hK (by rw [hT]; exact hcB) hoB hclB hg (hsize.trans hml.symm) (argsL := As) (rest := rest) (fun sig h => hn.trans (hlen sig h)) hstack hW (by rw [hb]; exact hdg)
    (fun vm₁ hW₁ => ⟨hf.1, hf.2, hPc (T.setVm vm₁) hT hW₁⟩)
  dsimp only [Pt.U, Pt.locs, Pt.cells, Pt.slots] at X' e1 e2 h1 h2 h3 st
  subst h1; subst h2; subst h3
  exact ⟨v, (T.setVm vm₁).calling g' mk (Value.ref b :: As).toArray, t, U', L, hT, X', hL, e1, e2, hq, st⟩
section
variable {y : MethodName} {bytes cc : ByteArray} {maxL nL mc ms n index : Nat} {ret : Option FieldType} {ws : List Cond} {rm : Room} {Pc : Array Value → State → Prop} {Qc : Array Value → State → Outcome → State → Prop} {XC : String → State → State → Prop} {free : Addr → Prop} {Ts : List Cond} {own C : String} {b : Addr} {As rest : List Value} {g : JFrame}
theorem vx_runVX {hh : List (Nat × Nat × Nat × Nat)} (S : CallFix p m c cc nL s args Ts own) (hM : vx_Met l y ws rm Pc Qc XC mc ms free) (cw : vx_CVW R s args own C index y bytes maxL ret hh ws rm mc ms n) (hp : PreV s H C b Pc As)
    (hg : g.method = m) (hn : As.length = n) (hsize : g.locals.size = nL) (hstack : g.stack = As.reverse ++ .ref b :: rest) (hW : 2 * g.monitorRoom + (rest.map fun v => v.category).sum ≤ 8) (hdg : decode cc g.pc = .ok (.invokevirtual index, 3)) (hf : cells + mc ≤ R.cells ∧ slots + ms ≤ R.slots) :
    vx_Run p l e R s m args below meth c H locs cells slots mc ms g rest (Qc (Value.ref b :: As).toArray) XC free := by
  obtain ⟨⟨hrc, hrs, hfr, hlo, hws, hcw⟩, hcode, hini, hy, hlen, hl, hin, hse⟩ := cw
  have hK : vx_Back l R p e below s args y 3 8 (PreOf R mc ms Pc) (PostOf Qc mc ms free) (vx_Post XC mc ms free) := vx_backW (hh := hh) (bytes := bytes) (maxL := maxL) (ret := ret) hM hp.1 hrc hrs hfr hlo hws hcw (fun a' U hW => word_at hW (Or.inl (by first | rfl | simp [Cond.onTables, Cond.keeps, Cond.steady])) hini)
  obtain ⟨hx, hb, hml, ho, -⟩ := S
  obtain ⟨-, ⟨cellB, hcB, hoB, hclB⟩, hPc⟩ := hp
  intro T hT X
  rcases vx_callVX X hx (C := C) (hh := hh) (bytes := bytes) (maxL := maxL) (ret := ret) ho hl hin hse hcode hy hK (by rw [hT]; exact hcB) hoB hclB hg (hsize.trans hml.symm) (argsL := As) (rest := rest) (fun sig h => hn.trans (hlen sig h)) hstack hW (by rw [hb]; exact hdg)
    (fun vm₁ hW₁ => ⟨hf.1, hf.2, hPc (T.setVm vm₁) hT hW₁⟩) with ⟨v, vm₁, ⟨U', l2, c2, s2⟩, hW₁, X', ⟨g', mk, t, L, e1, e2, hq, h1, hL, h2, h3⟩, st⟩ | ⟨q, vm₁, ⟨U', l2, c2, s2⟩, hW₁, X', ⟨g', mk, t, L, E, ce, e1, e2, hq, hce, hcv, hcl, h1, hL, h2, h3⟩, st⟩
  · dsimp only [Pt.U, Pt.locs, Pt.cells, Pt.slots] at X' e1 e2 h1 h2 h3 st
    subst h1; subst h2; subst h3
    exact Or.inl ⟨v, (T.setVm vm₁).calling g' mk (Value.ref b :: As).toArray, t, U', L, hT, X', hL, e1, e2, hq, st⟩
  · dsimp only [Pt.U, Pt.locs, Pt.cells, Pt.slots] at X' e1 e2 h1 h2 h3 st hcl
    subst h1; subst h2; subst h3
    exact Or.inr ⟨q, (T.setVm vm₁).calling g' mk (Value.ref b :: As).toArray, t, U', L, E, ce, hT, X', hL, e1, e2, hq, hce, hcv, vx_cls hW₁ hcl, st⟩
theorem vx_runSX {hh : List (Nat × Nat × Nat × Nat)} (S : CallFix p m c cc nL s args Ts own) (hM : vx_Met l y ws rm Pc Qc XC mc ms free) (cw : vx_CSW R s args own index y bytes maxL ret hh ws rm mc ms n) (hp : PreS s H Pc As)
    (hg : g.method = m) (hn : As.length = n) (hsize : g.locals.size = nL) (hstack : g.stack = As.reverse ++ rest) (hW : 2 * g.monitorRoom + (rest.map fun v => v.category).sum ≤ 8) (hdg : decode cc g.pc = .ok (.invokestatic index, 3)) (hf : cells + mc ≤ R.cells ∧ slots + ms ≤ R.slots) :
    vx_Run p l e R s m args below meth c H locs cells slots mc ms g rest (Qc As.toArray) XC free := by
  obtain ⟨⟨hrc, hrs, hfr, hlo, hws, hcw⟩, hcode, hini, hy, hlen, hl, hstt⟩ := cw
  have hK : vx_Back l R p e below s args y 3 8 (PreOf R mc ms Pc) (PostOf Qc mc ms free) (vx_Post XC mc ms free) := vx_backW (hh := hh) (bytes := bytes) (maxL := maxL) (ret := ret) hM hp.1 hrc hrs hfr hlo hws hcw (fun a' U hW => word_at hW (Or.inl (by first | rfl | simp [Cond.onTables, Cond.keeps, Cond.steady])) hini)
  obtain ⟨hx, hb, hml, ho, -⟩ := S
  intro T hT X
  rcases vx_callSX X hx (hh := hh) (bytes := bytes) (maxL := maxL) (ret := ret) ho hl hstt hini hcode hy hK hg (hsize.trans hml.symm) (argsL := As) (rest := rest) (fun sig h => hn.trans (hlen sig h)) hstack hW (by rw [hb]; exact hdg)
    (fun vm₁ hW₁ => ⟨hf.1, hf.2, hp.2 (T.setVm vm₁) hT hW₁⟩) with ⟨v, vm₁, ⟨U', l2, c2, s2⟩, hW₁, X', ⟨g', mk, t, L, e1, e2, hq, h1, hL, h2, h3⟩, st⟩ | ⟨q, vm₁, ⟨U', l2, c2, s2⟩, hW₁, X', ⟨g', mk, t, L, E, ce, e1, e2, hq, hce, hcv, hcl, h1, hL, h2, h3⟩, st⟩
  · dsimp only [Pt.U, Pt.locs, Pt.cells, Pt.slots] at X' e1 e2 h1 h2 h3 st
    subst h1; subst h2; subst h3
    exact Or.inl ⟨v, (T.setVm vm₁).calling g' mk As.toArray, t, U', L, hT, X', hL, e1, e2, hq, st⟩
  · dsimp only [Pt.U, Pt.locs, Pt.cells, Pt.slots] at X' e1 e2 h1 h2 h3 st hcl
    subst h1; subst h2; subst h3
    exact Or.inr ⟨q, (T.setVm vm₁).calling g' mk As.toArray, t, U', L, E, ce, hT, X', hL, e1, e2, hq, hce, hcv, vx_cls hW₁ hcl, st⟩
end
end VXH
theorem vx_ofWH {l : Launch} {y : MethodName} {ws ws' : List Cond} {rm : Room} {Pc : Array Value → State → Prop} {Qc : Array Value → State → Outcome → State → Prop} {XC : String → State → State → Prop} {mc ms : Nat} {free : Addr → Prop} {cc : ByteArray} {maxL : Nat} {ret : Option FieldType} {hh : List (Nat × Nat × Nat × Nat)}
    (hy : plainName y.cls = true) (hw : ws = Cond.codeWith y cc maxL ret hh :: ws')
    (body : ∀ p e s m args below meth c s₁, BodyLoose p l y (headSpec ws rm) cc maxL ret e s m args below meth c s₁ → c.maxLocals = maxL → Pc args s →
      W p l e (headSpec ws rm).room s m args below meth c s.heap [] 0 0 (vx_MQ below Qc XC args s mc ms free) (entryFrame m args maxL)) : vx_Met l y ws rm Pc Qc XC mc ms free := by
  refine MetFree.of_bodyS (code := cc) (maxLocals := maxL) (ret := ret) hy ?_ ?_
  · intro args s m h hn
    obtain ⟨m9, meth, c, hn9, h1, h2, h3, h4, -, h5, h6, -⟩ := Cond.codeWith_spec (atoms_spec (ws := ws) h _ (by rw [hw]; exact List.mem_cons_self))
    cases hn.symm.trans hn9
    exact ⟨meth, c, h1, h2, h3, h4, h5, h6⟩
  · intro p e s m args below meth c s₁ B hml hP _
    have hh0 : s₁.heap = s.heap := by rw [B.state]; rfl
    obtain ⟨t, a1, o, b1, b2, b3⟩ := body p e s m args below meth c s₁ B hml hP s₁ hh0 (Stand.of_body B)
    exact ⟨t, o, a1, b1, b2, b3⟩
/-! ===== END ===== -/
end
section
def RX0 : String := "CallFrames"
def RX1 : String := "CallFramesModel"
def RL : String := "CallFramesLaw"
def RJ0 : String := "java/lang/Integer"
def TX0 : u_T := fun k => match k with
  | 0 => ("CallFrames", "kinds", "[I", true)
  | 1 => ("CallFrames", "homes", "[I", true)
  | 2 => ("CallFrames", "bytes", "[I", true)
  | 3 => ("CallFrames", "count", "I", false)
  | 4 => ("CallFrames", "result", "I", false)
  | 5 => ("CallFrames", "open", "Z", false)
  | 6 => ("CallFrames", "end", "I", false)
  | 7 => ("CallFrames", "calls", "I", false)
  | 8 => ("CallFrames", "greatestArea", "I", false)
  | 9 => ("CallFrames", "localsPlace", "I", false)
  | 10 => ("CallFrames", "fractionsPlace", "I", false)
  | 11 => ("CallFrames", "generalPlace", "I", false)
  | 12 => ("CallFrames", "savedGeneral", "I", false)
  | _ => ("CallFrames", "savedFractions", "I", false)
def tyX0 : Nat → FieldType := fun k => match k with
  | 0 => .array .int
  | 1 => .array .int
  | 2 => .array .int
  | 3 => .int
  | 4 => .int
  | 5 => .boolean
  | 6 => .int
  | 7 => .int
  | 8 => .int
  | 9 => .int
  | 10 => .int
  | 11 => .int
  | 12 => .int
  | _ => .int
abbrev wsX00 : List Cond := u_ws RX0 TX0 14
theorem nmX0 : ∀ a, a < 14 → ∀ b, b < 14 → a ≠ b → (TX0 a).2.1 ≠ (TX0 b).2.1 := by decide +kernel
theorem tyX0_ok : ∀ k, k < 14 → parseFieldDescriptor (TX0 k).2.2.1 = some (tyX0 k) := by decide +kernel
def TX1 : u_T := fun k => match k with
  | 0 => ("CallFramesModel", "thrown", "I", false)
  | 1 => ("CallFramesModel", "result", "I", false)
  | 2 => ("CallFramesModel", "arguments", "I", false)
  | 3 => ("CallFramesModel", "calls", "I", false)
  | 4 => ("CallFramesModel", "greatest", "I", false)
  | 5 => ("CallFramesModel", "laidGeneral", "I", false)
  | 6 => ("CallFramesModel", "laidFractions", "I", false)
  | 7 => ("CallFramesModel", "laidLocals", "I", false)
  | 8 => ("CallFramesModel", "laidArea", "I", false)
  | 9 => ("CallFramesModel", "open", "Z", false)
  | 10 => ("CallFramesModel", "kinds", "[I", true)
  | 11 => ("CallFramesModel", "sizes", "[I", true)
  | _ => ("CallFramesModel", "alignments", "[I", true)
def tyX1 : Nat → FieldType := fun k => match k with
  | 0 => .int
  | 1 => .int
  | 2 => .int
  | 3 => .int
  | 4 => .int
  | 5 => .int
  | 6 => .int
  | 7 => .int
  | 8 => .int
  | 9 => .boolean
  | 10 => .array .int
  | 11 => .array .int
  | _ => .array .int
abbrev wsX10 : List Cond := u_ws RX1 TX1 13
theorem nmX1 : ∀ a, a < 13 → ∀ b, b < 13 → a ≠ b → (TX1 a).2.1 ≠ (TX1 b).2.1 := by decide +kernel
theorem tyX1_ok : ∀ k, k < 13 → parseFieldDescriptor (TX1 k).2.2.1 = some (tyX1 k) := by decide +kernel
abbrev cX0_init : ByteArray := prog_1_method_1_code
def yX0_init : MethodName := ⟨RX0, "<init>", "()V"⟩
abbrev cX0_call : ByteArray := prog_1_method_7_code
def yX0_call : MethodName := ⟨RX0, "call", "()I"⟩
abbrev cX0_areaSize : ByteArray := prog_1_method_24_code
def yX0_areaSize : MethodName := ⟨RX0, "areaSize", "()I"⟩
abbrev cX0_fill : ByteArray := prog_1_method_12_code
def yX0_fill : MethodName := ⟨RX0, "fill", "(II)I"⟩
abbrev cX0_clear : ByteArray := prog_1_method_10_code
def yX0_clear : MethodName := ⟨RX0, "clear", "()I"⟩
abbrev cL_begin : ByteArray := method_3_code
def yL_begin : MethodName := ⟨RL, "begin", "(LCallFrames;IIIZ)I"⟩
abbrev cX0_begin : ByteArray := prog_1_method_2_code
def yX0_begin : MethodName := ⟨RX0, "begin", "(IIIZ)V"⟩
abbrev cX0_isRecord : ByteArray := prog_1_method_11_code
def yX0_isRecord : MethodName := ⟨RX0, "isRecord", "(II)Z"⟩
abbrev cL_add : ByteArray := method_4_code
def yL_add : MethodName := ⟨RL, "add", "(LCallFrames;III[J)I"⟩
abbrev cX0_add : ByteArray := prog_1_method_3_code
def yX0_add : MethodName := ⟨RX0, "add", "(III)I"⟩
abbrev cX0_bytesOf : ByteArray := prog_1_method_13_code
def yX0_bytesOf : MethodName := ⟨RX0, "bytesOf", "(II)I"⟩
abbrev cX0_homeAlignment : ByteArray := prog_1_method_14_code
def yX0_homeAlignment : MethodName := ⟨RX0, "homeAlignment", "(II)I"⟩
abbrev cL_where : ByteArray := method_5_code
def yL_where : MethodName := ⟨RL, "where", "(LCallFrames;II[J)I"⟩
abbrev cX0_where : ByteArray := prog_1_method_4_code
def yX0_where : MethodName := ⟨RX0, "where", "(II)I"⟩
abbrev cX0_isArgument : ByteArray := prog_1_method_15_code
def yX0_isArgument : MethodName := ⟨RX0, "isArgument", "(I)Z"⟩
abbrev cX0_isAdded : ByteArray := prog_1_method_16_code
def yX0_isAdded : MethodName := ⟨RX0, "isAdded", "(I)Z"⟩
abbrev cX0_wordsAt : ByteArray := prog_1_method_19_code
def yX0_wordsAt : MethodName := ⟨RX0, "wordsAt", "(I)I"⟩
abbrev cX0_bytesAt : ByteArray := prog_1_method_18_code
def yX0_bytesAt : MethodName := ⟨RX0, "bytesAt", "(I)I"⟩
abbrev cX0_isInFraction : ByteArray := prog_1_method_21_code
def yX0_isInFraction : MethodName := ⟨RX0, "isInFraction", "(I)Z"⟩
abbrev cX0_isFractional : ByteArray := prog_1_method_20_code
def yX0_isFractional : MethodName := ⟨RX0, "isFractional", "(I)Z"⟩
abbrev cX0_fractionOf : ByteArray := prog_1_method_22_code
def yX0_fractionOf : MethodName := ⟨RX0, "fractionOf", "(II)I"⟩
abbrev cX0_homeAt : ByteArray := prog_1_method_17_code
def yX0_homeAt : MethodName := ⟨RX0, "homeAt", "(I)I"⟩
abbrev cX0_registerOrMemory : ByteArray := prog_1_method_23_code
def yX0_registerOrMemory : MethodName := ⟨RX0, "registerOrMemory", "(I)I"⟩
abbrev cL_about : ByteArray := method_6_code
def yL_about : MethodName := ⟨RL, "about", "(LCallFrames;II[J)I"⟩
abbrev cX0_about : ByteArray := prog_1_method_5_code
def yX0_about : MethodName := ⟨RX0, "about", "(II)I"⟩
abbrev cL_signature : ByteArray := method_7_code
def yL_signature : MethodName := ⟨RL, "signature", "(LCallFrames;I[J)I"⟩
abbrev cX0_signature : ByteArray := prog_1_method_6_code
def yX0_signature : MethodName := ⟨RX0, "signature", "(I)I"⟩
abbrev cX0_resultPlace : ByteArray := prog_1_method_25_code
def yX0_resultPlace : MethodName := ⟨RX0, "resultPlace", "()I"⟩
abbrev cL_frame : ByteArray := method_8_code
def yL_frame : MethodName := ⟨RL, "frame", "(LCallFrames;III[J)I"⟩
abbrev cX0_frame : ByteArray := prog_1_method_8_code
def yX0_frame : MethodName := ⟨RX0, "frame", "(III)I"⟩
abbrev cJ0_bitCount : ByteArray := prog_8_method_49_code
def yJ0_bitCount : MethodName := ⟨RJ0, "bitCount", "(I)I"⟩
abbrev cL_place : ByteArray := method_9_code
def yL_place : MethodName := ⟨RL, "place", "(LCallFrames;II[J)I"⟩
abbrev cX0_place : ByteArray := prog_1_method_9_code
def yX0_place : MethodName := ⟨RX0, "place", "(II)I"⟩
abbrev cX0_savedPlace : ByteArray := prog_1_method_26_code
def yX0_savedPlace : MethodName := ⟨RX0, "savedPlace", "(IIII)I"⟩
abbrev cX1_init : ByteArray := prog_3_method_1_code
def yX1_init : MethodName := ⟨RX1, "<init>", "()V"⟩
abbrev cX1_thrown : ByteArray := prog_3_method_2_code
def yX1_thrown : MethodName := ⟨RX1, "thrown", "()I"⟩
abbrev cX1_begin : ByteArray := prog_3_method_5_code
def yX1_begin : MethodName := ⟨RX1, "begin", "(IIIZ)V"⟩
abbrev cX1_isGood : ByteArray := prog_3_method_4_code
def yX1_isGood : MethodName := ⟨RX1, "isGood", "(IIII)Z"⟩
abbrev cX1_add : ByteArray := prog_3_method_10_code
def yX1_add : MethodName := ⟨RX1, "add", "(III)I"⟩
abbrev cX1_fail : ByteArray := prog_3_method_3_code
def yX1_fail : MethodName := ⟨RX1, "fail", "(I)I"⟩
abbrev cX1_home : ByteArray := prog_3_method_9_code
def yX1_home : MethodName := ⟨RX1, "home", "(I)I"⟩
abbrev cX1_isWide : ByteArray := prog_3_method_8_code
def yX1_isWide : MethodName := ⟨RX1, "isWide", "(I)Z"⟩
abbrev cX1_filled : ByteArray := prog_3_method_6_code
def yX1_filled : MethodName := ⟨RX1, "filled", "(II)I"⟩
abbrev cX1_bytes : ByteArray := prog_3_method_7_code
def yX1_bytes : MethodName := ⟨RX1, "bytes", "(I)I"⟩
abbrev cX1_where : ByteArray := prog_3_method_14_code
def yX1_where : MethodName := ⟨RX1, "where", "(II)I"⟩
abbrev cX1_isThere : ByteArray := prog_3_method_11_code
def yX1_isThere : MethodName := ⟨RX1, "isThere", "(I)Z"⟩
abbrev cX1_words : ByteArray := prog_3_method_12_code
def yX1_words : MethodName := ⟨RX1, "words", "(I)I"⟩
abbrev cX1_isFraction : ByteArray := prog_3_method_13_code
def yX1_isFraction : MethodName := ⟨RX1, "isFraction", "(I)Z"⟩
abbrev cX1_about : ByteArray := prog_3_method_15_code
def yX1_about : MethodName := ⟨RX1, "about", "(II)I"⟩
abbrev cX1_signature : ByteArray := prog_3_method_17_code
def yX1_signature : MethodName := ⟨RX1, "signature", "(I)I"⟩
abbrev cX1_area : ByteArray := prog_3_method_16_code
def yX1_area : MethodName := ⟨RX1, "area", "()I"⟩
abbrev cX1_call : ByteArray := prog_3_method_18_code
def yX1_call : MethodName := ⟨RX1, "call", "()I"⟩
abbrev cX1_frame : ByteArray := prog_3_method_22_code
def yX1_frame : MethodName := ⟨RX1, "frame", "(III)I"⟩
abbrev cX1_generalAt : ByteArray := prog_3_method_21_code
def yX1_generalAt : MethodName := ⟨RX1, "generalAt", "()I"⟩
abbrev cX1_fractionsAt : ByteArray := prog_3_method_20_code
def yX1_fractionsAt : MethodName := ⟨RX1, "fractionsAt", "()I"⟩
abbrev cX1_saved : ByteArray := prog_3_method_19_code
def yX1_saved : MethodName := ⟨RX1, "saved", "(III)I"⟩
abbrev cX1_place : ByteArray := prog_3_method_23_code
def yX1_place : MethodName := ⟨RX1, "place", "(II)I"⟩
abbrev cX1_clear : ByteArray := prog_3_method_24_code
def yX1_clear : MethodName := ⟨RX1, "clear", "()I"⟩
abbrev cL_law : ByteArray := code
abbrev vwCl : List vw_C := [(RX0, TX0, 14), (RX1, TX1, 13)]
/-- the good words of the tables: one list for all methods -/
def wG : List Cond := lw_tbl.filter goodWord
theorem wd_in {w : Cond} (i : Nat) (h : lw_tbl[i]? = some w) (g : goodWord w = true) : w ∈ wG := List.mem_filter.mpr ⟨List.mem_of_getElem? h, g⟩
theorem wG_good : ∀ w ∈ wG, (w.onTables && w.keeps) = true ∨ ∃ ty, w = .arrayClass ty := fun w h => good_of_word (List.mem_filter.mp h).2
theorem wG_sub {Ts : List Cond} (h : ∀ w ∈ Ts, w ∈ wG) : GoodIn wG Ts := fun w hw => ⟨h w hw, wG_good w (h w hw)⟩
theorem wG_c {b : Cond} (hb : b ∈ wG) : ∀ w ∈ b :: wG, w ∈ wG := fun w h => (List.mem_cons.mp h).elim (fun e => by rw [e]; exact hb) id
theorem wG_I {b : Cond} (hb : b ∈ wG) : GoodIn wG (b :: wG) := wG_sub (wG_c hb)
theorem wG_V {b : Cond} {own C : String} {idx : Nat} {y : MethodName} (h1 : .methodLink own idx y ∈ wG) (h2 : .instanceMethod y ∈ wG) (h3 : .selects C y y ∈ wG) (h4 : .initialized C ∈ wG) (hb : b ∈ wG) : GoodIn wG (wsV own idx C y (b :: wG)) := wG_sub (fun w h => by
  unfold wsV at h
  rcases List.mem_append.mp h with h | h
  · simp only [List.mem_cons, List.not_mem_nil, or_false] at h
    rcases h with h | h | h | h <;> rw [h] <;> assumption
  · exact wG_c hb w h)
theorem wG_S {b : Cond} {own : String} {idx : Nat} {y : MethodName} (h1 : .methodLink own idx y ∈ wG) (h2 : .static y ∈ wG) (h4 : .initialized y.cls ∈ wG) (hb : b ∈ wG) : GoodIn wG (va_wsS own idx y (b :: wG)) := wG_sub (fun w h => by
  unfold va_wsS at h
  rcases List.mem_append.mp h with h | h
  · simp only [List.mem_cons, List.not_mem_nil, or_false] at h
    rcases h with h | h | h <;> rw [h] <;> assumption
  · exact wG_c hb w h)
theorem inX0 : ∀ w ∈ wsX00, w ∈ wG := by decide +kernel
theorem inX1 : ∀ w ∈ wsX10, w ∈ wG := by decide +kernel
end
section
theorem wd_0 : (.selects RX0 yX0_areaSize yX0_areaSize : Cond) ∈ wG := wd_in 0 (by decide +kernel) rfl
theorem wd_2 : (.selects RX0 yX0_isArgument yX0_isArgument : Cond) ∈ wG := wd_in 2 (by decide +kernel) rfl
theorem wd_3 : (.selects RX0 yX0_isAdded yX0_isAdded : Cond) ∈ wG := wd_in 3 (by decide +kernel) rfl
theorem wd_4 : (.selects RX0 yX0_wordsAt yX0_wordsAt : Cond) ∈ wG := wd_in 4 (by decide +kernel) rfl
theorem wd_5 : (.selects RX0 yX0_bytesAt yX0_bytesAt : Cond) ∈ wG := wd_in 5 (by decide +kernel) rfl
theorem wd_6 : (.selects RX0 yX0_isInFraction yX0_isInFraction : Cond) ∈ wG := wd_in 6 (by decide +kernel) rfl
theorem wd_7 : (.selects RX0 yX0_isFractional yX0_isFractional : Cond) ∈ wG := wd_in 7 (by decide +kernel) rfl
theorem wd_8 : (.selects RX0 yX0_fractionOf yX0_fractionOf : Cond) ∈ wG := wd_in 8 (by decide +kernel) rfl
theorem wd_9 : (.selects RX0 yX0_homeAt yX0_homeAt : Cond) ∈ wG := wd_in 9 (by decide +kernel) rfl
theorem wd_10 : (.selects RX0 yX0_resultPlace yX0_resultPlace : Cond) ∈ wG := wd_in 10 (by decide +kernel) rfl
theorem wd_11 : (.selects RX1 yX1_fail yX1_fail : Cond) ∈ wG := wd_in 11 (by decide +kernel) rfl
theorem wd_12 : (.selects RX1 yX1_home yX1_home : Cond) ∈ wG := wd_in 12 (by decide +kernel) rfl
theorem wd_13 : (.selects RX1 yX1_isWide yX1_isWide : Cond) ∈ wG := wd_in 13 (by decide +kernel) rfl
theorem wd_14 : (.selects RX1 yX1_bytes yX1_bytes : Cond) ∈ wG := wd_in 14 (by decide +kernel) rfl
theorem wd_15 : (.selects RX1 yX1_isThere yX1_isThere : Cond) ∈ wG := wd_in 15 (by decide +kernel) rfl
theorem wd_16 : (.selects RX1 yX1_words yX1_words : Cond) ∈ wG := wd_in 16 (by decide +kernel) rfl
theorem wd_17 : (.selects RX1 yX1_isFraction yX1_isFraction : Cond) ∈ wG := wd_in 17 (by decide +kernel) rfl
theorem wd_18 : (.selects RX1 yX1_area yX1_area : Cond) ∈ wG := wd_in 18 (by decide +kernel) rfl
theorem wd_19 : (.selects RX1 yX1_generalAt yX1_generalAt : Cond) ∈ wG := wd_in 19 (by decide +kernel) rfl
theorem wd_20 : (.selects RX1 yX1_fractionsAt yX1_fractionsAt : Cond) ∈ wG := wd_in 20 (by decide +kernel) rfl
theorem wd_21 : (.initialized RL : Cond) ∈ wG := wd_in 21 (by decide +kernel) rfl
theorem wd_22 : (.initialized RX0 : Cond) ∈ wG := wd_in 22 (by decide +kernel) rfl
theorem wd_23 : (.initialized RX1 : Cond) ∈ wG := wd_in 23 (by decide +kernel) rfl
theorem wd_24 : (.initialized "java/lang/Throwable" : Cond) ∈ wG := wd_in 24 (by decide +kernel) rfl
theorem wd_25 : (.initialized "java/lang/Exception" : Cond) ∈ wG := wd_in 25 (by decide +kernel) rfl
theorem wd_26 : (.initialized "java/lang/RuntimeException" : Cond) ∈ wG := wd_in 26 (by decide +kernel) rfl
theorem wd_27 : (.initialized "java/lang/IllegalArgumentException" : Cond) ∈ wG := wd_in 27 (by decide +kernel) rfl
theorem wd_28 : (.initialized "java/lang/IllegalStateException" : Cond) ∈ wG := wd_in 28 (by decide +kernel) rfl
theorem wd_29 : (.initialized "java/lang/IndexOutOfBoundsException" : Cond) ∈ wG := wd_in 29 (by decide +kernel) rfl
theorem wd_30 : (.initialized "java/lang/Math" : Cond) ∈ wG := wd_in 30 (by decide +kernel) rfl
theorem wd_31 : (.initialized RJ0 : Cond) ∈ wG := wd_in 31 (by decide +kernel) rfl
theorem wd_32 : (.classLink RL 8 RX0 : Cond) ∈ wG := wd_in 32 (by decide +kernel) rfl
theorem wd_33 : (.instantiable RX0 14 : Cond) ∈ wG := wd_in 33 (by decide +kernel) rfl
theorem wd_34 : (.methodLink RL 40 yX0_init : Cond) ∈ wG := wd_in 34 (by decide +kernel) rfl
theorem wd_35 : (.instanceMethod yX0_init : Cond) ∈ wG := wd_in 35 (by decide +kernel) rfl
set_option maxRecDepth 20000 in
theorem wd_36 : (.code yX0_init cX0_init 1 none : Cond) ∈ wG := wd_in 36 rfl rfl
theorem wd_37 : (.methodLink RX0 3 objectInit : Cond) ∈ wG := wd_in 37 (by decide +kernel) rfl
theorem wd_38 : (.instanceMethod objectInit : Cond) ∈ wG := wd_in 38 (by decide +kernel) rfl
set_option maxRecDepth 20000 in
theorem wd_39 : (.code objectInit ⟨#[0xb1]⟩ 1 none : Cond) ∈ wG := wd_in 39 rfl rfl
theorem wd_40 : (.fieldLink RX0 9 "CallFrames" "kinds" "[I" : Cond) ∈ wG := wd_in 40 (by decide +kernel) rfl
theorem wd_41 : (.fieldLink RX0 13 "CallFrames" "homes" "[I" : Cond) ∈ wG := wd_in 41 (by decide +kernel) rfl
theorem wd_42 : (.fieldLink RX0 16 "CallFrames" "bytes" "[I" : Cond) ∈ wG := wd_in 42 (by decide +kernel) rfl
theorem wd_43 : (.fieldLink RX0 19 "CallFrames" "count" "I" : Cond) ∈ wG := wd_in 43 (by decide +kernel) rfl
theorem wd_44 : (.fieldLink RX0 23 "CallFrames" "result" "I" : Cond) ∈ wG := wd_in 44 (by decide +kernel) rfl
theorem wd_45 : (.fieldLink RX0 26 "CallFrames" "open" "Z" : Cond) ∈ wG := wd_in 45 (by decide +kernel) rfl
theorem wd_46 : (.fieldLink RX0 30 "CallFrames" "end" "I" : Cond) ∈ wG := wd_in 46 (by decide +kernel) rfl
theorem wd_47 : (.fieldLink RX0 33 "CallFrames" "calls" "I" : Cond) ∈ wG := wd_in 47 (by decide +kernel) rfl
theorem wd_48 : (.fieldLink RX0 36 "CallFrames" "greatestArea" "I" : Cond) ∈ wG := wd_in 48 (by decide +kernel) rfl
theorem wd_49 : (.fieldLink RX0 39 "CallFrames" "localsPlace" "I" : Cond) ∈ wG := wd_in 49 (by decide +kernel) rfl
theorem wd_50 : (.fieldLink RX0 42 "CallFrames" "fractionsPlace" "I" : Cond) ∈ wG := wd_in 50 (by decide +kernel) rfl
theorem wd_51 : (.fieldLink RX0 45 "CallFrames" "generalPlace" "I" : Cond) ∈ wG := wd_in 51 (by decide +kernel) rfl
theorem wd_52 : (.fieldLink RX0 48 "CallFrames" "savedGeneral" "I" : Cond) ∈ wG := wd_in 52 (by decide +kernel) rfl
theorem wd_53 : (.fieldLink RX0 51 "CallFrames" "savedFractions" "I" : Cond) ∈ wG := wd_in 53 (by decide +kernel) rfl
theorem wd_83 : (.arrayClass .int : Cond) ∈ wG := wd_in 83 (by decide +kernel) rfl
theorem wd_84 : (.methodLink RL 69 yX0_call : Cond) ∈ wG := wd_in 84 (by decide +kernel) rfl
theorem wd_85 : (.instanceMethod yX0_call : Cond) ∈ wG := wd_in 85 (by decide +kernel) rfl
theorem wd_86 : (.selects RX0 yX0_call yX0_call : Cond) ∈ wG := wd_in 86 (by decide +kernel) rfl
set_option maxRecDepth 20000 in
theorem wd_87 : (.code yX0_call cX0_call 1 (some .int) : Cond) ∈ wG := wd_in 87 rfl rfl
theorem wd_88 : (.methodLink RX0 119 yX0_areaSize : Cond) ∈ wG := wd_in 88 (by decide +kernel) rfl
theorem wd_90 : (.instanceMethod yX0_areaSize : Cond) ∈ wG := wd_in 90 (by decide +kernel) rfl
set_option maxRecDepth 20000 in
theorem wd_91 : (.code yX0_areaSize cX0_areaSize 1 (some .int) : Cond) ∈ wG := wd_in 91 rfl rfl
theorem wd_92 : (.methodLink RX0 81 yX0_fill : Cond) ∈ wG := wd_in 92 (by decide +kernel) rfl
theorem wd_93 : (.static yX0_fill : Cond) ∈ wG := wd_in 93 (by decide +kernel) rfl
set_option maxRecDepth 20000 in
theorem wd_94 : (.code yX0_fill cX0_fill 2 (some .int) : Cond) ∈ wG := wd_in 94 rfl rfl
theorem wd_95 : (.methodLink RX0 126 Lib.Math.max.name : Cond) ∈ wG := wd_in 95 (by decide +kernel) rfl
theorem wd_96 : (.static Lib.Math.max.name : Cond) ∈ wG := wd_in 96 (by decide +kernel) rfl
set_option maxRecDepth 20000 in
theorem wd_97 : (.code Lib.Math.max.name Lib.Math.max.code 2 (some .int) : Cond) ∈ wG := wd_in 97 rfl rfl
theorem wd_98 : (.methodLink RL 79 yX0_clear : Cond) ∈ wG := wd_in 98 (by decide +kernel) rfl
theorem wd_99 : (.instanceMethod yX0_clear : Cond) ∈ wG := wd_in 99 (by decide +kernel) rfl
theorem wd_100 : (.selects RX0 yX0_clear yX0_clear : Cond) ∈ wG := wd_in 100 (by decide +kernel) rfl
set_option maxRecDepth 20000 in
theorem wd_101 : (.code yX0_clear cX0_clear 2 (some .int) : Cond) ∈ wG := wd_in 101 rfl rfl
theorem wd_102 : (.methodLink RL 44 yL_begin : Cond) ∈ wG := wd_in 102 (by decide +kernel) rfl
theorem wd_103 : (.static yL_begin : Cond) ∈ wG := wd_in 103 (by decide +kernel) rfl
set_option maxRecDepth 20000 in
theorem wd_104 : (.codeWith yL_begin cL_begin 6 (some .int) [(0, 9, 12, 13)] : Cond) ∈ wG := wd_in 104 rfl rfl
theorem wd_105 : (.classLink RL 13 "java/lang/IllegalArgumentException" : Cond) ∈ wG := wd_in 105 (by decide +kernel) rfl
theorem wd_106 : (.methodLink RL 7 yX0_begin : Cond) ∈ wG := wd_in 106 (by decide +kernel) rfl
theorem wd_107 : (.instanceMethod yX0_begin : Cond) ∈ wG := wd_in 107 (by decide +kernel) rfl
theorem wd_108 : (.selects RX0 yX0_begin yX0_begin : Cond) ∈ wG := wd_in 108 (by decide +kernel) rfl
set_option maxRecDepth 20000 in
theorem wd_109 : (.code yX0_begin cX0_begin 5 none : Cond) ∈ wG := wd_in 109 rfl rfl
theorem wd_110 : (.classLink RX0 54 "java/lang/IllegalArgumentException" : Cond) ∈ wG := wd_in 110 (by decide +kernel) rfl
theorem wd_177 : (.arrayClass .byte : Cond) ∈ wG := wd_in 177 (by decide +kernel) rfl
theorem wd_178 : (.methodLink RX0 61 yX0_isRecord : Cond) ∈ wG := wd_in 178 (by decide +kernel) rfl
theorem wd_179 : (.static yX0_isRecord : Cond) ∈ wG := wd_in 179 (by decide +kernel) rfl
set_option maxRecDepth 20000 in
theorem wd_180 : (.code yX0_isRecord cX0_isRecord 2 (some .boolean) : Cond) ∈ wG := wd_in 180 rfl rfl
theorem wd_181 : (.constant RX0 151 65536 : Cond) ∈ wG := wd_in 181 (by decide +kernel) rfl
theorem wd_183 : (.methodLink RL 54 yL_add : Cond) ∈ wG := wd_in 183 (by decide +kernel) rfl
theorem wd_184 : (.static yL_add : Cond) ∈ wG := wd_in 184 (by decide +kernel) rfl
set_option maxRecDepth 20000 in
theorem wd_185 : (.codeWith yL_add cL_add 6 (some .int) [(0, 12, 15, 13), (0, 12, 19, 19)] : Cond) ∈ wG := wd_in 185 rfl rfl
theorem wd_186 : (.classLink RL 19 "java/lang/IllegalStateException" : Cond) ∈ wG := wd_in 186 (by decide +kernel) rfl
theorem wd_187 : (.methodLink RL 15 yX0_add : Cond) ∈ wG := wd_in 187 (by decide +kernel) rfl
theorem wd_188 : (.instanceMethod yX0_add : Cond) ∈ wG := wd_in 188 (by decide +kernel) rfl
theorem wd_189 : (.selects RX0 yX0_add yX0_add : Cond) ∈ wG := wd_in 189 (by decide +kernel) rfl
set_option maxRecDepth 20000 in
theorem wd_190 : (.code yX0_add cX0_add 7 (some .int) : Cond) ∈ wG := wd_in 190 rfl rfl
theorem wd_192 : (.classLink RX0 69 "java/lang/IllegalStateException" : Cond) ∈ wG := wd_in 192 (by decide +kernel) rfl
theorem wd_208 : (.methodLink RX0 74 yX0_bytesOf : Cond) ∈ wG := wd_in 208 (by decide +kernel) rfl
theorem wd_209 : (.static yX0_bytesOf : Cond) ∈ wG := wd_in 209 (by decide +kernel) rfl
set_option maxRecDepth 20000 in
theorem wd_210 : (.code yX0_bytesOf cX0_bytesOf 2 (some .int) : Cond) ∈ wG := wd_in 210 rfl rfl
theorem wd_211 : (.methodLink RX0 78 yX0_homeAlignment : Cond) ∈ wG := wd_in 211 (by decide +kernel) rfl
theorem wd_212 : (.static yX0_homeAlignment : Cond) ∈ wG := wd_in 212 (by decide +kernel) rfl
set_option maxRecDepth 20000 in
theorem wd_213 : (.code yX0_homeAlignment cX0_homeAlignment 2 (some .int) : Cond) ∈ wG := wd_in 213 rfl rfl
theorem wd_214 : (.constant RX0 84 1000000 : Cond) ∈ wG := wd_in 214 (by decide +kernel) rfl
theorem wd_216 : (.methodLink RL 58 yL_where : Cond) ∈ wG := wd_in 216 (by decide +kernel) rfl
theorem wd_217 : (.static yL_where : Cond) ∈ wG := wd_in 217 (by decide +kernel) rfl
set_option maxRecDepth 20000 in
theorem wd_218 : (.codeWith yL_where cL_where 5 (some .int) [(0, 10, 13, 25)] : Cond) ∈ wG := wd_in 218 rfl rfl
theorem wd_219 : (.classLink RL 25 "java/lang/IndexOutOfBoundsException" : Cond) ∈ wG := wd_in 219 (by decide +kernel) rfl
theorem wd_220 : (.methodLink RL 21 yX0_where : Cond) ∈ wG := wd_in 220 (by decide +kernel) rfl
theorem wd_221 : (.instanceMethod yX0_where : Cond) ∈ wG := wd_in 221 (by decide +kernel) rfl
theorem wd_222 : (.selects RX0 yX0_where yX0_where : Cond) ∈ wG := wd_in 222 (by decide +kernel) rfl
set_option maxRecDepth 20000 in
theorem wd_223 : (.code yX0_where cX0_where 3 (some .int) : Cond) ∈ wG := wd_in 223 rfl rfl
theorem wd_224 : (.methodLink RX0 87 yX0_isArgument : Cond) ∈ wG := wd_in 224 (by decide +kernel) rfl
theorem wd_226 : (.instanceMethod yX0_isArgument : Cond) ∈ wG := wd_in 226 (by decide +kernel) rfl
set_option maxRecDepth 20000 in
theorem wd_227 : (.code yX0_isArgument cX0_isArgument 2 (some .boolean) : Cond) ∈ wG := wd_in 227 rfl rfl
theorem wd_228 : (.methodLink RX0 152 yX0_isAdded : Cond) ∈ wG := wd_in 228 (by decide +kernel) rfl
theorem wd_230 : (.instanceMethod yX0_isAdded : Cond) ∈ wG := wd_in 230 (by decide +kernel) rfl
set_option maxRecDepth 20000 in
theorem wd_231 : (.code yX0_isAdded cX0_isAdded 2 (some .boolean) : Cond) ∈ wG := wd_in 231 rfl rfl
theorem wd_232 : (.classLink RX0 91 "java/lang/IndexOutOfBoundsException" : Cond) ∈ wG := wd_in 232 (by decide +kernel) rfl
theorem wd_248 : (.methodLink RX0 96 yX0_wordsAt : Cond) ∈ wG := wd_in 248 (by decide +kernel) rfl
theorem wd_250 : (.instanceMethod yX0_wordsAt : Cond) ∈ wG := wd_in 250 (by decide +kernel) rfl
set_option maxRecDepth 20000 in
theorem wd_251 : (.code yX0_wordsAt cX0_wordsAt 2 (some .int) : Cond) ∈ wG := wd_in 251 rfl rfl
theorem wd_252 : (.methodLink RX0 114 yX0_bytesAt : Cond) ∈ wG := wd_in 252 (by decide +kernel) rfl
theorem wd_254 : (.instanceMethod yX0_bytesAt : Cond) ∈ wG := wd_in 254 (by decide +kernel) rfl
set_option maxRecDepth 20000 in
theorem wd_255 : (.code yX0_bytesAt cX0_bytesAt 2 (some .int) : Cond) ∈ wG := wd_in 255 rfl rfl
theorem wd_257 : (.methodLink RX0 102 yX0_isInFraction : Cond) ∈ wG := wd_in 257 (by decide +kernel) rfl
theorem wd_259 : (.instanceMethod yX0_isInFraction : Cond) ∈ wG := wd_in 259 (by decide +kernel) rfl
set_option maxRecDepth 20000 in
theorem wd_260 : (.code yX0_isInFraction cX0_isInFraction 2 (some .boolean) : Cond) ∈ wG := wd_in 260 rfl rfl
theorem wd_261 : (.methodLink RX0 155 yX0_isFractional : Cond) ∈ wG := wd_in 261 (by decide +kernel) rfl
theorem wd_263 : (.instanceMethod yX0_isFractional : Cond) ∈ wG := wd_in 263 (by decide +kernel) rfl
set_option maxRecDepth 20000 in
theorem wd_264 : (.code yX0_isFractional cX0_isFractional 2 (some .boolean) : Cond) ∈ wG := wd_in 264 rfl rfl
theorem wd_265 : (.methodLink RX0 105 yX0_fractionOf : Cond) ∈ wG := wd_in 265 (by decide +kernel) rfl
theorem wd_267 : (.instanceMethod yX0_fractionOf : Cond) ∈ wG := wd_in 267 (by decide +kernel) rfl
set_option maxRecDepth 20000 in
theorem wd_268 : (.code yX0_fractionOf cX0_fractionOf 4 (some .int) : Cond) ∈ wG := wd_in 268 rfl rfl
theorem wd_269 : (.methodLink RX0 108 yX0_homeAt : Cond) ∈ wG := wd_in 269 (by decide +kernel) rfl
theorem wd_271 : (.instanceMethod yX0_homeAt : Cond) ∈ wG := wd_in 271 (by decide +kernel) rfl
set_option maxRecDepth 20000 in
theorem wd_272 : (.code yX0_homeAt cX0_homeAt 2 (some .int) : Cond) ∈ wG := wd_in 272 rfl rfl
theorem wd_273 : (.methodLink RX0 111 yX0_registerOrMemory : Cond) ∈ wG := wd_in 273 (by decide +kernel) rfl
theorem wd_274 : (.static yX0_registerOrMemory : Cond) ∈ wG := wd_in 274 (by decide +kernel) rfl
set_option maxRecDepth 20000 in
theorem wd_275 : (.code yX0_registerOrMemory cX0_registerOrMemory 1 (some .int) : Cond) ∈ wG := wd_in 275 rfl rfl
theorem wd_276 : (.methodLink RL 62 yL_about : Cond) ∈ wG := wd_in 276 (by decide +kernel) rfl
theorem wd_277 : (.static yL_about : Cond) ∈ wG := wd_in 277 (by decide +kernel) rfl
set_option maxRecDepth 20000 in
theorem wd_278 : (.codeWith yL_about cL_about 5 (some .int) [(0, 10, 13, 25)] : Cond) ∈ wG := wd_in 278 rfl rfl
theorem wd_279 : (.methodLink RL 27 yX0_about : Cond) ∈ wG := wd_in 279 (by decide +kernel) rfl
theorem wd_280 : (.instanceMethod yX0_about : Cond) ∈ wG := wd_in 280 (by decide +kernel) rfl
theorem wd_281 : (.selects RX0 yX0_about yX0_about : Cond) ∈ wG := wd_in 281 (by decide +kernel) rfl
set_option maxRecDepth 20000 in
theorem wd_282 : (.code yX0_about cX0_about 3 (some .int) : Cond) ∈ wG := wd_in 282 rfl rfl
theorem wd_284 : (.methodLink RL 65 yL_signature : Cond) ∈ wG := wd_in 284 (by decide +kernel) rfl
theorem wd_285 : (.static yL_signature : Cond) ∈ wG := wd_in 285 (by decide +kernel) rfl
set_option maxRecDepth 20000 in
theorem wd_286 : (.codeWith yL_signature cL_signature 4 (some .int) [(0, 9, 12, 25)] : Cond) ∈ wG := wd_in 286 rfl rfl
theorem wd_287 : (.methodLink RL 30 yX0_signature : Cond) ∈ wG := wd_in 287 (by decide +kernel) rfl
theorem wd_288 : (.instanceMethod yX0_signature : Cond) ∈ wG := wd_in 288 (by decide +kernel) rfl
theorem wd_289 : (.selects RX0 yX0_signature yX0_signature : Cond) ∈ wG := wd_in 289 (by decide +kernel) rfl
set_option maxRecDepth 20000 in
theorem wd_290 : (.code yX0_signature cX0_signature 2 (some .int) : Cond) ∈ wG := wd_in 290 rfl rfl
theorem wd_291 : (.methodLink RX0 123 yX0_resultPlace : Cond) ∈ wG := wd_in 291 (by decide +kernel) rfl
theorem wd_293 : (.instanceMethod yX0_resultPlace : Cond) ∈ wG := wd_in 293 (by decide +kernel) rfl
set_option maxRecDepth 20000 in
theorem wd_294 : (.code yX0_resultPlace cX0_resultPlace 1 (some .int) : Cond) ∈ wG := wd_in 294 rfl rfl
theorem wd_295 : (.methodLink RL 73 yL_frame : Cond) ∈ wG := wd_in 295 (by decide +kernel) rfl
theorem wd_296 : (.static yL_frame : Cond) ∈ wG := wd_in 296 (by decide +kernel) rfl
set_option maxRecDepth 20000 in
theorem wd_297 : (.codeWith yL_frame cL_frame 6 (some .int) [(0, 12, 15, 13)] : Cond) ∈ wG := wd_in 297 rfl rfl
theorem wd_298 : (.methodLink RL 34 yX0_frame : Cond) ∈ wG := wd_in 298 (by decide +kernel) rfl
theorem wd_299 : (.instanceMethod yX0_frame : Cond) ∈ wG := wd_in 299 (by decide +kernel) rfl
theorem wd_300 : (.selects RX0 yX0_frame yX0_frame : Cond) ∈ wG := wd_in 300 (by decide +kernel) rfl
set_option maxRecDepth 20000 in
theorem wd_301 : (.code yX0_frame cX0_frame 4 (some .int) : Cond) ∈ wG := wd_in 301 rfl rfl
theorem wd_303 : (.constant RX0 133 1057030143 : Cond) ∈ wG := wd_in 303 (by decide +kernel) rfl
theorem wd_305 : (.constant RX0 136 (-1431306241) : Cond) ∈ wG := wd_in 305 (by decide +kernel) rfl
theorem wd_307 : (.constant RX0 139 (-2147483648) : Cond) ∈ wG := wd_in 307 (by decide +kernel) rfl
theorem wd_308 : (.methodLink RX0 140 yJ0_bitCount : Cond) ∈ wG := wd_in 308 (by decide +kernel) rfl
theorem wd_309 : (.static yJ0_bitCount : Cond) ∈ wG := wd_in 309 (by decide +kernel) rfl
set_option maxRecDepth 20000 in
theorem wd_310 : (.code yJ0_bitCount cJ0_bitCount 1 (some .int) : Cond) ∈ wG := wd_in 310 rfl rfl
theorem wd_311 : (.constant RJ0 265 1431655765 : Cond) ∈ wG := wd_in 311 (by decide +kernel) rfl
theorem wd_312 : (.constant RJ0 266 858993459 : Cond) ∈ wG := wd_in 312 (by decide +kernel) rfl
theorem wd_313 : (.constant RJ0 267 252645135 : Cond) ∈ wG := wd_in 313 (by decide +kernel) rfl
theorem wd_314 : (.methodLink RL 76 yL_place : Cond) ∈ wG := wd_in 314 (by decide +kernel) rfl
theorem wd_315 : (.static yL_place : Cond) ∈ wG := wd_in 315 (by decide +kernel) rfl
set_option maxRecDepth 20000 in
theorem wd_316 : (.codeWith yL_place cL_place 5 (some .int) [(0, 10, 13, 25)] : Cond) ∈ wG := wd_in 316 rfl rfl
theorem wd_317 : (.methodLink RL 37 yX0_place : Cond) ∈ wG := wd_in 317 (by decide +kernel) rfl
theorem wd_318 : (.instanceMethod yX0_place : Cond) ∈ wG := wd_in 318 (by decide +kernel) rfl
theorem wd_319 : (.selects RX0 yX0_place yX0_place : Cond) ∈ wG := wd_in 319 (by decide +kernel) rfl
set_option maxRecDepth 20000 in
theorem wd_320 : (.code yX0_place cX0_place 3 (some .int) : Cond) ∈ wG := wd_in 320 rfl rfl
theorem wd_322 : (.methodLink RX0 147 yX0_savedPlace : Cond) ∈ wG := wd_in 322 (by decide +kernel) rfl
theorem wd_323 : (.static yX0_savedPlace : Cond) ∈ wG := wd_in 323 (by decide +kernel) rfl
set_option maxRecDepth 20000 in
theorem wd_324 : (.code yX0_savedPlace cX0_savedPlace 5 (some .int) : Cond) ∈ wG := wd_in 324 rfl rfl
theorem wd_325 : (.classLink RL 41 RX1 : Cond) ∈ wG := wd_in 325 (by decide +kernel) rfl
theorem wd_326 : (.instantiable RX1 13 : Cond) ∈ wG := wd_in 326 (by decide +kernel) rfl
theorem wd_327 : (.methodLink RL 43 yX1_init : Cond) ∈ wG := wd_in 327 (by decide +kernel) rfl
theorem wd_328 : (.instanceMethod yX1_init : Cond) ∈ wG := wd_in 328 (by decide +kernel) rfl
set_option maxRecDepth 20000 in
theorem wd_329 : (.code yX1_init cX1_init 1 none : Cond) ∈ wG := wd_in 329 rfl rfl
theorem wd_330 : (.methodLink RX1 1 objectInit : Cond) ∈ wG := wd_in 330 (by decide +kernel) rfl
theorem wd_331 : (.fieldLink RX1 23 "CallFramesModel" "thrown" "I" : Cond) ∈ wG := wd_in 331 (by decide +kernel) rfl
theorem wd_332 : (.fieldLink RX1 9 "CallFramesModel" "result" "I" : Cond) ∈ wG := wd_in 332 (by decide +kernel) rfl
theorem wd_333 : (.fieldLink RX1 35 "CallFramesModel" "arguments" "I" : Cond) ∈ wG := wd_in 333 (by decide +kernel) rfl
theorem wd_334 : (.fieldLink RX1 70 "CallFramesModel" "calls" "I" : Cond) ∈ wG := wd_in 334 (by decide +kernel) rfl
theorem wd_335 : (.fieldLink RX1 73 "CallFramesModel" "greatest" "I" : Cond) ∈ wG := wd_in 335 (by decide +kernel) rfl
theorem wd_336 : (.fieldLink RX1 95 "CallFramesModel" "laidGeneral" "I" : Cond) ∈ wG := wd_in 336 (by decide +kernel) rfl
theorem wd_337 : (.fieldLink RX1 85 "CallFramesModel" "laidFractions" "I" : Cond) ∈ wG := wd_in 337 (by decide +kernel) rfl
theorem wd_338 : (.fieldLink RX1 79 "CallFramesModel" "laidLocals" "I" : Cond) ∈ wG := wd_in 338 (by decide +kernel) rfl
theorem wd_339 : (.fieldLink RX1 76 "CallFramesModel" "laidArea" "I" : Cond) ∈ wG := wd_in 339 (by decide +kernel) rfl
theorem wd_340 : (.fieldLink RX1 31 "CallFramesModel" "open" "Z" : Cond) ∈ wG := wd_in 340 (by decide +kernel) rfl
theorem wd_341 : (.fieldLink RX1 13 "CallFramesModel" "kinds" "[I" : Cond) ∈ wG := wd_in 341 (by decide +kernel) rfl
theorem wd_342 : (.fieldLink RX1 17 "CallFramesModel" "sizes" "[I" : Cond) ∈ wG := wd_in 342 (by decide +kernel) rfl
theorem wd_343 : (.fieldLink RX1 20 "CallFramesModel" "alignments" "[I" : Cond) ∈ wG := wd_in 343 (by decide +kernel) rfl
theorem wd_371 : (.methodLink RL 50 yX1_thrown : Cond) ∈ wG := wd_in 371 (by decide +kernel) rfl
theorem wd_372 : (.instanceMethod yX1_thrown : Cond) ∈ wG := wd_in 372 (by decide +kernel) rfl
theorem wd_373 : (.selects RX1 yX1_thrown yX1_thrown : Cond) ∈ wG := wd_in 373 (by decide +kernel) rfl
set_option maxRecDepth 20000 in
theorem wd_374 : (.code yX1_thrown cX1_thrown 1 (some .int) : Cond) ∈ wG := wd_in 374 rfl rfl
theorem wd_375 : (.methodLink RL 49 yX1_begin : Cond) ∈ wG := wd_in 375 (by decide +kernel) rfl
theorem wd_376 : (.instanceMethod yX1_begin : Cond) ∈ wG := wd_in 376 (by decide +kernel) rfl
theorem wd_377 : (.selects RX1 yX1_begin yX1_begin : Cond) ∈ wG := wd_in 377 (by decide +kernel) rfl
set_option maxRecDepth 20000 in
theorem wd_378 : (.code yX1_begin cX1_begin 5 none : Cond) ∈ wG := wd_in 378 rfl rfl
theorem wd_379 : (.methodLink RX1 27 yX1_isGood : Cond) ∈ wG := wd_in 379 (by decide +kernel) rfl
theorem wd_380 : (.static yX1_isGood : Cond) ∈ wG := wd_in 380 (by decide +kernel) rfl
set_option maxRecDepth 20000 in
theorem wd_381 : (.code yX1_isGood cX1_isGood 5 (some .boolean) : Cond) ∈ wG := wd_in 381 rfl rfl
theorem wd_382 : (.constant RX1 26 65536 : Cond) ∈ wG := wd_in 382 (by decide +kernel) rfl
theorem wd_383 : (.methodLink RL 57 yX1_add : Cond) ∈ wG := wd_in 383 (by decide +kernel) rfl
theorem wd_384 : (.instanceMethod yX1_add : Cond) ∈ wG := wd_in 384 (by decide +kernel) rfl
theorem wd_385 : (.selects RX1 yX1_add yX1_add : Cond) ∈ wG := wd_in 385 (by decide +kernel) rfl
set_option maxRecDepth 20000 in
theorem wd_386 : (.code yX1_add cX1_add 5 (some .int) : Cond) ∈ wG := wd_in 386 rfl rfl
theorem wd_387 : (.methodLink RX1 50 yX1_fail : Cond) ∈ wG := wd_in 387 (by decide +kernel) rfl
theorem wd_389 : (.instanceMethod yX1_fail : Cond) ∈ wG := wd_in 389 (by decide +kernel) rfl
set_option maxRecDepth 20000 in
theorem wd_390 : (.code yX1_fail cX1_fail 2 (some .int) : Cond) ∈ wG := wd_in 390 rfl rfl
theorem wd_391 : (.methodLink RX1 53 yX1_home : Cond) ∈ wG := wd_in 391 (by decide +kernel) rfl
theorem wd_393 : (.instanceMethod yX1_home : Cond) ∈ wG := wd_in 393 (by decide +kernel) rfl
set_option maxRecDepth 20000 in
theorem wd_394 : (.code yX1_home cX1_home 4 (some .int) : Cond) ∈ wG := wd_in 394 rfl rfl
theorem wd_395 : (.methodLink RX1 38 yX1_isWide : Cond) ∈ wG := wd_in 395 (by decide +kernel) rfl
theorem wd_397 : (.instanceMethod yX1_isWide : Cond) ∈ wG := wd_in 397 (by decide +kernel) rfl
set_option maxRecDepth 20000 in
theorem wd_398 : (.code yX1_isWide cX1_isWide 2 (some .boolean) : Cond) ∈ wG := wd_in 398 rfl rfl
theorem wd_399 : (.methodLink RX1 42 yX1_filled : Cond) ∈ wG := wd_in 399 (by decide +kernel) rfl
theorem wd_400 : (.static yX1_filled : Cond) ∈ wG := wd_in 400 (by decide +kernel) rfl
set_option maxRecDepth 20000 in
theorem wd_401 : (.code yX1_filled cX1_filled 2 (some .int) : Cond) ∈ wG := wd_in 401 rfl rfl
theorem wd_402 : (.methodLink RX1 46 yX1_bytes : Cond) ∈ wG := wd_in 402 (by decide +kernel) rfl
theorem wd_404 : (.instanceMethod yX1_bytes : Cond) ∈ wG := wd_in 404 (by decide +kernel) rfl
set_option maxRecDepth 20000 in
theorem wd_405 : (.code yX1_bytes cX1_bytes 2 (some .int) : Cond) ∈ wG := wd_in 405 rfl rfl
theorem wd_406 : (.constant RX1 56 1000000 : Cond) ∈ wG := wd_in 406 (by decide +kernel) rfl
theorem wd_407 : (.methodLink RL 61 yX1_where : Cond) ∈ wG := wd_in 407 (by decide +kernel) rfl
theorem wd_408 : (.instanceMethod yX1_where : Cond) ∈ wG := wd_in 408 (by decide +kernel) rfl
theorem wd_409 : (.selects RX1 yX1_where yX1_where : Cond) ∈ wG := wd_in 409 (by decide +kernel) rfl
set_option maxRecDepth 20000 in
theorem wd_410 : (.code yX1_where cX1_where 5 (some .int) : Cond) ∈ wG := wd_in 410 rfl rfl
theorem wd_411 : (.methodLink RX1 57 yX1_isThere : Cond) ∈ wG := wd_in 411 (by decide +kernel) rfl
theorem wd_413 : (.instanceMethod yX1_isThere : Cond) ∈ wG := wd_in 413 (by decide +kernel) rfl
set_option maxRecDepth 20000 in
theorem wd_414 : (.code yX1_isThere cX1_isThere 2 (some .boolean) : Cond) ∈ wG := wd_in 414 rfl rfl
theorem wd_415 : (.methodLink RX1 60 yX1_words : Cond) ∈ wG := wd_in 415 (by decide +kernel) rfl
theorem wd_417 : (.instanceMethod yX1_words : Cond) ∈ wG := wd_in 417 (by decide +kernel) rfl
set_option maxRecDepth 20000 in
theorem wd_418 : (.code yX1_words cX1_words 2 (some .int) : Cond) ∈ wG := wd_in 418 rfl rfl
theorem wd_419 : (.methodLink RX1 63 yX1_isFraction : Cond) ∈ wG := wd_in 419 (by decide +kernel) rfl
theorem wd_421 : (.instanceMethod yX1_isFraction : Cond) ∈ wG := wd_in 421 (by decide +kernel) rfl
set_option maxRecDepth 20000 in
theorem wd_422 : (.code yX1_isFraction cX1_isFraction 2 (some .boolean) : Cond) ∈ wG := wd_in 422 rfl rfl
theorem wd_423 : (.methodLink RL 64 yX1_about : Cond) ∈ wG := wd_in 423 (by decide +kernel) rfl
theorem wd_424 : (.instanceMethod yX1_about : Cond) ∈ wG := wd_in 424 (by decide +kernel) rfl
theorem wd_425 : (.selects RX1 yX1_about yX1_about : Cond) ∈ wG := wd_in 425 (by decide +kernel) rfl
set_option maxRecDepth 20000 in
theorem wd_426 : (.code yX1_about cX1_about 3 (some .int) : Cond) ∈ wG := wd_in 426 rfl rfl
theorem wd_427 : (.methodLink RL 68 yX1_signature : Cond) ∈ wG := wd_in 427 (by decide +kernel) rfl
theorem wd_428 : (.instanceMethod yX1_signature : Cond) ∈ wG := wd_in 428 (by decide +kernel) rfl
theorem wd_429 : (.selects RX1 yX1_signature yX1_signature : Cond) ∈ wG := wd_in 429 (by decide +kernel) rfl
set_option maxRecDepth 20000 in
theorem wd_430 : (.code yX1_signature cX1_signature 3 (some .int) : Cond) ∈ wG := wd_in 430 rfl rfl
theorem wd_431 : (.methodLink RX1 66 yX1_area : Cond) ∈ wG := wd_in 431 (by decide +kernel) rfl
theorem wd_433 : (.instanceMethod yX1_area : Cond) ∈ wG := wd_in 433 (by decide +kernel) rfl
set_option maxRecDepth 20000 in
theorem wd_434 : (.code yX1_area cX1_area 2 (some .int) : Cond) ∈ wG := wd_in 434 rfl rfl
theorem wd_435 : (.methodLink RL 72 yX1_call : Cond) ∈ wG := wd_in 435 (by decide +kernel) rfl
theorem wd_436 : (.instanceMethod yX1_call : Cond) ∈ wG := wd_in 436 (by decide +kernel) rfl
theorem wd_437 : (.selects RX1 yX1_call yX1_call : Cond) ∈ wG := wd_in 437 (by decide +kernel) rfl
set_option maxRecDepth 20000 in
theorem wd_438 : (.code yX1_call cX1_call 1 (some .int) : Cond) ∈ wG := wd_in 438 rfl rfl
theorem wd_439 : (.methodLink RL 75 yX1_frame : Cond) ∈ wG := wd_in 439 (by decide +kernel) rfl
theorem wd_440 : (.instanceMethod yX1_frame : Cond) ∈ wG := wd_in 440 (by decide +kernel) rfl
theorem wd_441 : (.selects RX1 yX1_frame yX1_frame : Cond) ∈ wG := wd_in 441 (by decide +kernel) rfl
set_option maxRecDepth 20000 in
theorem wd_442 : (.code yX1_frame cX1_frame 6 (some .int) : Cond) ∈ wG := wd_in 442 rfl rfl
theorem wd_443 : (.constant RX1 92 (-1057030144) : Cond) ∈ wG := wd_in 443 (by decide +kernel) rfl
theorem wd_444 : (.constant RX1 93 1431306240 : Cond) ∈ wG := wd_in 444 (by decide +kernel) rfl
theorem wd_445 : (.constant RX1 94 (-2147483648) : Cond) ∈ wG := wd_in 445 (by decide +kernel) rfl
theorem wd_446 : (.methodLink RX1 98 yX1_generalAt : Cond) ∈ wG := wd_in 446 (by decide +kernel) rfl
theorem wd_448 : (.instanceMethod yX1_generalAt : Cond) ∈ wG := wd_in 448 (by decide +kernel) rfl
set_option maxRecDepth 20000 in
theorem wd_449 : (.code yX1_generalAt cX1_generalAt 1 (some .int) : Cond) ∈ wG := wd_in 449 rfl rfl
theorem wd_450 : (.methodLink RX1 82 yX1_fractionsAt : Cond) ∈ wG := wd_in 450 (by decide +kernel) rfl
theorem wd_452 : (.instanceMethod yX1_fractionsAt : Cond) ∈ wG := wd_in 452 (by decide +kernel) rfl
set_option maxRecDepth 20000 in
theorem wd_453 : (.code yX1_fractionsAt cX1_fractionsAt 1 (some .int) : Cond) ∈ wG := wd_in 453 rfl rfl
theorem wd_454 : (.methodLink RX1 88 yX1_saved : Cond) ∈ wG := wd_in 454 (by decide +kernel) rfl
theorem wd_455 : (.static yX1_saved : Cond) ∈ wG := wd_in 455 (by decide +kernel) rfl
set_option maxRecDepth 20000 in
theorem wd_456 : (.code yX1_saved cX1_saved 5 (some .int) : Cond) ∈ wG := wd_in 456 rfl rfl
theorem wd_457 : (.methodLink RL 78 yX1_place : Cond) ∈ wG := wd_in 457 (by decide +kernel) rfl
theorem wd_458 : (.instanceMethod yX1_place : Cond) ∈ wG := wd_in 458 (by decide +kernel) rfl
theorem wd_459 : (.selects RX1 yX1_place yX1_place : Cond) ∈ wG := wd_in 459 (by decide +kernel) rfl
set_option maxRecDepth 20000 in
theorem wd_460 : (.code yX1_place cX1_place 4 (some .int) : Cond) ∈ wG := wd_in 460 rfl rfl
theorem wd_461 : (.methodLink RL 82 yX1_clear : Cond) ∈ wG := wd_in 461 (by decide +kernel) rfl
theorem wd_462 : (.instanceMethod yX1_clear : Cond) ∈ wG := wd_in 462 (by decide +kernel) rfl
theorem wd_463 : (.selects RX1 yX1_clear yX1_clear : Cond) ∈ wG := wd_in 463 (by decide +kernel) rfl
set_option maxRecDepth 20000 in
theorem wd_464 : (.code yX1_clear cX1_clear 2 (some .int) : Cond) ∈ wG := wd_in 464 rfl rfl
theorem wd_465 : (.arrayClass .long : Cond) ∈ wG := wd_in 465 (by decide +kernel) rfl
end
section
theorem dJ0_bitCount_0 : decode cJ0_bitCount 0 = .ok (.iload_n 0, 1) := by decide +kernel
theorem dJ0_bitCount_1 : decode cJ0_bitCount 1 = .ok (.iload_n 0, 1) := by decide +kernel
theorem dJ0_bitCount_2 : decode cJ0_bitCount 2 = .ok (.iconst 1, 1) := by decide +kernel
theorem dJ0_bitCount_3 : decode cJ0_bitCount 3 = .ok (.iushr, 1) := by decide +kernel
theorem dJ0_bitCount_4 : decode cJ0_bitCount 4 = .ok (.ldc_w 265, 3) := by decide +kernel
theorem dJ0_bitCount_7 : decode cJ0_bitCount 7 = .ok (.iand, 1) := by decide +kernel
theorem dJ0_bitCount_8 : decode cJ0_bitCount 8 = .ok (.isub, 1) := by decide +kernel
theorem dJ0_bitCount_9 : decode cJ0_bitCount 9 = .ok (.istore_n 0, 1) := by decide +kernel
theorem dJ0_bitCount_10 : decode cJ0_bitCount 10 = .ok (.iload_n 0, 1) := by decide +kernel
theorem dJ0_bitCount_11 : decode cJ0_bitCount 11 = .ok (.ldc_w 266, 3) := by decide +kernel
theorem dJ0_bitCount_14 : decode cJ0_bitCount 14 = .ok (.iand, 1) := by decide +kernel
theorem dJ0_bitCount_15 : decode cJ0_bitCount 15 = .ok (.iload_n 0, 1) := by decide +kernel
theorem dJ0_bitCount_16 : decode cJ0_bitCount 16 = .ok (.iconst 2, 1) := by decide +kernel
theorem dJ0_bitCount_17 : decode cJ0_bitCount 17 = .ok (.iushr, 1) := by decide +kernel
theorem dJ0_bitCount_18 : decode cJ0_bitCount 18 = .ok (.ldc_w 266, 3) := by decide +kernel
theorem dJ0_bitCount_21 : decode cJ0_bitCount 21 = .ok (.iand, 1) := by decide +kernel
theorem dJ0_bitCount_22 : decode cJ0_bitCount 22 = .ok (.iadd, 1) := by decide +kernel
theorem dJ0_bitCount_23 : decode cJ0_bitCount 23 = .ok (.istore_n 0, 1) := by decide +kernel
theorem dJ0_bitCount_24 : decode cJ0_bitCount 24 = .ok (.iload_n 0, 1) := by decide +kernel
theorem dJ0_bitCount_25 : decode cJ0_bitCount 25 = .ok (.iload_n 0, 1) := by decide +kernel
theorem dJ0_bitCount_26 : decode cJ0_bitCount 26 = .ok (.iconst 4, 1) := by decide +kernel
theorem dJ0_bitCount_27 : decode cJ0_bitCount 27 = .ok (.iushr, 1) := by decide +kernel
theorem dJ0_bitCount_28 : decode cJ0_bitCount 28 = .ok (.iadd, 1) := by decide +kernel
theorem dJ0_bitCount_29 : decode cJ0_bitCount 29 = .ok (.ldc_w 267, 3) := by decide +kernel
theorem dJ0_bitCount_32 : decode cJ0_bitCount 32 = .ok (.iand, 1) := by decide +kernel
theorem dJ0_bitCount_33 : decode cJ0_bitCount 33 = .ok (.istore_n 0, 1) := by decide +kernel
theorem dJ0_bitCount_34 : decode cJ0_bitCount 34 = .ok (.iload_n 0, 1) := by decide +kernel
theorem dJ0_bitCount_35 : decode cJ0_bitCount 35 = .ok (.iload_n 0, 1) := by decide +kernel
theorem dJ0_bitCount_36 : decode cJ0_bitCount 36 = .ok (.bipush 8, 2) := by decide +kernel
theorem dJ0_bitCount_38 : decode cJ0_bitCount 38 = .ok (.iushr, 1) := by decide +kernel
theorem dJ0_bitCount_39 : decode cJ0_bitCount 39 = .ok (.iadd, 1) := by decide +kernel
theorem dJ0_bitCount_40 : decode cJ0_bitCount 40 = .ok (.istore_n 0, 1) := by decide +kernel
theorem dJ0_bitCount_41 : decode cJ0_bitCount 41 = .ok (.iload_n 0, 1) := by decide +kernel
theorem dJ0_bitCount_42 : decode cJ0_bitCount 42 = .ok (.iload_n 0, 1) := by decide +kernel
theorem dJ0_bitCount_43 : decode cJ0_bitCount 43 = .ok (.bipush 16, 2) := by decide +kernel
theorem dJ0_bitCount_45 : decode cJ0_bitCount 45 = .ok (.iushr, 1) := by decide +kernel
theorem dJ0_bitCount_46 : decode cJ0_bitCount 46 = .ok (.iadd, 1) := by decide +kernel
theorem dJ0_bitCount_47 : decode cJ0_bitCount 47 = .ok (.istore_n 0, 1) := by decide +kernel
theorem dJ0_bitCount_48 : decode cJ0_bitCount 48 = .ok (.iload_n 0, 1) := by decide +kernel
theorem dJ0_bitCount_49 : decode cJ0_bitCount 49 = .ok (.bipush 63, 2) := by decide +kernel
theorem dJ0_bitCount_51 : decode cJ0_bitCount 51 = .ok (.iand, 1) := by decide +kernel
theorem dJ0_bitCount_52 : decode cJ0_bitCount 52 = .ok (.ireturn, 1) := by decide +kernel
theorem dL_about_0 : decode cL_about 0 = .ok (.aload_n 3, 1) := by decide +kernel
theorem dL_about_1 : decode cL_about 1 = .ok (.iconst 0, 1) := by decide +kernel
theorem dL_about_2 : decode cL_about 2 = .ok (.aload_n 0, 1) := by decide +kernel
theorem dL_about_3 : decode cL_about 3 = .ok (.iload_n 1, 1) := by decide +kernel
theorem dL_about_4 : decode cL_about 4 = .ok (.iload_n 2, 1) := by decide +kernel
theorem dL_about_5 : decode cL_about 5 = .ok (.invokevirtual 27, 3) := by decide +kernel
theorem dL_about_8 : decode cL_about 8 = .ok (.i2l, 1) := by decide +kernel
theorem dL_about_9 : decode cL_about 9 = .ok (.lastore, 1) := by decide +kernel
theorem dL_about_10 : decode cL_about 10 = .ok (.goto 7, 3) := by decide +kernel
theorem dL_about_13 : decode cL_about 13 = .ok (.astore 4, 2) := by decide +kernel
theorem dL_about_15 : decode cL_about 15 = .ok (.iconst 1, 1) := by decide +kernel
theorem dL_about_16 : decode cL_about 16 = .ok (.ireturn, 1) := by decide +kernel
theorem dL_about_17 : decode cL_about 17 = .ok (.iconst 0, 1) := by decide +kernel
theorem dL_about_18 : decode cL_about 18 = .ok (.ireturn, 1) := by decide +kernel
theorem dL_add_0 : decode cL_add 0 = .ok (.aload 4, 2) := by decide +kernel
theorem dL_add_2 : decode cL_add 2 = .ok (.iconst 0, 1) := by decide +kernel
theorem dL_add_3 : decode cL_add 3 = .ok (.aload_n 0, 1) := by decide +kernel
theorem dL_add_4 : decode cL_add 4 = .ok (.iload_n 1, 1) := by decide +kernel
theorem dL_add_5 : decode cL_add 5 = .ok (.iload_n 2, 1) := by decide +kernel
theorem dL_add_6 : decode cL_add 6 = .ok (.iload_n 3, 1) := by decide +kernel
theorem dL_add_7 : decode cL_add 7 = .ok (.invokevirtual 15, 3) := by decide +kernel
theorem dL_add_10 : decode cL_add 10 = .ok (.i2l, 1) := by decide +kernel
theorem dL_add_11 : decode cL_add 11 = .ok (.lastore, 1) := by decide +kernel
theorem dL_add_12 : decode cL_add 12 = .ok (.goto 11, 3) := by decide +kernel
theorem dL_add_15 : decode cL_add 15 = .ok (.astore 5, 2) := by decide +kernel
theorem dL_add_17 : decode cL_add 17 = .ok (.iconst 1, 1) := by decide +kernel
theorem dL_add_18 : decode cL_add 18 = .ok (.ireturn, 1) := by decide +kernel
theorem dL_add_19 : decode cL_add 19 = .ok (.astore 5, 2) := by decide +kernel
theorem dL_add_21 : decode cL_add 21 = .ok (.iconst 2, 1) := by decide +kernel
theorem dL_add_22 : decode cL_add 22 = .ok (.ireturn, 1) := by decide +kernel
theorem dL_add_23 : decode cL_add 23 = .ok (.iconst 0, 1) := by decide +kernel
theorem dL_add_24 : decode cL_add 24 = .ok (.ireturn, 1) := by decide +kernel
theorem dL_begin_0 : decode cL_begin 0 = .ok (.aload_n 0, 1) := by decide +kernel
theorem dL_begin_1 : decode cL_begin 1 = .ok (.iload_n 1, 1) := by decide +kernel
theorem dL_begin_2 : decode cL_begin 2 = .ok (.iload_n 2, 1) := by decide +kernel
theorem dL_begin_3 : decode cL_begin 3 = .ok (.iload_n 3, 1) := by decide +kernel
theorem dL_begin_4 : decode cL_begin 4 = .ok (.iload 4, 2) := by decide +kernel
theorem dL_begin_6 : decode cL_begin 6 = .ok (.invokevirtual 7, 3) := by decide +kernel
theorem dL_begin_9 : decode cL_begin 9 = .ok (.goto 7, 3) := by decide +kernel
theorem dL_begin_12 : decode cL_begin 12 = .ok (.astore 5, 2) := by decide +kernel
theorem dL_begin_14 : decode cL_begin 14 = .ok (.iconst 1, 1) := by decide +kernel
theorem dL_begin_15 : decode cL_begin 15 = .ok (.ireturn, 1) := by decide +kernel
theorem dL_begin_16 : decode cL_begin 16 = .ok (.iconst 0, 1) := by decide +kernel
theorem dL_begin_17 : decode cL_begin 17 = .ok (.ireturn, 1) := by decide +kernel
theorem dL_frame_0 : decode cL_frame 0 = .ok (.aload 4, 2) := by decide +kernel
theorem dL_frame_2 : decode cL_frame 2 = .ok (.iconst 0, 1) := by decide +kernel
theorem dL_frame_3 : decode cL_frame 3 = .ok (.aload_n 0, 1) := by decide +kernel
theorem dL_frame_4 : decode cL_frame 4 = .ok (.iload_n 1, 1) := by decide +kernel
theorem dL_frame_5 : decode cL_frame 5 = .ok (.iload_n 2, 1) := by decide +kernel
theorem dL_frame_6 : decode cL_frame 6 = .ok (.iload_n 3, 1) := by decide +kernel
theorem dL_frame_7 : decode cL_frame 7 = .ok (.invokevirtual 34, 3) := by decide +kernel
theorem dL_frame_10 : decode cL_frame 10 = .ok (.i2l, 1) := by decide +kernel
theorem dL_frame_11 : decode cL_frame 11 = .ok (.lastore, 1) := by decide +kernel
theorem dL_frame_12 : decode cL_frame 12 = .ok (.goto 7, 3) := by decide +kernel
theorem dL_frame_15 : decode cL_frame 15 = .ok (.astore 5, 2) := by decide +kernel
theorem dL_frame_17 : decode cL_frame 17 = .ok (.iconst 1, 1) := by decide +kernel
theorem dL_frame_18 : decode cL_frame 18 = .ok (.ireturn, 1) := by decide +kernel
theorem dL_frame_19 : decode cL_frame 19 = .ok (.iconst 0, 1) := by decide +kernel
theorem dL_frame_20 : decode cL_frame 20 = .ok (.ireturn, 1) := by decide +kernel
theorem dL_place_0 : decode cL_place 0 = .ok (.aload_n 3, 1) := by decide +kernel
theorem dL_place_1 : decode cL_place 1 = .ok (.iconst 0, 1) := by decide +kernel
theorem dL_place_2 : decode cL_place 2 = .ok (.aload_n 0, 1) := by decide +kernel
theorem dL_place_3 : decode cL_place 3 = .ok (.iload_n 1, 1) := by decide +kernel
theorem dL_place_4 : decode cL_place 4 = .ok (.iload_n 2, 1) := by decide +kernel
theorem dL_place_5 : decode cL_place 5 = .ok (.invokevirtual 37, 3) := by decide +kernel
theorem dL_place_8 : decode cL_place 8 = .ok (.i2l, 1) := by decide +kernel
theorem dL_place_9 : decode cL_place 9 = .ok (.lastore, 1) := by decide +kernel
theorem dL_place_10 : decode cL_place 10 = .ok (.goto 7, 3) := by decide +kernel
theorem dL_place_13 : decode cL_place 13 = .ok (.astore 4, 2) := by decide +kernel
theorem dL_place_15 : decode cL_place 15 = .ok (.iconst 1, 1) := by decide +kernel
theorem dL_place_16 : decode cL_place 16 = .ok (.ireturn, 1) := by decide +kernel
theorem dL_place_17 : decode cL_place 17 = .ok (.iconst 0, 1) := by decide +kernel
theorem dL_place_18 : decode cL_place 18 = .ok (.ireturn, 1) := by decide +kernel
theorem dL_signature_0 : decode cL_signature 0 = .ok (.aload_n 2, 1) := by decide +kernel
theorem dL_signature_1 : decode cL_signature 1 = .ok (.iconst 0, 1) := by decide +kernel
theorem dL_signature_2 : decode cL_signature 2 = .ok (.aload_n 0, 1) := by decide +kernel
theorem dL_signature_3 : decode cL_signature 3 = .ok (.iload_n 1, 1) := by decide +kernel
theorem dL_signature_4 : decode cL_signature 4 = .ok (.invokevirtual 30, 3) := by decide +kernel
theorem dL_signature_7 : decode cL_signature 7 = .ok (.i2l, 1) := by decide +kernel
theorem dL_signature_8 : decode cL_signature 8 = .ok (.lastore, 1) := by decide +kernel
theorem dL_signature_9 : decode cL_signature 9 = .ok (.goto 6, 3) := by decide +kernel
theorem dL_signature_12 : decode cL_signature 12 = .ok (.astore_n 3, 1) := by decide +kernel
theorem dL_signature_13 : decode cL_signature 13 = .ok (.iconst 1, 1) := by decide +kernel
theorem dL_signature_14 : decode cL_signature 14 = .ok (.ireturn, 1) := by decide +kernel
theorem dL_signature_15 : decode cL_signature 15 = .ok (.iconst 0, 1) := by decide +kernel
theorem dL_signature_16 : decode cL_signature 16 = .ok (.ireturn, 1) := by decide +kernel
theorem dL_where_0 : decode cL_where 0 = .ok (.aload_n 3, 1) := by decide +kernel
theorem dL_where_1 : decode cL_where 1 = .ok (.iconst 0, 1) := by decide +kernel
theorem dL_where_2 : decode cL_where 2 = .ok (.aload_n 0, 1) := by decide +kernel
theorem dL_where_3 : decode cL_where 3 = .ok (.iload_n 1, 1) := by decide +kernel
theorem dL_where_4 : decode cL_where 4 = .ok (.iload_n 2, 1) := by decide +kernel
theorem dL_where_5 : decode cL_where 5 = .ok (.invokevirtual 21, 3) := by decide +kernel
theorem dL_where_8 : decode cL_where 8 = .ok (.i2l, 1) := by decide +kernel
theorem dL_where_9 : decode cL_where 9 = .ok (.lastore, 1) := by decide +kernel
theorem dL_where_10 : decode cL_where 10 = .ok (.goto 7, 3) := by decide +kernel
theorem dL_where_13 : decode cL_where 13 = .ok (.astore 4, 2) := by decide +kernel
theorem dL_where_15 : decode cL_where 15 = .ok (.iconst 1, 1) := by decide +kernel
theorem dL_where_16 : decode cL_where 16 = .ok (.ireturn, 1) := by decide +kernel
theorem dL_where_17 : decode cL_where 17 = .ok (.iconst 0, 1) := by decide +kernel
theorem dL_where_18 : decode cL_where 18 = .ok (.ireturn, 1) := by decide +kernel
theorem dX0_about_0 : decode cX0_about 0 = .ok (.aload_n 0, 1) := by decide +kernel
theorem dX0_about_1 : decode cX0_about 1 = .ok (.iload_n 1, 1) := by decide +kernel
theorem dX0_about_2 : decode cX0_about 2 = .ok (.invokevirtual 87, 3) := by decide +kernel
theorem dX0_about_5 : decode cX0_about 5 = .ok (.ifCond .ne 13, 3) := by decide +kernel
theorem dX0_about_8 : decode cX0_about 8 = .ok (.new 91, 3) := by decide +kernel
theorem dX0_about_11 : decode cX0_about 11 = .ok (.dup, 1) := by decide +kernel
theorem dX0_about_12 : decode cX0_about 12 = .ok (.ldc 93, 2) := by decide +kernel
theorem dX0_about_14 : decode cX0_about 14 = .ok (.invokespecial 95, 3) := by decide +kernel
theorem dX0_about_17 : decode cX0_about 17 = .ok (.athrow, 1) := by decide +kernel
theorem dX0_about_18 : decode cX0_about 18 = .ok (.iload_n 2, 1) := by decide +kernel
theorem dX0_about_19 : decode cX0_about 19 = .ok (.tableswitch 43 0 2 #[25, 31, 37], 25) := by decide +kernel
theorem dX0_about_44 : decode cX0_about 44 = .ok (.aload_n 0, 1) := by decide +kernel
theorem dX0_about_45 : decode cX0_about 45 = .ok (.iload_n 1, 1) := by decide +kernel
theorem dX0_about_46 : decode cX0_about 46 = .ok (.invokevirtual 108, 3) := by decide +kernel
theorem dX0_about_49 : decode cX0_about 49 = .ok (.ireturn, 1) := by decide +kernel
theorem dX0_about_50 : decode cX0_about 50 = .ok (.aload_n 0, 1) := by decide +kernel
theorem dX0_about_51 : decode cX0_about 51 = .ok (.iload_n 1, 1) := by decide +kernel
theorem dX0_about_52 : decode cX0_about 52 = .ok (.invokevirtual 114, 3) := by decide +kernel
theorem dX0_about_55 : decode cX0_about 55 = .ok (.ireturn, 1) := by decide +kernel
theorem dX0_about_56 : decode cX0_about 56 = .ok (.aload_n 0, 1) := by decide +kernel
theorem dX0_about_57 : decode cX0_about 57 = .ok (.iload_n 1, 1) := by decide +kernel
theorem dX0_about_58 : decode cX0_about 58 = .ok (.invokevirtual 96, 3) := by decide +kernel
theorem dX0_about_61 : decode cX0_about 61 = .ok (.ireturn, 1) := by decide +kernel
theorem dX0_about_62 : decode cX0_about 62 = .ok (.new 91, 3) := by decide +kernel
theorem dX0_about_65 : decode cX0_about 65 = .ok (.dup, 1) := by decide +kernel
theorem dX0_about_66 : decode cX0_about 66 = .ok (.ldc 117, 2) := by decide +kernel
theorem dX0_about_68 : decode cX0_about 68 = .ok (.invokespecial 95, 3) := by decide +kernel
theorem dX0_about_71 : decode cX0_about 71 = .ok (.athrow, 1) := by decide +kernel
theorem dX0_add_0 : decode cX0_add 0 = .ok (.iload_n 1, 1) := by decide +kernel
theorem dX0_add_1 : decode cX0_add 1 = .ok (.ifCond .lt 8, 3) := by decide +kernel
theorem dX0_add_4 : decode cX0_add 4 = .ok (.iload_n 1, 1) := by decide +kernel
theorem dX0_add_5 : decode cX0_add 5 = .ok (.iconst 3, 1) := by decide +kernel
theorem dX0_add_6 : decode cX0_add 6 = .ok (.if_icmp .le 13, 3) := by decide +kernel
theorem dX0_add_9 : decode cX0_add 9 = .ok (.new 54, 3) := by decide +kernel
theorem dX0_add_12 : decode cX0_add 12 = .ok (.dup, 1) := by decide +kernel
theorem dX0_add_13 : decode cX0_add 13 = .ok (.ldc 67, 2) := by decide +kernel
theorem dX0_add_15 : decode cX0_add 15 = .ok (.invokespecial 58, 3) := by decide +kernel
theorem dX0_add_18 : decode cX0_add 18 = .ok (.athrow, 1) := by decide +kernel
theorem dX0_add_19 : decode cX0_add 19 = .ok (.iload_n 1, 1) := by decide +kernel
theorem dX0_add_20 : decode cX0_add 20 = .ok (.iconst 3, 1) := by decide +kernel
theorem dX0_add_21 : decode cX0_add 21 = .ok (.if_icmp .ne 21, 3) := by decide +kernel
theorem dX0_add_24 : decode cX0_add 24 = .ok (.iload_n 2, 1) := by decide +kernel
theorem dX0_add_25 : decode cX0_add 25 = .ok (.iload_n 3, 1) := by decide +kernel
theorem dX0_add_26 : decode cX0_add 26 = .ok (.invokestatic 61, 3) := by decide +kernel
theorem dX0_add_29 : decode cX0_add 29 = .ok (.ifCond .ne 13, 3) := by decide +kernel
theorem dX0_add_32 : decode cX0_add 32 = .ok (.new 54, 3) := by decide +kernel
theorem dX0_add_35 : decode cX0_add 35 = .ok (.dup, 1) := by decide +kernel
theorem dX0_add_36 : decode cX0_add 36 = .ok (.ldc 65, 2) := by decide +kernel
theorem dX0_add_38 : decode cX0_add 38 = .ok (.invokespecial 58, 3) := by decide +kernel
theorem dX0_add_41 : decode cX0_add 41 = .ok (.athrow, 1) := by decide +kernel
theorem dX0_add_42 : decode cX0_add 42 = .ok (.aload_n 0, 1) := by decide +kernel
theorem dX0_add_43 : decode cX0_add 43 = .ok (.getfield 19, 3) := by decide +kernel
theorem dX0_add_46 : decode cX0_add 46 = .ok (.ifCond .lt 12, 3) := by decide +kernel
theorem dX0_add_49 : decode cX0_add 49 = .ok (.aload_n 0, 1) := by decide +kernel
theorem dX0_add_50 : decode cX0_add 50 = .ok (.getfield 19, 3) := by decide +kernel
theorem dX0_add_53 : decode cX0_add 53 = .ok (.bipush 60, 2) := by decide +kernel
theorem dX0_add_55 : decode cX0_add 55 = .ok (.if_icmp .lt 13, 3) := by decide +kernel
theorem dX0_add_58 : decode cX0_add 58 = .ok (.new 69, 3) := by decide +kernel
theorem dX0_add_61 : decode cX0_add 61 = .ok (.dup, 1) := by decide +kernel
theorem dX0_add_62 : decode cX0_add 62 = .ok (.ldc 71, 2) := by decide +kernel
theorem dX0_add_64 : decode cX0_add 64 = .ok (.invokespecial 73, 3) := by decide +kernel
theorem dX0_add_67 : decode cX0_add 67 = .ok (.athrow, 1) := by decide +kernel
theorem dX0_add_68 : decode cX0_add 68 = .ok (.iload_n 1, 1) := by decide +kernel
theorem dX0_add_69 : decode cX0_add 69 = .ok (.iload_n 2, 1) := by decide +kernel
theorem dX0_add_70 : decode cX0_add 70 = .ok (.invokestatic 74, 3) := by decide +kernel
theorem dX0_add_73 : decode cX0_add 73 = .ok (.istore 4, 2) := by decide +kernel
theorem dX0_add_75 : decode cX0_add 75 = .ok (.aload_n 0, 1) := by decide +kernel
theorem dX0_add_76 : decode cX0_add 76 = .ok (.getfield 30, 3) := by decide +kernel
theorem dX0_add_79 : decode cX0_add 79 = .ok (.iload_n 1, 1) := by decide +kernel
theorem dX0_add_80 : decode cX0_add 80 = .ok (.iload_n 3, 1) := by decide +kernel
theorem dX0_add_81 : decode cX0_add 81 = .ok (.invokestatic 78, 3) := by decide +kernel
theorem dX0_add_84 : decode cX0_add 84 = .ok (.invokestatic 81, 3) := by decide +kernel
theorem dX0_add_87 : decode cX0_add 87 = .ok (.istore 5, 2) := by decide +kernel
theorem dX0_add_89 : decode cX0_add 89 = .ok (.iload 5, 2) := by decide +kernel
theorem dX0_add_91 : decode cX0_add 91 = .ok (.iload 4, 2) := by decide +kernel
theorem dX0_add_93 : decode cX0_add 93 = .ok (.iconst 4, 1) := by decide +kernel
theorem dX0_add_94 : decode cX0_add 94 = .ok (.invokestatic 81, 3) := by decide +kernel
theorem dX0_add_97 : decode cX0_add 97 = .ok (.iadd, 1) := by decide +kernel
theorem dX0_add_98 : decode cX0_add 98 = .ok (.istore 6, 2) := by decide +kernel
theorem dX0_add_100 : decode cX0_add 100 = .ok (.iload 6, 2) := by decide +kernel
theorem dX0_add_102 : decode cX0_add 102 = .ok (.ldc 84, 2) := by decide +kernel
theorem dX0_add_104 : decode cX0_add 104 = .ok (.if_icmp .le 13, 3) := by decide +kernel
theorem dX0_add_107 : decode cX0_add 107 = .ok (.new 69, 3) := by decide +kernel
theorem dX0_add_110 : decode cX0_add 110 = .ok (.dup, 1) := by decide +kernel
theorem dX0_add_111 : decode cX0_add 111 = .ok (.ldc 85, 2) := by decide +kernel
theorem dX0_add_113 : decode cX0_add 113 = .ok (.invokespecial 73, 3) := by decide +kernel
theorem dX0_add_116 : decode cX0_add 116 = .ok (.athrow, 1) := by decide +kernel
theorem dX0_add_117 : decode cX0_add 117 = .ok (.aload_n 0, 1) := by decide +kernel
theorem dX0_add_118 : decode cX0_add 118 = .ok (.getfield 9, 3) := by decide +kernel
theorem dX0_add_121 : decode cX0_add 121 = .ok (.aload_n 0, 1) := by decide +kernel
theorem dX0_add_122 : decode cX0_add 122 = .ok (.getfield 19, 3) := by decide +kernel
theorem dX0_add_125 : decode cX0_add 125 = .ok (.iload_n 1, 1) := by decide +kernel
theorem dX0_add_126 : decode cX0_add 126 = .ok (.iastore, 1) := by decide +kernel
theorem dX0_add_127 : decode cX0_add 127 = .ok (.aload_n 0, 1) := by decide +kernel
theorem dX0_add_128 : decode cX0_add 128 = .ok (.getfield 13, 3) := by decide +kernel
theorem dX0_add_131 : decode cX0_add 131 = .ok (.aload_n 0, 1) := by decide +kernel
theorem dX0_add_132 : decode cX0_add 132 = .ok (.getfield 19, 3) := by decide +kernel
theorem dX0_add_135 : decode cX0_add 135 = .ok (.iload 5, 2) := by decide +kernel
theorem dX0_add_137 : decode cX0_add 137 = .ok (.iastore, 1) := by decide +kernel
theorem dX0_add_138 : decode cX0_add 138 = .ok (.aload_n 0, 1) := by decide +kernel
theorem dX0_add_139 : decode cX0_add 139 = .ok (.getfield 16, 3) := by decide +kernel
theorem dX0_add_142 : decode cX0_add 142 = .ok (.aload_n 0, 1) := by decide +kernel
theorem dX0_add_143 : decode cX0_add 143 = .ok (.getfield 19, 3) := by decide +kernel
theorem dX0_add_146 : decode cX0_add 146 = .ok (.iload 4, 2) := by decide +kernel
theorem dX0_add_148 : decode cX0_add 148 = .ok (.iastore, 1) := by decide +kernel
theorem dX0_add_149 : decode cX0_add 149 = .ok (.aload_n 0, 1) := by decide +kernel
theorem dX0_add_150 : decode cX0_add 150 = .ok (.dup, 1) := by decide +kernel
theorem dX0_add_151 : decode cX0_add 151 = .ok (.getfield 19, 3) := by decide +kernel
theorem dX0_add_154 : decode cX0_add 154 = .ok (.iconst 1, 1) := by decide +kernel
theorem dX0_add_155 : decode cX0_add 155 = .ok (.iadd, 1) := by decide +kernel
theorem dX0_add_156 : decode cX0_add 156 = .ok (.putfield 19, 3) := by decide +kernel
theorem dX0_add_159 : decode cX0_add 159 = .ok (.aload_n 0, 1) := by decide +kernel
theorem dX0_add_160 : decode cX0_add 160 = .ok (.iload 6, 2) := by decide +kernel
theorem dX0_add_162 : decode cX0_add 162 = .ok (.putfield 30, 3) := by decide +kernel
theorem dX0_add_165 : decode cX0_add 165 = .ok (.iload 5, 2) := by decide +kernel
theorem dX0_add_167 : decode cX0_add 167 = .ok (.ireturn, 1) := by decide +kernel
theorem dX0_areaSize_0 : decode cX0_areaSize 0 = .ok (.aload_n 0, 1) := by decide +kernel
theorem dX0_areaSize_1 : decode cX0_areaSize 1 = .ok (.getfield 30, 3) := by decide +kernel
theorem dX0_areaSize_4 : decode cX0_areaSize 4 = .ok (.bipush 8, 2) := by decide +kernel
theorem dX0_areaSize_6 : decode cX0_areaSize 6 = .ok (.invokestatic 81, 3) := by decide +kernel
theorem dX0_areaSize_9 : decode cX0_areaSize 9 = .ok (.bipush 16, 2) := by decide +kernel
theorem dX0_areaSize_11 : decode cX0_areaSize 11 = .ok (.invokestatic 126, 3) := by decide +kernel
theorem dX0_areaSize_14 : decode cX0_areaSize 14 = .ok (.ireturn, 1) := by decide +kernel
theorem dX0_begin_0 : decode cX0_begin 0 = .ok (.iload_n 1, 1) := by decide +kernel
theorem dX0_begin_1 : decode cX0_begin 1 = .ok (.ifCond .lt 8, 3) := by decide +kernel
theorem dX0_begin_4 : decode cX0_begin 4 = .ok (.iload_n 1, 1) := by decide +kernel
theorem dX0_begin_5 : decode cX0_begin 5 = .ok (.iconst 4, 1) := by decide +kernel
theorem dX0_begin_6 : decode cX0_begin 6 = .ok (.if_icmp .le 13, 3) := by decide +kernel
theorem dX0_begin_9 : decode cX0_begin 9 = .ok (.new 54, 3) := by decide +kernel
theorem dX0_begin_12 : decode cX0_begin 12 = .ok (.dup, 1) := by decide +kernel
theorem dX0_begin_13 : decode cX0_begin 13 = .ok (.ldc 56, 2) := by decide +kernel
theorem dX0_begin_15 : decode cX0_begin 15 = .ok (.invokespecial 58, 3) := by decide +kernel
theorem dX0_begin_18 : decode cX0_begin 18 = .ok (.athrow, 1) := by decide +kernel
theorem dX0_begin_19 : decode cX0_begin 19 = .ok (.iload_n 1, 1) := by decide +kernel
theorem dX0_begin_20 : decode cX0_begin 20 = .ok (.iconst 3, 1) := by decide +kernel
theorem dX0_begin_21 : decode cX0_begin 21 = .ok (.if_icmp .ne 21, 3) := by decide +kernel
theorem dX0_begin_24 : decode cX0_begin 24 = .ok (.iload_n 2, 1) := by decide +kernel
theorem dX0_begin_25 : decode cX0_begin 25 = .ok (.iload_n 3, 1) := by decide +kernel
theorem dX0_begin_26 : decode cX0_begin 26 = .ok (.invokestatic 61, 3) := by decide +kernel
theorem dX0_begin_29 : decode cX0_begin 29 = .ok (.ifCond .ne 13, 3) := by decide +kernel
theorem dX0_begin_32 : decode cX0_begin 32 = .ok (.new 54, 3) := by decide +kernel
theorem dX0_begin_35 : decode cX0_begin 35 = .ok (.dup, 1) := by decide +kernel
theorem dX0_begin_36 : decode cX0_begin 36 = .ok (.ldc 65, 2) := by decide +kernel
theorem dX0_begin_38 : decode cX0_begin 38 = .ok (.invokespecial 58, 3) := by decide +kernel
theorem dX0_begin_41 : decode cX0_begin 41 = .ok (.athrow, 1) := by decide +kernel
theorem dX0_begin_42 : decode cX0_begin 42 = .ok (.aload_n 0, 1) := by decide +kernel
theorem dX0_begin_43 : decode cX0_begin 43 = .ok (.iload_n 1, 1) := by decide +kernel
theorem dX0_begin_44 : decode cX0_begin 44 = .ok (.putfield 23, 3) := by decide +kernel
theorem dX0_begin_47 : decode cX0_begin 47 = .ok (.aload_n 0, 1) := by decide +kernel
theorem dX0_begin_48 : decode cX0_begin 48 = .ok (.iload 4, 2) := by decide +kernel
theorem dX0_begin_50 : decode cX0_begin 50 = .ok (.putfield 26, 3) := by decide +kernel
theorem dX0_begin_53 : decode cX0_begin 53 = .ok (.aload_n 0, 1) := by decide +kernel
theorem dX0_begin_54 : decode cX0_begin 54 = .ok (.iconst 0, 1) := by decide +kernel
theorem dX0_begin_55 : decode cX0_begin 55 = .ok (.putfield 19, 3) := by decide +kernel
theorem dX0_begin_58 : decode cX0_begin 58 = .ok (.aload_n 0, 1) := by decide +kernel
theorem dX0_begin_59 : decode cX0_begin 59 = .ok (.iload_n 1, 1) := by decide +kernel
theorem dX0_begin_60 : decode cX0_begin 60 = .ok (.iconst 3, 1) := by decide +kernel
theorem dX0_begin_61 : decode cX0_begin 61 = .ok (.if_icmp .ne 7, 3) := by decide +kernel
theorem dX0_begin_64 : decode cX0_begin 64 = .ok (.iconst 4, 1) := by decide +kernel
theorem dX0_begin_65 : decode cX0_begin 65 = .ok (.goto 4, 3) := by decide +kernel
theorem dX0_begin_68 : decode cX0_begin 68 = .ok (.iconst 0, 1) := by decide +kernel
theorem dX0_begin_69 : decode cX0_begin 69 = .ok (.putfield 30, 3) := by decide +kernel
theorem dX0_begin_72 : decode cX0_begin 72 = .ok (.return_, 1) := by decide +kernel
theorem dX0_bytesAt_0 : decode cX0_bytesAt 0 = .ok (.aload_n 0, 1) := by decide +kernel
theorem dX0_bytesAt_1 : decode cX0_bytesAt 1 = .ok (.iload_n 1, 1) := by decide +kernel
theorem dX0_bytesAt_2 : decode cX0_bytesAt 2 = .ok (.invokevirtual 152, 3) := by decide +kernel
theorem dX0_bytesAt_5 : decode cX0_bytesAt 5 = .ok (.ifCond .eq 12, 3) := by decide +kernel
theorem dX0_bytesAt_8 : decode cX0_bytesAt 8 = .ok (.aload_n 0, 1) := by decide +kernel
theorem dX0_bytesAt_9 : decode cX0_bytesAt 9 = .ok (.getfield 16, 3) := by decide +kernel
theorem dX0_bytesAt_12 : decode cX0_bytesAt 12 = .ok (.iload_n 1, 1) := by decide +kernel
theorem dX0_bytesAt_13 : decode cX0_bytesAt 13 = .ok (.iaload, 1) := by decide +kernel
theorem dX0_bytesAt_14 : decode cX0_bytesAt 14 = .ok (.goto 4, 3) := by decide +kernel
theorem dX0_bytesAt_17 : decode cX0_bytesAt 17 = .ok (.iconst 4, 1) := by decide +kernel
theorem dX0_bytesAt_18 : decode cX0_bytesAt 18 = .ok (.ireturn, 1) := by decide +kernel
theorem dX0_bytesOf_0 : decode cX0_bytesOf 0 = .ok (.iload_n 0, 1) := by decide +kernel
theorem dX0_bytesOf_1 : decode cX0_bytesOf 1 = .ok (.iconst 3, 1) := by decide +kernel
theorem dX0_bytesOf_2 : decode cX0_bytesOf 2 = .ok (.if_icmp .ne 5, 3) := by decide +kernel
theorem dX0_bytesOf_5 : decode cX0_bytesOf 5 = .ok (.iload_n 1, 1) := by decide +kernel
theorem dX0_bytesOf_6 : decode cX0_bytesOf 6 = .ok (.ireturn, 1) := by decide +kernel
theorem dX0_bytesOf_7 : decode cX0_bytesOf 7 = .ok (.iload_n 0, 1) := by decide +kernel
theorem dX0_bytesOf_8 : decode cX0_bytesOf 8 = .ok (.iconst 2, 1) := by decide +kernel
theorem dX0_bytesOf_9 : decode cX0_bytesOf 9 = .ok (.if_icmp .ne 8, 3) := by decide +kernel
theorem dX0_bytesOf_12 : decode cX0_bytesOf 12 = .ok (.bipush 8, 2) := by decide +kernel
theorem dX0_bytesOf_14 : decode cX0_bytesOf 14 = .ok (.goto 4, 3) := by decide +kernel
theorem dX0_bytesOf_17 : decode cX0_bytesOf 17 = .ok (.iconst 4, 1) := by decide +kernel
theorem dX0_bytesOf_18 : decode cX0_bytesOf 18 = .ok (.ireturn, 1) := by decide +kernel
theorem dX0_call_0 : decode cX0_call 0 = .ok (.aload_n 0, 1) := by decide +kernel
theorem dX0_call_1 : decode cX0_call 1 = .ok (.dup, 1) := by decide +kernel
theorem dX0_call_2 : decode cX0_call 2 = .ok (.getfield 33, 3) := by decide +kernel
theorem dX0_call_5 : decode cX0_call 5 = .ok (.iconst 1, 1) := by decide +kernel
theorem dX0_call_6 : decode cX0_call 6 = .ok (.iadd, 1) := by decide +kernel
theorem dX0_call_7 : decode cX0_call 7 = .ok (.putfield 33, 3) := by decide +kernel
theorem dX0_call_10 : decode cX0_call 10 = .ok (.aload_n 0, 1) := by decide +kernel
theorem dX0_call_11 : decode cX0_call 11 = .ok (.aload_n 0, 1) := by decide +kernel
theorem dX0_call_12 : decode cX0_call 12 = .ok (.getfield 36, 3) := by decide +kernel
theorem dX0_call_15 : decode cX0_call 15 = .ok (.aload_n 0, 1) := by decide +kernel
theorem dX0_call_16 : decode cX0_call 16 = .ok (.invokevirtual 119, 3) := by decide +kernel
theorem dX0_call_19 : decode cX0_call 19 = .ok (.invokestatic 126, 3) := by decide +kernel
theorem dX0_call_22 : decode cX0_call 22 = .ok (.putfield 36, 3) := by decide +kernel
theorem dX0_call_25 : decode cX0_call 25 = .ok (.aload_n 0, 1) := by decide +kernel
theorem dX0_call_26 : decode cX0_call 26 = .ok (.getfield 36, 3) := by decide +kernel
theorem dX0_call_29 : decode cX0_call 29 = .ok (.ireturn, 1) := by decide +kernel
end
section
theorem dX0_clear_0 : decode cX0_clear 0 = .ok (.aload_n 0, 1) := by decide +kernel
theorem dX0_clear_1 : decode cX0_clear 1 = .ok (.getfield 33, 3) := by decide +kernel
theorem dX0_clear_4 : decode cX0_clear 4 = .ok (.istore_n 1, 1) := by decide +kernel
theorem dX0_clear_5 : decode cX0_clear 5 = .ok (.aload_n 0, 1) := by decide +kernel
theorem dX0_clear_6 : decode cX0_clear 6 = .ok (.iconst 0, 1) := by decide +kernel
theorem dX0_clear_7 : decode cX0_clear 7 = .ok (.putfield 33, 3) := by decide +kernel
theorem dX0_clear_10 : decode cX0_clear 10 = .ok (.aload_n 0, 1) := by decide +kernel
theorem dX0_clear_11 : decode cX0_clear 11 = .ok (.iconst 0, 1) := by decide +kernel
theorem dX0_clear_12 : decode cX0_clear 12 = .ok (.putfield 36, 3) := by decide +kernel
theorem dX0_clear_15 : decode cX0_clear 15 = .ok (.aload_n 0, 1) := by decide +kernel
theorem dX0_clear_16 : decode cX0_clear 16 = .ok (.iconst 0, 1) := by decide +kernel
theorem dX0_clear_17 : decode cX0_clear 17 = .ok (.putfield 39, 3) := by decide +kernel
theorem dX0_clear_20 : decode cX0_clear 20 = .ok (.aload_n 0, 1) := by decide +kernel
theorem dX0_clear_21 : decode cX0_clear 21 = .ok (.iconst 0, 1) := by decide +kernel
theorem dX0_clear_22 : decode cX0_clear 22 = .ok (.putfield 42, 3) := by decide +kernel
theorem dX0_clear_25 : decode cX0_clear 25 = .ok (.aload_n 0, 1) := by decide +kernel
theorem dX0_clear_26 : decode cX0_clear 26 = .ok (.iconst 0, 1) := by decide +kernel
theorem dX0_clear_27 : decode cX0_clear 27 = .ok (.putfield 45, 3) := by decide +kernel
theorem dX0_clear_30 : decode cX0_clear 30 = .ok (.aload_n 0, 1) := by decide +kernel
theorem dX0_clear_31 : decode cX0_clear 31 = .ok (.iconst 0, 1) := by decide +kernel
theorem dX0_clear_32 : decode cX0_clear 32 = .ok (.putfield 48, 3) := by decide +kernel
theorem dX0_clear_35 : decode cX0_clear 35 = .ok (.aload_n 0, 1) := by decide +kernel
theorem dX0_clear_36 : decode cX0_clear 36 = .ok (.iconst 0, 1) := by decide +kernel
theorem dX0_clear_37 : decode cX0_clear 37 = .ok (.putfield 51, 3) := by decide +kernel
theorem dX0_clear_40 : decode cX0_clear 40 = .ok (.iload_n 1, 1) := by decide +kernel
theorem dX0_clear_41 : decode cX0_clear 41 = .ok (.ireturn, 1) := by decide +kernel
theorem dX0_fill_0 : decode cX0_fill 0 = .ok (.iload_n 0, 1) := by decide +kernel
theorem dX0_fill_1 : decode cX0_fill 1 = .ok (.iload_n 1, 1) := by decide +kernel
theorem dX0_fill_2 : decode cX0_fill 2 = .ok (.iadd, 1) := by decide +kernel
theorem dX0_fill_3 : decode cX0_fill 3 = .ok (.iconst 1, 1) := by decide +kernel
theorem dX0_fill_4 : decode cX0_fill 4 = .ok (.isub, 1) := by decide +kernel
theorem dX0_fill_5 : decode cX0_fill 5 = .ok (.iload_n 1, 1) := by decide +kernel
theorem dX0_fill_6 : decode cX0_fill 6 = .ok (.ineg, 1) := by decide +kernel
theorem dX0_fill_7 : decode cX0_fill 7 = .ok (.iand, 1) := by decide +kernel
theorem dX0_fill_8 : decode cX0_fill 8 = .ok (.ireturn, 1) := by decide +kernel
theorem dX0_fractionOf_0 : decode cX0_fractionOf 0 = .ok (.bipush 44, 2) := by decide +kernel
theorem dX0_fractionOf_2 : decode cX0_fractionOf 2 = .ok (.iconst 2, 1) := by decide +kernel
theorem dX0_fractionOf_3 : decode cX0_fractionOf 3 = .ok (.iload_n 1, 1) := by decide +kernel
theorem dX0_fractionOf_4 : decode cX0_fractionOf 4 = .ok (.imul, 1) := by decide +kernel
theorem dX0_fractionOf_5 : decode cX0_fractionOf 5 = .ok (.iadd, 1) := by decide +kernel
theorem dX0_fractionOf_6 : decode cX0_fractionOf 6 = .ok (.istore_n 3, 1) := by decide +kernel
theorem dX0_fractionOf_7 : decode cX0_fractionOf 7 = .ok (.aload_n 0, 1) := by decide +kernel
theorem dX0_fractionOf_8 : decode cX0_fractionOf 8 = .ok (.iload_n 1, 1) := by decide +kernel
theorem dX0_fractionOf_9 : decode cX0_fractionOf 9 = .ok (.invokevirtual 96, 3) := by decide +kernel
theorem dX0_fractionOf_12 : decode cX0_fractionOf 12 = .ok (.iconst 2, 1) := by decide +kernel
theorem dX0_fractionOf_13 : decode cX0_fractionOf 13 = .ok (.if_icmp .ne 11, 3) := by decide +kernel
theorem dX0_fractionOf_16 : decode cX0_fractionOf 16 = .ok (.iload_n 3, 1) := by decide +kernel
theorem dX0_fractionOf_17 : decode cX0_fractionOf 17 = .ok (.iconst 1, 1) := by decide +kernel
theorem dX0_fractionOf_18 : decode cX0_fractionOf 18 = .ok (.iadd, 1) := by decide +kernel
theorem dX0_fractionOf_19 : decode cX0_fractionOf 19 = .ok (.iload_n 2, 1) := by decide +kernel
theorem dX0_fractionOf_20 : decode cX0_fractionOf 20 = .ok (.isub, 1) := by decide +kernel
theorem dX0_fractionOf_21 : decode cX0_fractionOf 21 = .ok (.goto 4, 3) := by decide +kernel
theorem dX0_fractionOf_24 : decode cX0_fractionOf 24 = .ok (.iload_n 3, 1) := by decide +kernel
theorem dX0_fractionOf_25 : decode cX0_fractionOf 25 = .ok (.ireturn, 1) := by decide +kernel
theorem dX0_frame_0 : decode cX0_frame 0 = .ok (.iload_n 1, 1) := by decide +kernel
theorem dX0_frame_1 : decode cX0_frame 1 = .ok (.ifCond .lt 9, 3) := by decide +kernel
theorem dX0_frame_4 : decode cX0_frame 4 = .ok (.iload_n 1, 1) := by decide +kernel
theorem dX0_frame_5 : decode cX0_frame 5 = .ok (.ldc 84, 2) := by decide +kernel
theorem dX0_frame_7 : decode cX0_frame 7 = .ok (.if_icmp .le 13, 3) := by decide +kernel
theorem dX0_frame_10 : decode cX0_frame 10 = .ok (.new 54, 3) := by decide +kernel
theorem dX0_frame_13 : decode cX0_frame 13 = .ok (.dup, 1) := by decide +kernel
theorem dX0_frame_14 : decode cX0_frame 14 = .ok (.ldc 131, 2) := by decide +kernel
theorem dX0_frame_16 : decode cX0_frame 16 = .ok (.invokespecial 58, 3) := by decide +kernel
theorem dX0_frame_19 : decode cX0_frame 19 = .ok (.athrow, 1) := by decide +kernel
theorem dX0_frame_20 : decode cX0_frame 20 = .ok (.iload_n 2, 1) := by decide +kernel
theorem dX0_frame_21 : decode cX0_frame 21 = .ok (.ldc 133, 2) := by decide +kernel
theorem dX0_frame_23 : decode cX0_frame 23 = .ok (.iand, 1) := by decide +kernel
theorem dX0_frame_24 : decode cX0_frame 24 = .ok (.ifCond .eq 13, 3) := by decide +kernel
theorem dX0_frame_27 : decode cX0_frame 27 = .ok (.new 54, 3) := by decide +kernel
theorem dX0_frame_30 : decode cX0_frame 30 = .ok (.dup, 1) := by decide +kernel
theorem dX0_frame_31 : decode cX0_frame 31 = .ok (.ldc 134, 2) := by decide +kernel
theorem dX0_frame_33 : decode cX0_frame 33 = .ok (.invokespecial 58, 3) := by decide +kernel
theorem dX0_frame_36 : decode cX0_frame 36 = .ok (.athrow, 1) := by decide +kernel
theorem dX0_frame_37 : decode cX0_frame 37 = .ok (.iload_n 3, 1) := by decide +kernel
theorem dX0_frame_38 : decode cX0_frame 38 = .ok (.ldc 136, 2) := by decide +kernel
theorem dX0_frame_40 : decode cX0_frame 40 = .ok (.iand, 1) := by decide +kernel
theorem dX0_frame_41 : decode cX0_frame 41 = .ok (.ifCond .eq 13, 3) := by decide +kernel
theorem dX0_frame_44 : decode cX0_frame 44 = .ok (.new 54, 3) := by decide +kernel
theorem dX0_frame_47 : decode cX0_frame 47 = .ok (.dup, 1) := by decide +kernel
theorem dX0_frame_48 : decode cX0_frame 48 = .ok (.ldc 137, 2) := by decide +kernel
theorem dX0_frame_50 : decode cX0_frame 50 = .ok (.invokespecial 58, 3) := by decide +kernel
theorem dX0_frame_53 : decode cX0_frame 53 = .ok (.athrow, 1) := by decide +kernel
theorem dX0_frame_54 : decode cX0_frame 54 = .ok (.aload_n 0, 1) := by decide +kernel
theorem dX0_frame_55 : decode cX0_frame 55 = .ok (.aload_n 0, 1) := by decide +kernel
theorem dX0_frame_56 : decode cX0_frame 56 = .ok (.getfield 33, 3) := by decide +kernel
theorem dX0_frame_59 : decode cX0_frame 59 = .ok (.ifCond .le 10, 3) := by decide +kernel
theorem dX0_frame_62 : decode cX0_frame 62 = .ok (.iload_n 2, 1) := by decide +kernel
theorem dX0_frame_63 : decode cX0_frame 63 = .ok (.ldc 139, 2) := by decide +kernel
theorem dX0_frame_65 : decode cX0_frame 65 = .ok (.ior, 1) := by decide +kernel
theorem dX0_frame_66 : decode cX0_frame 66 = .ok (.goto 4, 3) := by decide +kernel
theorem dX0_frame_69 : decode cX0_frame 69 = .ok (.iload_n 2, 1) := by decide +kernel
theorem dX0_frame_70 : decode cX0_frame 70 = .ok (.putfield 48, 3) := by decide +kernel
theorem dX0_frame_73 : decode cX0_frame 73 = .ok (.aload_n 0, 1) := by decide +kernel
theorem dX0_frame_74 : decode cX0_frame 74 = .ok (.iload_n 3, 1) := by decide +kernel
theorem dX0_frame_75 : decode cX0_frame 75 = .ok (.putfield 51, 3) := by decide +kernel
theorem dX0_frame_78 : decode cX0_frame 78 = .ok (.aload_n 0, 1) := by decide +kernel
theorem dX0_frame_79 : decode cX0_frame 79 = .ok (.aload_n 0, 1) := by decide +kernel
theorem dX0_frame_80 : decode cX0_frame 80 = .ok (.getfield 36, 3) := by decide +kernel
theorem dX0_frame_83 : decode cX0_frame 83 = .ok (.bipush 8, 2) := by decide +kernel
theorem dX0_frame_85 : decode cX0_frame 85 = .ok (.invokestatic 81, 3) := by decide +kernel
theorem dX0_frame_88 : decode cX0_frame 88 = .ok (.putfield 39, 3) := by decide +kernel
theorem dX0_frame_91 : decode cX0_frame 91 = .ok (.aload_n 0, 1) := by decide +kernel
theorem dX0_frame_92 : decode cX0_frame 92 = .ok (.aload_n 0, 1) := by decide +kernel
theorem dX0_frame_93 : decode cX0_frame 93 = .ok (.getfield 39, 3) := by decide +kernel
theorem dX0_frame_96 : decode cX0_frame 96 = .ok (.iload_n 1, 1) := by decide +kernel
theorem dX0_frame_97 : decode cX0_frame 97 = .ok (.iadd, 1) := by decide +kernel
theorem dX0_frame_98 : decode cX0_frame 98 = .ok (.bipush 8, 2) := by decide +kernel
theorem dX0_frame_100 : decode cX0_frame 100 = .ok (.invokestatic 81, 3) := by decide +kernel
theorem dX0_frame_103 : decode cX0_frame 103 = .ok (.putfield 42, 3) := by decide +kernel
theorem dX0_frame_106 : decode cX0_frame 106 = .ok (.aload_n 0, 1) := by decide +kernel
theorem dX0_frame_107 : decode cX0_frame 107 = .ok (.aload_n 0, 1) := by decide +kernel
theorem dX0_frame_108 : decode cX0_frame 108 = .ok (.getfield 42, 3) := by decide +kernel
theorem dX0_frame_111 : decode cX0_frame 111 = .ok (.bipush 8, 2) := by decide +kernel
theorem dX0_frame_113 : decode cX0_frame 113 = .ok (.aload_n 0, 1) := by decide +kernel
theorem dX0_frame_114 : decode cX0_frame 114 = .ok (.getfield 51, 3) := by decide +kernel
theorem dX0_frame_117 : decode cX0_frame 117 = .ok (.invokestatic 140, 3) := by decide +kernel
theorem dX0_frame_120 : decode cX0_frame 120 = .ok (.imul, 1) := by decide +kernel
theorem dX0_frame_121 : decode cX0_frame 121 = .ok (.iadd, 1) := by decide +kernel
theorem dX0_frame_122 : decode cX0_frame 122 = .ok (.putfield 45, 3) := by decide +kernel
theorem dX0_frame_125 : decode cX0_frame 125 = .ok (.aload_n 0, 1) := by decide +kernel
theorem dX0_frame_126 : decode cX0_frame 126 = .ok (.getfield 45, 3) := by decide +kernel
theorem dX0_frame_129 : decode cX0_frame 129 = .ok (.iconst 4, 1) := by decide +kernel
theorem dX0_frame_130 : decode cX0_frame 130 = .ok (.aload_n 0, 1) := by decide +kernel
theorem dX0_frame_131 : decode cX0_frame 131 = .ok (.getfield 48, 3) := by decide +kernel
theorem dX0_frame_134 : decode cX0_frame 134 = .ok (.invokestatic 140, 3) := by decide +kernel
theorem dX0_frame_137 : decode cX0_frame 137 = .ok (.imul, 1) := by decide +kernel
theorem dX0_frame_138 : decode cX0_frame 138 = .ok (.iadd, 1) := by decide +kernel
theorem dX0_frame_139 : decode cX0_frame 139 = .ok (.bipush 8, 2) := by decide +kernel
theorem dX0_frame_141 : decode cX0_frame 141 = .ok (.invokestatic 81, 3) := by decide +kernel
theorem dX0_frame_144 : decode cX0_frame 144 = .ok (.ireturn, 1) := by decide +kernel
theorem dX0_homeAlignment_0 : decode cX0_homeAlignment 0 = .ok (.iload_n 0, 1) := by decide +kernel
theorem dX0_homeAlignment_1 : decode cX0_homeAlignment 1 = .ok (.iconst 2, 1) := by decide +kernel
theorem dX0_homeAlignment_2 : decode cX0_homeAlignment 2 = .ok (.if_icmp .eq 14, 3) := by decide +kernel
theorem dX0_homeAlignment_5 : decode cX0_homeAlignment 5 = .ok (.iload_n 0, 1) := by decide +kernel
theorem dX0_homeAlignment_6 : decode cX0_homeAlignment 6 = .ok (.iconst 3, 1) := by decide +kernel
theorem dX0_homeAlignment_7 : decode cX0_homeAlignment 7 = .ok (.if_icmp .ne 14, 3) := by decide +kernel
theorem dX0_homeAlignment_10 : decode cX0_homeAlignment 10 = .ok (.iload_n 1, 1) := by decide +kernel
theorem dX0_homeAlignment_11 : decode cX0_homeAlignment 11 = .ok (.bipush 8, 2) := by decide +kernel
theorem dX0_homeAlignment_13 : decode cX0_homeAlignment 13 = .ok (.if_icmp .ne 8, 3) := by decide +kernel
theorem dX0_homeAlignment_16 : decode cX0_homeAlignment 16 = .ok (.bipush 8, 2) := by decide +kernel
theorem dX0_homeAlignment_18 : decode cX0_homeAlignment 18 = .ok (.goto 4, 3) := by decide +kernel
theorem dX0_homeAlignment_21 : decode cX0_homeAlignment 21 = .ok (.iconst 4, 1) := by decide +kernel
theorem dX0_homeAlignment_22 : decode cX0_homeAlignment 22 = .ok (.ireturn, 1) := by decide +kernel
theorem dX0_homeAt_0 : decode cX0_homeAt 0 = .ok (.aload_n 0, 1) := by decide +kernel
theorem dX0_homeAt_1 : decode cX0_homeAt 1 = .ok (.iload_n 1, 1) := by decide +kernel
theorem dX0_homeAt_2 : decode cX0_homeAt 2 = .ok (.invokevirtual 152, 3) := by decide +kernel
theorem dX0_homeAt_5 : decode cX0_homeAt 5 = .ok (.ifCond .eq 12, 3) := by decide +kernel
theorem dX0_homeAt_8 : decode cX0_homeAt 8 = .ok (.aload_n 0, 1) := by decide +kernel
theorem dX0_homeAt_9 : decode cX0_homeAt 9 = .ok (.getfield 13, 3) := by decide +kernel
theorem dX0_homeAt_12 : decode cX0_homeAt 12 = .ok (.iload_n 1, 1) := by decide +kernel
theorem dX0_homeAt_13 : decode cX0_homeAt 13 = .ok (.iaload, 1) := by decide +kernel
theorem dX0_homeAt_14 : decode cX0_homeAt 14 = .ok (.goto 4, 3) := by decide +kernel
theorem dX0_homeAt_17 : decode cX0_homeAt 17 = .ok (.iconst 0, 1) := by decide +kernel
theorem dX0_homeAt_18 : decode cX0_homeAt 18 = .ok (.ireturn, 1) := by decide +kernel
theorem dX0_init_0 : decode cX0_init 0 = .ok (.aload_n 0, 1) := by decide +kernel
theorem dX0_init_1 : decode cX0_init 1 = .ok (.invokespecial 3, 3) := by decide +kernel
theorem dX0_init_4 : decode cX0_init 4 = .ok (.aload_n 0, 1) := by decide +kernel
theorem dX0_init_5 : decode cX0_init 5 = .ok (.bipush 60, 2) := by decide +kernel
theorem dX0_init_7 : decode cX0_init 7 = .ok (.newarray .int, 2) := by decide +kernel
theorem dX0_init_9 : decode cX0_init 9 = .ok (.putfield 9, 3) := by decide +kernel
theorem dX0_init_12 : decode cX0_init 12 = .ok (.aload_n 0, 1) := by decide +kernel
theorem dX0_init_13 : decode cX0_init 13 = .ok (.bipush 60, 2) := by decide +kernel
theorem dX0_init_15 : decode cX0_init 15 = .ok (.newarray .int, 2) := by decide +kernel
theorem dX0_init_17 : decode cX0_init 17 = .ok (.putfield 13, 3) := by decide +kernel
theorem dX0_init_20 : decode cX0_init 20 = .ok (.aload_n 0, 1) := by decide +kernel
theorem dX0_init_21 : decode cX0_init 21 = .ok (.bipush 60, 2) := by decide +kernel
theorem dX0_init_23 : decode cX0_init 23 = .ok (.newarray .int, 2) := by decide +kernel
theorem dX0_init_25 : decode cX0_init 25 = .ok (.putfield 16, 3) := by decide +kernel
theorem dX0_init_28 : decode cX0_init 28 = .ok (.aload_n 0, 1) := by decide +kernel
theorem dX0_init_29 : decode cX0_init 29 = .ok (.iconst 0, 1) := by decide +kernel
theorem dX0_init_30 : decode cX0_init 30 = .ok (.putfield 19, 3) := by decide +kernel
theorem dX0_init_33 : decode cX0_init 33 = .ok (.aload_n 0, 1) := by decide +kernel
theorem dX0_init_34 : decode cX0_init 34 = .ok (.iconst 4, 1) := by decide +kernel
theorem dX0_init_35 : decode cX0_init 35 = .ok (.putfield 23, 3) := by decide +kernel
theorem dX0_init_38 : decode cX0_init 38 = .ok (.aload_n 0, 1) := by decide +kernel
theorem dX0_init_39 : decode cX0_init 39 = .ok (.iconst 0, 1) := by decide +kernel
theorem dX0_init_40 : decode cX0_init 40 = .ok (.putfield 26, 3) := by decide +kernel
theorem dX0_init_43 : decode cX0_init 43 = .ok (.aload_n 0, 1) := by decide +kernel
theorem dX0_init_44 : decode cX0_init 44 = .ok (.iconst 0, 1) := by decide +kernel
theorem dX0_init_45 : decode cX0_init 45 = .ok (.putfield 30, 3) := by decide +kernel
theorem dX0_init_48 : decode cX0_init 48 = .ok (.aload_n 0, 1) := by decide +kernel
theorem dX0_init_49 : decode cX0_init 49 = .ok (.iconst 0, 1) := by decide +kernel
theorem dX0_init_50 : decode cX0_init 50 = .ok (.putfield 33, 3) := by decide +kernel
theorem dX0_init_53 : decode cX0_init 53 = .ok (.aload_n 0, 1) := by decide +kernel
theorem dX0_init_54 : decode cX0_init 54 = .ok (.iconst 0, 1) := by decide +kernel
theorem dX0_init_55 : decode cX0_init 55 = .ok (.putfield 36, 3) := by decide +kernel
theorem dX0_init_58 : decode cX0_init 58 = .ok (.aload_n 0, 1) := by decide +kernel
theorem dX0_init_59 : decode cX0_init 59 = .ok (.iconst 0, 1) := by decide +kernel
theorem dX0_init_60 : decode cX0_init 60 = .ok (.putfield 39, 3) := by decide +kernel
theorem dX0_init_63 : decode cX0_init 63 = .ok (.aload_n 0, 1) := by decide +kernel
theorem dX0_init_64 : decode cX0_init 64 = .ok (.iconst 0, 1) := by decide +kernel
theorem dX0_init_65 : decode cX0_init 65 = .ok (.putfield 42, 3) := by decide +kernel
theorem dX0_init_68 : decode cX0_init 68 = .ok (.aload_n 0, 1) := by decide +kernel
theorem dX0_init_69 : decode cX0_init 69 = .ok (.iconst 0, 1) := by decide +kernel
theorem dX0_init_70 : decode cX0_init 70 = .ok (.putfield 45, 3) := by decide +kernel
theorem dX0_init_73 : decode cX0_init 73 = .ok (.aload_n 0, 1) := by decide +kernel
theorem dX0_init_74 : decode cX0_init 74 = .ok (.iconst 0, 1) := by decide +kernel
theorem dX0_init_75 : decode cX0_init 75 = .ok (.putfield 48, 3) := by decide +kernel
theorem dX0_init_78 : decode cX0_init 78 = .ok (.aload_n 0, 1) := by decide +kernel
theorem dX0_init_79 : decode cX0_init 79 = .ok (.iconst 0, 1) := by decide +kernel
theorem dX0_init_80 : decode cX0_init 80 = .ok (.putfield 51, 3) := by decide +kernel
theorem dX0_init_83 : decode cX0_init 83 = .ok (.return_, 1) := by decide +kernel
theorem dX0_isAdded_0 : decode cX0_isAdded 0 = .ok (.iload_n 1, 1) := by decide +kernel
theorem dX0_isAdded_1 : decode cX0_isAdded 1 = .ok (.ifCond .lt 21, 3) := by decide +kernel
theorem dX0_isAdded_4 : decode cX0_isAdded 4 = .ok (.iload_n 1, 1) := by decide +kernel
theorem dX0_isAdded_5 : decode cX0_isAdded 5 = .ok (.aload_n 0, 1) := by decide +kernel
theorem dX0_isAdded_6 : decode cX0_isAdded 6 = .ok (.getfield 19, 3) := by decide +kernel
theorem dX0_isAdded_9 : decode cX0_isAdded 9 = .ok (.if_icmp .ge 13, 3) := by decide +kernel
theorem dX0_isAdded_12 : decode cX0_isAdded 12 = .ok (.iload_n 1, 1) := by decide +kernel
theorem dX0_isAdded_13 : decode cX0_isAdded 13 = .ok (.bipush 60, 2) := by decide +kernel
theorem dX0_isAdded_15 : decode cX0_isAdded 15 = .ok (.if_icmp .ge 7, 3) := by decide +kernel
theorem dX0_isAdded_18 : decode cX0_isAdded 18 = .ok (.iconst 1, 1) := by decide +kernel
theorem dX0_isAdded_19 : decode cX0_isAdded 19 = .ok (.goto 4, 3) := by decide +kernel
theorem dX0_isAdded_22 : decode cX0_isAdded 22 = .ok (.iconst 0, 1) := by decide +kernel
theorem dX0_isAdded_23 : decode cX0_isAdded 23 = .ok (.ireturn, 1) := by decide +kernel
theorem dX0_isArgument_0 : decode cX0_isArgument 0 = .ok (.iload_n 1, 1) := by decide +kernel
theorem dX0_isArgument_1 : decode cX0_isArgument 1 = .ok (.iconst (-1), 1) := by decide +kernel
theorem dX0_isArgument_2 : decode cX0_isArgument 2 = .ok (.if_icmp .ne 17, 3) := by decide +kernel
theorem dX0_isArgument_5 : decode cX0_isArgument 5 = .ok (.aload_n 0, 1) := by decide +kernel
theorem dX0_isArgument_6 : decode cX0_isArgument 6 = .ok (.getfield 23, 3) := by decide +kernel
theorem dX0_isArgument_9 : decode cX0_isArgument 9 = .ok (.iconst 3, 1) := by decide +kernel
theorem dX0_isArgument_10 : decode cX0_isArgument 10 = .ok (.if_icmp .ne 7, 3) := by decide +kernel
theorem dX0_isArgument_13 : decode cX0_isArgument 13 = .ok (.iconst 1, 1) := by decide +kernel
theorem dX0_isArgument_14 : decode cX0_isArgument 14 = .ok (.goto 4, 3) := by decide +kernel
theorem dX0_isArgument_17 : decode cX0_isArgument 17 = .ok (.iconst 0, 1) := by decide +kernel
theorem dX0_isArgument_18 : decode cX0_isArgument 18 = .ok (.ireturn, 1) := by decide +kernel
theorem dX0_isArgument_19 : decode cX0_isArgument 19 = .ok (.aload_n 0, 1) := by decide +kernel
theorem dX0_isArgument_20 : decode cX0_isArgument 20 = .ok (.iload_n 1, 1) := by decide +kernel
theorem dX0_isArgument_21 : decode cX0_isArgument 21 = .ok (.invokevirtual 152, 3) := by decide +kernel
theorem dX0_isArgument_24 : decode cX0_isArgument 24 = .ok (.ireturn, 1) := by decide +kernel
theorem dX0_isFractional_0 : decode cX0_isFractional 0 = .ok (.aload_n 0, 1) := by decide +kernel
theorem dX0_isFractional_1 : decode cX0_isFractional 1 = .ok (.iload_n 1, 1) := by decide +kernel
theorem dX0_isFractional_2 : decode cX0_isFractional 2 = .ok (.invokevirtual 152, 3) := by decide +kernel
theorem dX0_isFractional_5 : decode cX0_isFractional 5 = .ok (.ifCond .eq 27, 3) := by decide +kernel
theorem dX0_isFractional_8 : decode cX0_isFractional 8 = .ok (.aload_n 0, 1) := by decide +kernel
theorem dX0_isFractional_9 : decode cX0_isFractional 9 = .ok (.getfield 9, 3) := by decide +kernel
theorem dX0_isFractional_12 : decode cX0_isFractional 12 = .ok (.iload_n 1, 1) := by decide +kernel
theorem dX0_isFractional_13 : decode cX0_isFractional 13 = .ok (.iaload, 1) := by decide +kernel
theorem dX0_isFractional_14 : decode cX0_isFractional 14 = .ok (.iconst 1, 1) := by decide +kernel
theorem dX0_isFractional_15 : decode cX0_isFractional 15 = .ok (.if_icmp .eq 13, 3) := by decide +kernel
theorem dX0_isFractional_18 : decode cX0_isFractional 18 = .ok (.aload_n 0, 1) := by decide +kernel
theorem dX0_isFractional_19 : decode cX0_isFractional 19 = .ok (.getfield 9, 3) := by decide +kernel
theorem dX0_isFractional_22 : decode cX0_isFractional 22 = .ok (.iload_n 1, 1) := by decide +kernel
theorem dX0_isFractional_23 : decode cX0_isFractional 23 = .ok (.iaload, 1) := by decide +kernel
theorem dX0_isFractional_24 : decode cX0_isFractional 24 = .ok (.iconst 2, 1) := by decide +kernel
theorem dX0_isFractional_25 : decode cX0_isFractional 25 = .ok (.if_icmp .ne 7, 3) := by decide +kernel
theorem dX0_isFractional_28 : decode cX0_isFractional 28 = .ok (.iconst 1, 1) := by decide +kernel
theorem dX0_isFractional_29 : decode cX0_isFractional 29 = .ok (.goto 4, 3) := by decide +kernel
theorem dX0_isFractional_32 : decode cX0_isFractional 32 = .ok (.iconst 0, 1) := by decide +kernel
theorem dX0_isFractional_33 : decode cX0_isFractional 33 = .ok (.ireturn, 1) := by decide +kernel
theorem dX0_isInFraction_0 : decode cX0_isInFraction 0 = .ok (.aload_n 0, 1) := by decide +kernel
theorem dX0_isInFraction_1 : decode cX0_isInFraction 1 = .ok (.getfield 26, 3) := by decide +kernel
theorem dX0_isInFraction_4 : decode cX0_isInFraction 4 = .ok (.ifCond .ne 11, 3) := by decide +kernel
theorem dX0_isInFraction_7 : decode cX0_isInFraction 7 = .ok (.aload_n 0, 1) := by decide +kernel
theorem dX0_isInFraction_8 : decode cX0_isInFraction 8 = .ok (.getfield 23, 3) := by decide +kernel
theorem dX0_isInFraction_11 : decode cX0_isInFraction 11 = .ok (.iconst 3, 1) := by decide +kernel
theorem dX0_isInFraction_12 : decode cX0_isInFraction 12 = .ok (.if_icmp .ne 5, 3) := by decide +kernel
theorem dX0_isInFraction_15 : decode cX0_isInFraction 15 = .ok (.iconst 0, 1) := by decide +kernel
theorem dX0_isInFraction_16 : decode cX0_isInFraction 16 = .ok (.ireturn, 1) := by decide +kernel
theorem dX0_isInFraction_17 : decode cX0_isInFraction 17 = .ok (.iload_n 1, 1) := by decide +kernel
theorem dX0_isInFraction_18 : decode cX0_isInFraction 18 = .ok (.ifCond .ne 9, 3) := by decide +kernel
theorem dX0_isInFraction_21 : decode cX0_isInFraction 21 = .ok (.aload_n 0, 1) := by decide +kernel
theorem dX0_isInFraction_22 : decode cX0_isInFraction 22 = .ok (.iconst 0, 1) := by decide +kernel
theorem dX0_isInFraction_23 : decode cX0_isInFraction 23 = .ok (.invokevirtual 155, 3) := by decide +kernel
theorem dX0_isInFraction_26 : decode cX0_isInFraction 26 = .ok (.ireturn, 1) := by decide +kernel
theorem dX0_isInFraction_27 : decode cX0_isInFraction 27 = .ok (.iload_n 1, 1) := by decide +kernel
theorem dX0_isInFraction_28 : decode cX0_isInFraction 28 = .ok (.iconst 1, 1) := by decide +kernel
theorem dX0_isInFraction_29 : decode cX0_isInFraction 29 = .ok (.if_icmp .ne 23, 3) := by decide +kernel
theorem dX0_isInFraction_32 : decode cX0_isInFraction 32 = .ok (.aload_n 0, 1) := by decide +kernel
theorem dX0_isInFraction_33 : decode cX0_isInFraction 33 = .ok (.iconst 0, 1) := by decide +kernel
theorem dX0_isInFraction_34 : decode cX0_isInFraction 34 = .ok (.invokevirtual 155, 3) := by decide +kernel
theorem dX0_isInFraction_37 : decode cX0_isInFraction 37 = .ok (.ifCond .eq 15, 3) := by decide +kernel
theorem dX0_isInFraction_40 : decode cX0_isInFraction 40 = .ok (.aload_n 0, 1) := by decide +kernel
theorem dX0_isInFraction_41 : decode cX0_isInFraction 41 = .ok (.iconst 1, 1) := by decide +kernel
theorem dX0_isInFraction_42 : decode cX0_isInFraction 42 = .ok (.invokevirtual 155, 3) := by decide +kernel
theorem dX0_isInFraction_45 : decode cX0_isInFraction 45 = .ok (.ifCond .eq 7, 3) := by decide +kernel
theorem dX0_isInFraction_48 : decode cX0_isInFraction 48 = .ok (.iconst 1, 1) := by decide +kernel
theorem dX0_isInFraction_49 : decode cX0_isInFraction 49 = .ok (.goto 4, 3) := by decide +kernel
theorem dX0_isInFraction_52 : decode cX0_isInFraction 52 = .ok (.iconst 0, 1) := by decide +kernel
theorem dX0_isInFraction_53 : decode cX0_isInFraction 53 = .ok (.ireturn, 1) := by decide +kernel
theorem dX0_isRecord_0 : decode cX0_isRecord 0 = .ok (.iload_n 1, 1) := by decide +kernel
theorem dX0_isRecord_1 : decode cX0_isRecord 1 = .ok (.iconst 1, 1) := by decide +kernel
theorem dX0_isRecord_2 : decode cX0_isRecord 2 = .ok (.if_icmp .eq 21, 3) := by decide +kernel
theorem dX0_isRecord_5 : decode cX0_isRecord 5 = .ok (.iload_n 1, 1) := by decide +kernel
theorem dX0_isRecord_6 : decode cX0_isRecord 6 = .ok (.iconst 2, 1) := by decide +kernel
theorem dX0_isRecord_7 : decode cX0_isRecord 7 = .ok (.if_icmp .eq 16, 3) := by decide +kernel
theorem dX0_isRecord_10 : decode cX0_isRecord 10 = .ok (.iload_n 1, 1) := by decide +kernel
theorem dX0_isRecord_11 : decode cX0_isRecord 11 = .ok (.iconst 4, 1) := by decide +kernel
theorem dX0_isRecord_12 : decode cX0_isRecord 12 = .ok (.if_icmp .eq 11, 3) := by decide +kernel
theorem dX0_isRecord_15 : decode cX0_isRecord 15 = .ok (.iload_n 1, 1) := by decide +kernel
theorem dX0_isRecord_16 : decode cX0_isRecord 16 = .ok (.bipush 8, 2) := by decide +kernel
theorem dX0_isRecord_18 : decode cX0_isRecord 18 = .ok (.if_icmp .eq 5, 3) := by decide +kernel
theorem dX0_isRecord_21 : decode cX0_isRecord 21 = .ok (.iconst 0, 1) := by decide +kernel
theorem dX0_isRecord_22 : decode cX0_isRecord 22 = .ok (.ireturn, 1) := by decide +kernel
theorem dX0_isRecord_23 : decode cX0_isRecord 23 = .ok (.iload_n 0, 1) := by decide +kernel
theorem dX0_isRecord_24 : decode cX0_isRecord 24 = .ok (.iconst 1, 1) := by decide +kernel
theorem dX0_isRecord_25 : decode cX0_isRecord 25 = .ok (.if_icmp .lt 22, 3) := by decide +kernel
theorem dX0_isRecord_28 : decode cX0_isRecord 28 = .ok (.iload_n 0, 1) := by decide +kernel
theorem dX0_isRecord_29 : decode cX0_isRecord 29 = .ok (.ldc 151, 2) := by decide +kernel
theorem dX0_isRecord_31 : decode cX0_isRecord 31 = .ok (.if_icmp .gt 16, 3) := by decide +kernel
theorem dX0_isRecord_34 : decode cX0_isRecord 34 = .ok (.iload_n 0, 1) := by decide +kernel
theorem dX0_isRecord_35 : decode cX0_isRecord 35 = .ok (.iload_n 1, 1) := by decide +kernel
theorem dX0_isRecord_36 : decode cX0_isRecord 36 = .ok (.invokestatic 81, 3) := by decide +kernel
theorem dX0_isRecord_39 : decode cX0_isRecord 39 = .ok (.iload_n 0, 1) := by decide +kernel
theorem dX0_isRecord_40 : decode cX0_isRecord 40 = .ok (.if_icmp .ne 7, 3) := by decide +kernel
theorem dX0_isRecord_43 : decode cX0_isRecord 43 = .ok (.iconst 1, 1) := by decide +kernel
theorem dX0_isRecord_44 : decode cX0_isRecord 44 = .ok (.goto 4, 3) := by decide +kernel
theorem dX0_isRecord_47 : decode cX0_isRecord 47 = .ok (.iconst 0, 1) := by decide +kernel
theorem dX0_isRecord_48 : decode cX0_isRecord 48 = .ok (.ireturn, 1) := by decide +kernel
theorem dX0_place_0 : decode cX0_place 0 = .ok (.iload_n 2, 1) := by decide +kernel
theorem dX0_place_1 : decode cX0_place 1 = .ok (.ifCond .lt 9, 3) := by decide +kernel
theorem dX0_place_4 : decode cX0_place 4 = .ok (.iload_n 2, 1) := by decide +kernel
theorem dX0_place_5 : decode cX0_place 5 = .ok (.bipush 32, 2) := by decide +kernel
theorem dX0_place_7 : decode cX0_place 7 = .ok (.if_icmp .lt 13, 3) := by decide +kernel
theorem dX0_place_10 : decode cX0_place 10 = .ok (.new 91, 3) := by decide +kernel
theorem dX0_place_13 : decode cX0_place 13 = .ok (.dup, 1) := by decide +kernel
theorem dX0_place_14 : decode cX0_place 14 = .ok (.ldc 145, 2) := by decide +kernel
theorem dX0_place_16 : decode cX0_place 16 = .ok (.invokespecial 95, 3) := by decide +kernel
theorem dX0_place_19 : decode cX0_place 19 = .ok (.athrow, 1) := by decide +kernel
theorem dX0_place_20 : decode cX0_place 20 = .ok (.iload_n 1, 1) := by decide +kernel
theorem dX0_place_21 : decode cX0_place 21 = .ok (.tableswitch 61 0 2 #[27, 32, 46], 27) := by decide +kernel
theorem dX0_place_48 : decode cX0_place 48 = .ok (.aload_n 0, 1) := by decide +kernel
theorem dX0_place_49 : decode cX0_place 49 = .ok (.getfield 39, 3) := by decide +kernel
theorem dX0_place_52 : decode cX0_place 52 = .ok (.ireturn, 1) := by decide +kernel
theorem dX0_place_53 : decode cX0_place 53 = .ok (.aload_n 0, 1) := by decide +kernel
theorem dX0_place_54 : decode cX0_place 54 = .ok (.getfield 48, 3) := by decide +kernel
theorem dX0_place_57 : decode cX0_place 57 = .ok (.iload_n 2, 1) := by decide +kernel
theorem dX0_place_58 : decode cX0_place 58 = .ok (.aload_n 0, 1) := by decide +kernel
theorem dX0_place_59 : decode cX0_place 59 = .ok (.getfield 45, 3) := by decide +kernel
theorem dX0_place_62 : decode cX0_place 62 = .ok (.iconst 4, 1) := by decide +kernel
theorem dX0_place_63 : decode cX0_place 63 = .ok (.invokestatic 147, 3) := by decide +kernel
theorem dX0_place_66 : decode cX0_place 66 = .ok (.ireturn, 1) := by decide +kernel
theorem dX0_place_67 : decode cX0_place 67 = .ok (.aload_n 0, 1) := by decide +kernel
theorem dX0_place_68 : decode cX0_place 68 = .ok (.getfield 51, 3) := by decide +kernel
theorem dX0_place_71 : decode cX0_place 71 = .ok (.iload_n 2, 1) := by decide +kernel
theorem dX0_place_72 : decode cX0_place 72 = .ok (.aload_n 0, 1) := by decide +kernel
theorem dX0_place_73 : decode cX0_place 73 = .ok (.getfield 42, 3) := by decide +kernel
theorem dX0_place_76 : decode cX0_place 76 = .ok (.bipush 8, 2) := by decide +kernel
theorem dX0_place_78 : decode cX0_place 78 = .ok (.invokestatic 147, 3) := by decide +kernel
theorem dX0_place_81 : decode cX0_place 81 = .ok (.ireturn, 1) := by decide +kernel
theorem dX0_place_82 : decode cX0_place 82 = .ok (.new 91, 3) := by decide +kernel
theorem dX0_place_85 : decode cX0_place 85 = .ok (.dup, 1) := by decide +kernel
theorem dX0_place_86 : decode cX0_place 86 = .ok (.ldc 117, 2) := by decide +kernel
theorem dX0_place_88 : decode cX0_place 88 = .ok (.invokespecial 95, 3) := by decide +kernel
theorem dX0_place_91 : decode cX0_place 91 = .ok (.athrow, 1) := by decide +kernel
end
section
theorem dX0_registerOrMemory_0 : decode cX0_registerOrMemory 0 = .ok (.iload_n 0, 1) := by decide +kernel
theorem dX0_registerOrMemory_1 : decode cX0_registerOrMemory 1 = .ok (.bipush 16, 2) := by decide +kernel
theorem dX0_registerOrMemory_3 : decode cX0_registerOrMemory 3 = .ok (.if_icmp .ge 11, 3) := by decide +kernel
theorem dX0_registerOrMemory_6 : decode cX0_registerOrMemory 6 = .ok (.iconst 4, 1) := by decide +kernel
theorem dX0_registerOrMemory_7 : decode cX0_registerOrMemory 7 = .ok (.iload_n 0, 1) := by decide +kernel
theorem dX0_registerOrMemory_8 : decode cX0_registerOrMemory 8 = .ok (.iconst 4, 1) := by decide +kernel
theorem dX0_registerOrMemory_9 : decode cX0_registerOrMemory 9 = .ok (.idiv, 1) := by decide +kernel
theorem dX0_registerOrMemory_10 : decode cX0_registerOrMemory 10 = .ok (.iadd, 1) := by decide +kernel
theorem dX0_registerOrMemory_11 : decode cX0_registerOrMemory 11 = .ok (.goto 4, 3) := by decide +kernel
theorem dX0_registerOrMemory_14 : decode cX0_registerOrMemory 14 = .ok (.iconst (-1), 1) := by decide +kernel
theorem dX0_registerOrMemory_15 : decode cX0_registerOrMemory 15 = .ok (.ireturn, 1) := by decide +kernel
theorem dX0_resultPlace_0 : decode cX0_resultPlace 0 = .ok (.aload_n 0, 1) := by decide +kernel
theorem dX0_resultPlace_1 : decode cX0_resultPlace 1 = .ok (.getfield 23, 3) := by decide +kernel
theorem dX0_resultPlace_4 : decode cX0_resultPlace 4 = .ok (.tableswitch 37 0 3 #[32, 34, 34, 32], 32) := by decide +kernel
theorem dX0_resultPlace_36 : decode cX0_resultPlace 36 = .ok (.iconst 2, 1) := by decide +kernel
theorem dX0_resultPlace_37 : decode cX0_resultPlace 37 = .ok (.ireturn, 1) := by decide +kernel
theorem dX0_resultPlace_38 : decode cX0_resultPlace 38 = .ok (.bipush 32, 2) := by decide +kernel
theorem dX0_resultPlace_40 : decode cX0_resultPlace 40 = .ok (.ireturn, 1) := by decide +kernel
theorem dX0_resultPlace_41 : decode cX0_resultPlace 41 = .ok (.iconst (-1), 1) := by decide +kernel
theorem dX0_resultPlace_42 : decode cX0_resultPlace 42 = .ok (.ireturn, 1) := by decide +kernel
theorem dX0_savedPlace_0 : decode cX0_savedPlace 0 = .ok (.iconst 1, 1) := by decide +kernel
theorem dX0_savedPlace_1 : decode cX0_savedPlace 1 = .ok (.iload_n 1, 1) := by decide +kernel
theorem dX0_savedPlace_2 : decode cX0_savedPlace 2 = .ok (.ishl, 1) := by decide +kernel
theorem dX0_savedPlace_3 : decode cX0_savedPlace 3 = .ok (.istore 4, 2) := by decide +kernel
theorem dX0_savedPlace_5 : decode cX0_savedPlace 5 = .ok (.iload_n 0, 1) := by decide +kernel
theorem dX0_savedPlace_6 : decode cX0_savedPlace 6 = .ok (.iload 4, 2) := by decide +kernel
theorem dX0_savedPlace_8 : decode cX0_savedPlace 8 = .ok (.iand, 1) := by decide +kernel
theorem dX0_savedPlace_9 : decode cX0_savedPlace 9 = .ok (.ifCond .ne 5, 3) := by decide +kernel
theorem dX0_savedPlace_12 : decode cX0_savedPlace 12 = .ok (.iconst (-1), 1) := by decide +kernel
theorem dX0_savedPlace_13 : decode cX0_savedPlace 13 = .ok (.ireturn, 1) := by decide +kernel
theorem dX0_savedPlace_14 : decode cX0_savedPlace 14 = .ok (.iload_n 2, 1) := by decide +kernel
theorem dX0_savedPlace_15 : decode cX0_savedPlace 15 = .ok (.iload_n 3, 1) := by decide +kernel
theorem dX0_savedPlace_16 : decode cX0_savedPlace 16 = .ok (.iload_n 0, 1) := by decide +kernel
theorem dX0_savedPlace_17 : decode cX0_savedPlace 17 = .ok (.iload 4, 2) := by decide +kernel
theorem dX0_savedPlace_19 : decode cX0_savedPlace 19 = .ok (.iconst 1, 1) := by decide +kernel
theorem dX0_savedPlace_20 : decode cX0_savedPlace 20 = .ok (.isub, 1) := by decide +kernel
theorem dX0_savedPlace_21 : decode cX0_savedPlace 21 = .ok (.iand, 1) := by decide +kernel
theorem dX0_savedPlace_22 : decode cX0_savedPlace 22 = .ok (.invokestatic 140, 3) := by decide +kernel
theorem dX0_savedPlace_25 : decode cX0_savedPlace 25 = .ok (.imul, 1) := by decide +kernel
theorem dX0_savedPlace_26 : decode cX0_savedPlace 26 = .ok (.iadd, 1) := by decide +kernel
theorem dX0_savedPlace_27 : decode cX0_savedPlace 27 = .ok (.ireturn, 1) := by decide +kernel
theorem dX0_signature_0 : decode cX0_signature 0 = .ok (.iload_n 1, 1) := by decide +kernel
theorem dX0_signature_1 : decode cX0_signature 1 = .ok (.tableswitch 51 0 3 #[31, 36, 41, 46], 31) := by decide +kernel
theorem dX0_signature_32 : decode cX0_signature 32 = .ok (.aload_n 0, 1) := by decide +kernel
theorem dX0_signature_33 : decode cX0_signature 33 = .ok (.invokevirtual 119, 3) := by decide +kernel
theorem dX0_signature_36 : decode cX0_signature 36 = .ok (.ireturn, 1) := by decide +kernel
theorem dX0_signature_37 : decode cX0_signature 37 = .ok (.aload_n 0, 1) := by decide +kernel
theorem dX0_signature_38 : decode cX0_signature 38 = .ok (.getfield 19, 3) := by decide +kernel
theorem dX0_signature_41 : decode cX0_signature 41 = .ok (.ireturn, 1) := by decide +kernel
theorem dX0_signature_42 : decode cX0_signature 42 = .ok (.aload_n 0, 1) := by decide +kernel
theorem dX0_signature_43 : decode cX0_signature 43 = .ok (.invokevirtual 123, 3) := by decide +kernel
theorem dX0_signature_46 : decode cX0_signature 46 = .ok (.ireturn, 1) := by decide +kernel
theorem dX0_signature_47 : decode cX0_signature 47 = .ok (.aload_n 0, 1) := by decide +kernel
theorem dX0_signature_48 : decode cX0_signature 48 = .ok (.getfield 30, 3) := by decide +kernel
theorem dX0_signature_51 : decode cX0_signature 51 = .ok (.ireturn, 1) := by decide +kernel
theorem dX0_signature_52 : decode cX0_signature 52 = .ok (.new 91, 3) := by decide +kernel
theorem dX0_signature_55 : decode cX0_signature 55 = .ok (.dup, 1) := by decide +kernel
theorem dX0_signature_56 : decode cX0_signature 56 = .ok (.ldc 117, 2) := by decide +kernel
theorem dX0_signature_58 : decode cX0_signature 58 = .ok (.invokespecial 95, 3) := by decide +kernel
theorem dX0_signature_61 : decode cX0_signature 61 = .ok (.athrow, 1) := by decide +kernel
theorem dX0_where_0 : decode cX0_where 0 = .ok (.aload_n 0, 1) := by decide +kernel
theorem dX0_where_1 : decode cX0_where 1 = .ok (.iload_n 1, 1) := by decide +kernel
theorem dX0_where_2 : decode cX0_where 2 = .ok (.invokevirtual 87, 3) := by decide +kernel
theorem dX0_where_5 : decode cX0_where 5 = .ok (.ifCond .ne 13, 3) := by decide +kernel
theorem dX0_where_8 : decode cX0_where 8 = .ok (.new 91, 3) := by decide +kernel
theorem dX0_where_11 : decode cX0_where 11 = .ok (.dup, 1) := by decide +kernel
theorem dX0_where_12 : decode cX0_where 12 = .ok (.ldc 93, 2) := by decide +kernel
theorem dX0_where_14 : decode cX0_where 14 = .ok (.invokespecial 95, 3) := by decide +kernel
theorem dX0_where_17 : decode cX0_where 17 = .ok (.athrow, 1) := by decide +kernel
theorem dX0_where_18 : decode cX0_where 18 = .ok (.iload_n 2, 1) := by decide +kernel
theorem dX0_where_19 : decode cX0_where 19 = .ok (.ifCond .lt 12, 3) := by decide +kernel
theorem dX0_where_22 : decode cX0_where 22 = .ok (.iload_n 2, 1) := by decide +kernel
theorem dX0_where_23 : decode cX0_where 23 = .ok (.aload_n 0, 1) := by decide +kernel
theorem dX0_where_24 : decode cX0_where 24 = .ok (.iload_n 1, 1) := by decide +kernel
theorem dX0_where_25 : decode cX0_where 25 = .ok (.invokevirtual 96, 3) := by decide +kernel
theorem dX0_where_28 : decode cX0_where 28 = .ok (.if_icmp .lt 13, 3) := by decide +kernel
theorem dX0_where_31 : decode cX0_where 31 = .ok (.new 91, 3) := by decide +kernel
theorem dX0_where_34 : decode cX0_where 34 = .ok (.dup, 1) := by decide +kernel
theorem dX0_where_35 : decode cX0_where 35 = .ok (.ldc 100, 2) := by decide +kernel
theorem dX0_where_37 : decode cX0_where 37 = .ok (.invokespecial 95, 3) := by decide +kernel
theorem dX0_where_40 : decode cX0_where 40 = .ok (.athrow, 1) := by decide +kernel
theorem dX0_where_41 : decode cX0_where 41 = .ok (.aload_n 0, 1) := by decide +kernel
theorem dX0_where_42 : decode cX0_where 42 = .ok (.iload_n 1, 1) := by decide +kernel
theorem dX0_where_43 : decode cX0_where 43 = .ok (.invokevirtual 102, 3) := by decide +kernel
theorem dX0_where_46 : decode cX0_where 46 = .ok (.ifCond .eq 10, 3) := by decide +kernel
theorem dX0_where_49 : decode cX0_where 49 = .ok (.aload_n 0, 1) := by decide +kernel
theorem dX0_where_50 : decode cX0_where 50 = .ok (.iload_n 1, 1) := by decide +kernel
theorem dX0_where_51 : decode cX0_where 51 = .ok (.iload_n 2, 1) := by decide +kernel
theorem dX0_where_52 : decode cX0_where 52 = .ok (.invokevirtual 105, 3) := by decide +kernel
theorem dX0_where_55 : decode cX0_where 55 = .ok (.ireturn, 1) := by decide +kernel
theorem dX0_where_56 : decode cX0_where 56 = .ok (.aload_n 0, 1) := by decide +kernel
theorem dX0_where_57 : decode cX0_where 57 = .ok (.iload_n 1, 1) := by decide +kernel
theorem dX0_where_58 : decode cX0_where 58 = .ok (.invokevirtual 108, 3) := by decide +kernel
theorem dX0_where_61 : decode cX0_where 61 = .ok (.iconst 4, 1) := by decide +kernel
theorem dX0_where_62 : decode cX0_where 62 = .ok (.iload_n 2, 1) := by decide +kernel
theorem dX0_where_63 : decode cX0_where 63 = .ok (.imul, 1) := by decide +kernel
theorem dX0_where_64 : decode cX0_where 64 = .ok (.iadd, 1) := by decide +kernel
theorem dX0_where_65 : decode cX0_where 65 = .ok (.invokestatic 111, 3) := by decide +kernel
theorem dX0_where_68 : decode cX0_where 68 = .ok (.ireturn, 1) := by decide +kernel
theorem dX0_wordsAt_0 : decode cX0_wordsAt 0 = .ok (.aload_n 0, 1) := by decide +kernel
theorem dX0_wordsAt_1 : decode cX0_wordsAt 1 = .ok (.iload_n 1, 1) := by decide +kernel
theorem dX0_wordsAt_2 : decode cX0_wordsAt 2 = .ok (.invokevirtual 114, 3) := by decide +kernel
theorem dX0_wordsAt_5 : decode cX0_wordsAt 5 = .ok (.iconst 4, 1) := by decide +kernel
theorem dX0_wordsAt_6 : decode cX0_wordsAt 6 = .ok (.invokestatic 81, 3) := by decide +kernel
theorem dX0_wordsAt_9 : decode cX0_wordsAt 9 = .ok (.iconst 4, 1) := by decide +kernel
theorem dX0_wordsAt_10 : decode cX0_wordsAt 10 = .ok (.idiv, 1) := by decide +kernel
theorem dX0_wordsAt_11 : decode cX0_wordsAt 11 = .ok (.ireturn, 1) := by decide +kernel
theorem dX1_about_0 : decode cX1_about 0 = .ok (.aload_n 0, 1) := by decide +kernel
theorem dX1_about_1 : decode cX1_about 1 = .ok (.iconst 0, 1) := by decide +kernel
theorem dX1_about_2 : decode cX1_about 2 = .ok (.putfield 23, 3) := by decide +kernel
theorem dX1_about_5 : decode cX1_about 5 = .ok (.aload_n 0, 1) := by decide +kernel
theorem dX1_about_6 : decode cX1_about 6 = .ok (.iload_n 1, 1) := by decide +kernel
theorem dX1_about_7 : decode cX1_about 7 = .ok (.invokevirtual 57, 3) := by decide +kernel
theorem dX1_about_10 : decode cX1_about 10 = .ok (.ifCond .eq 12, 3) := by decide +kernel
theorem dX1_about_13 : decode cX1_about 13 = .ok (.iload_n 2, 1) := by decide +kernel
theorem dX1_about_14 : decode cX1_about 14 = .ok (.ifCond .lt 8, 3) := by decide +kernel
theorem dX1_about_17 : decode cX1_about 17 = .ok (.iload_n 2, 1) := by decide +kernel
theorem dX1_about_18 : decode cX1_about 18 = .ok (.iconst 2, 1) := by decide +kernel
theorem dX1_about_19 : decode cX1_about 19 = .ok (.if_icmp .le 9, 3) := by decide +kernel
theorem dX1_about_22 : decode cX1_about 22 = .ok (.aload_n 0, 1) := by decide +kernel
theorem dX1_about_23 : decode cX1_about 23 = .ok (.iconst 1, 1) := by decide +kernel
theorem dX1_about_24 : decode cX1_about 24 = .ok (.invokevirtual 50, 3) := by decide +kernel
theorem dX1_about_27 : decode cX1_about 27 = .ok (.ireturn, 1) := by decide +kernel
theorem dX1_about_28 : decode cX1_about 28 = .ok (.iload_n 1, 1) := by decide +kernel
theorem dX1_about_29 : decode cX1_about 29 = .ok (.iconst (-1), 1) := by decide +kernel
theorem dX1_about_30 : decode cX1_about 30 = .ok (.if_icmp .ne 22, 3) := by decide +kernel
theorem dX1_about_33 : decode cX1_about 33 = .ok (.iload_n 2, 1) := by decide +kernel
theorem dX1_about_34 : decode cX1_about 34 = .ok (.ifCond .ne 7, 3) := by decide +kernel
theorem dX1_about_37 : decode cX1_about 37 = .ok (.iconst 0, 1) := by decide +kernel
theorem dX1_about_38 : decode cX1_about 38 = .ok (.goto 13, 3) := by decide +kernel
theorem dX1_about_41 : decode cX1_about 41 = .ok (.iload_n 2, 1) := by decide +kernel
theorem dX1_about_42 : decode cX1_about 42 = .ok (.iconst 1, 1) := by decide +kernel
theorem dX1_about_43 : decode cX1_about 43 = .ok (.if_icmp .ne 7, 3) := by decide +kernel
theorem dX1_about_46 : decode cX1_about 46 = .ok (.iconst 4, 1) := by decide +kernel
theorem dX1_about_47 : decode cX1_about 47 = .ok (.goto 4, 3) := by decide +kernel
theorem dX1_about_50 : decode cX1_about 50 = .ok (.iconst 1, 1) := by decide +kernel
theorem dX1_about_51 : decode cX1_about 51 = .ok (.ireturn, 1) := by decide +kernel
theorem dX1_about_52 : decode cX1_about 52 = .ok (.iload_n 2, 1) := by decide +kernel
theorem dX1_about_53 : decode cX1_about 53 = .ok (.ifCond .ne 11, 3) := by decide +kernel
theorem dX1_about_56 : decode cX1_about 56 = .ok (.aload_n 0, 1) := by decide +kernel
theorem dX1_about_57 : decode cX1_about 57 = .ok (.iload_n 1, 1) := by decide +kernel
theorem dX1_about_58 : decode cX1_about 58 = .ok (.invokevirtual 53, 3) := by decide +kernel
theorem dX1_about_61 : decode cX1_about 61 = .ok (.goto 21, 3) := by decide +kernel
theorem dX1_about_64 : decode cX1_about 64 = .ok (.iload_n 2, 1) := by decide +kernel
theorem dX1_about_65 : decode cX1_about 65 = .ok (.iconst 1, 1) := by decide +kernel
theorem dX1_about_66 : decode cX1_about 66 = .ok (.if_icmp .ne 11, 3) := by decide +kernel
theorem dX1_about_69 : decode cX1_about 69 = .ok (.aload_n 0, 1) := by decide +kernel
theorem dX1_about_70 : decode cX1_about 70 = .ok (.iload_n 1, 1) := by decide +kernel
theorem dX1_about_71 : decode cX1_about 71 = .ok (.invokevirtual 46, 3) := by decide +kernel
theorem dX1_about_74 : decode cX1_about 74 = .ok (.goto 8, 3) := by decide +kernel
theorem dX1_about_77 : decode cX1_about 77 = .ok (.aload_n 0, 1) := by decide +kernel
theorem dX1_about_78 : decode cX1_about 78 = .ok (.iload_n 1, 1) := by decide +kernel
theorem dX1_about_79 : decode cX1_about 79 = .ok (.invokevirtual 60, 3) := by decide +kernel
theorem dX1_about_82 : decode cX1_about 82 = .ok (.ireturn, 1) := by decide +kernel
theorem dX1_add_0 : decode cX1_add 0 = .ok (.aload_n 0, 1) := by decide +kernel
theorem dX1_add_1 : decode cX1_add 1 = .ok (.iconst 0, 1) := by decide +kernel
theorem dX1_add_2 : decode cX1_add 2 = .ok (.putfield 23, 3) := by decide +kernel
theorem dX1_add_5 : decode cX1_add 5 = .ok (.iload_n 1, 1) := by decide +kernel
theorem dX1_add_6 : decode cX1_add 6 = .ok (.iconst 3, 1) := by decide +kernel
theorem dX1_add_7 : decode cX1_add 7 = .ok (.iload_n 2, 1) := by decide +kernel
theorem dX1_add_8 : decode cX1_add 8 = .ok (.iload_n 3, 1) := by decide +kernel
theorem dX1_add_9 : decode cX1_add 9 = .ok (.invokestatic 27, 3) := by decide +kernel
theorem dX1_add_12 : decode cX1_add 12 = .ok (.ifCond .ne 9, 3) := by decide +kernel
theorem dX1_add_15 : decode cX1_add 15 = .ok (.aload_n 0, 1) := by decide +kernel
theorem dX1_add_16 : decode cX1_add 16 = .ok (.iconst 1, 1) := by decide +kernel
theorem dX1_add_17 : decode cX1_add 17 = .ok (.invokevirtual 50, 3) := by decide +kernel
theorem dX1_add_20 : decode cX1_add 20 = .ok (.ireturn, 1) := by decide +kernel
theorem dX1_add_21 : decode cX1_add 21 = .ok (.aload_n 0, 1) := by decide +kernel
theorem dX1_add_22 : decode cX1_add 22 = .ok (.getfield 35, 3) := by decide +kernel
theorem dX1_add_25 : decode cX1_add 25 = .ok (.bipush 60, 2) := by decide +kernel
theorem dX1_add_27 : decode cX1_add 27 = .ok (.if_icmp .ne 9, 3) := by decide +kernel
theorem dX1_add_30 : decode cX1_add 30 = .ok (.aload_n 0, 1) := by decide +kernel
theorem dX1_add_31 : decode cX1_add 31 = .ok (.iconst 2, 1) := by decide +kernel
theorem dX1_add_32 : decode cX1_add 32 = .ok (.invokevirtual 50, 3) := by decide +kernel
theorem dX1_add_35 : decode cX1_add 35 = .ok (.ireturn, 1) := by decide +kernel
theorem dX1_add_36 : decode cX1_add 36 = .ok (.aload_n 0, 1) := by decide +kernel
theorem dX1_add_37 : decode cX1_add 37 = .ok (.getfield 13, 3) := by decide +kernel
theorem dX1_add_40 : decode cX1_add 40 = .ok (.aload_n 0, 1) := by decide +kernel
theorem dX1_add_41 : decode cX1_add 41 = .ok (.getfield 35, 3) := by decide +kernel
theorem dX1_add_44 : decode cX1_add 44 = .ok (.iload_n 1, 1) := by decide +kernel
theorem dX1_add_45 : decode cX1_add 45 = .ok (.iastore, 1) := by decide +kernel
theorem dX1_add_46 : decode cX1_add 46 = .ok (.aload_n 0, 1) := by decide +kernel
theorem dX1_add_47 : decode cX1_add 47 = .ok (.getfield 17, 3) := by decide +kernel
theorem dX1_add_50 : decode cX1_add 50 = .ok (.aload_n 0, 1) := by decide +kernel
theorem dX1_add_51 : decode cX1_add 51 = .ok (.getfield 35, 3) := by decide +kernel
theorem dX1_add_54 : decode cX1_add 54 = .ok (.iload_n 2, 1) := by decide +kernel
theorem dX1_add_55 : decode cX1_add 55 = .ok (.iastore, 1) := by decide +kernel
theorem dX1_add_56 : decode cX1_add 56 = .ok (.aload_n 0, 1) := by decide +kernel
theorem dX1_add_57 : decode cX1_add 57 = .ok (.getfield 20, 3) := by decide +kernel
theorem dX1_add_60 : decode cX1_add 60 = .ok (.aload_n 0, 1) := by decide +kernel
theorem dX1_add_61 : decode cX1_add 61 = .ok (.getfield 35, 3) := by decide +kernel
theorem dX1_add_64 : decode cX1_add 64 = .ok (.iload_n 3, 1) := by decide +kernel
theorem dX1_add_65 : decode cX1_add 65 = .ok (.iastore, 1) := by decide +kernel
theorem dX1_add_66 : decode cX1_add 66 = .ok (.aload_n 0, 1) := by decide +kernel
theorem dX1_add_67 : decode cX1_add 67 = .ok (.dup, 1) := by decide +kernel
theorem dX1_add_68 : decode cX1_add 68 = .ok (.getfield 35, 3) := by decide +kernel
theorem dX1_add_71 : decode cX1_add 71 = .ok (.iconst 1, 1) := by decide +kernel
theorem dX1_add_72 : decode cX1_add 72 = .ok (.iadd, 1) := by decide +kernel
theorem dX1_add_73 : decode cX1_add 73 = .ok (.putfield 35, 3) := by decide +kernel
theorem dX1_add_76 : decode cX1_add 76 = .ok (.aload_n 0, 1) := by decide +kernel
theorem dX1_add_77 : decode cX1_add 77 = .ok (.aload_n 0, 1) := by decide +kernel
theorem dX1_add_78 : decode cX1_add 78 = .ok (.getfield 35, 3) := by decide +kernel
theorem dX1_add_81 : decode cX1_add 81 = .ok (.iconst 1, 1) := by decide +kernel
theorem dX1_add_82 : decode cX1_add 82 = .ok (.isub, 1) := by decide +kernel
theorem dX1_add_83 : decode cX1_add 83 = .ok (.invokevirtual 53, 3) := by decide +kernel
theorem dX1_add_86 : decode cX1_add 86 = .ok (.istore 4, 2) := by decide +kernel
theorem dX1_add_88 : decode cX1_add 88 = .ok (.iload 4, 2) := by decide +kernel
theorem dX1_add_90 : decode cX1_add 90 = .ok (.aload_n 0, 1) := by decide +kernel
theorem dX1_add_91 : decode cX1_add 91 = .ok (.aload_n 0, 1) := by decide +kernel
theorem dX1_add_92 : decode cX1_add 92 = .ok (.getfield 35, 3) := by decide +kernel
theorem dX1_add_95 : decode cX1_add 95 = .ok (.iconst 1, 1) := by decide +kernel
theorem dX1_add_96 : decode cX1_add 96 = .ok (.isub, 1) := by decide +kernel
theorem dX1_add_97 : decode cX1_add 97 = .ok (.invokevirtual 46, 3) := by decide +kernel
theorem dX1_add_100 : decode cX1_add 100 = .ok (.iconst 4, 1) := by decide +kernel
theorem dX1_add_101 : decode cX1_add 101 = .ok (.invokestatic 42, 3) := by decide +kernel
theorem dX1_add_104 : decode cX1_add 104 = .ok (.iadd, 1) := by decide +kernel
theorem dX1_add_105 : decode cX1_add 105 = .ok (.ldc 56, 2) := by decide +kernel
theorem dX1_add_107 : decode cX1_add 107 = .ok (.if_icmp .le 19, 3) := by decide +kernel
theorem dX1_add_110 : decode cX1_add 110 = .ok (.aload_n 0, 1) := by decide +kernel
theorem dX1_add_111 : decode cX1_add 111 = .ok (.dup, 1) := by decide +kernel
theorem dX1_add_112 : decode cX1_add 112 = .ok (.getfield 35, 3) := by decide +kernel
theorem dX1_add_115 : decode cX1_add 115 = .ok (.iconst 1, 1) := by decide +kernel
theorem dX1_add_116 : decode cX1_add 116 = .ok (.isub, 1) := by decide +kernel
theorem dX1_add_117 : decode cX1_add 117 = .ok (.putfield 35, 3) := by decide +kernel
theorem dX1_add_120 : decode cX1_add 120 = .ok (.aload_n 0, 1) := by decide +kernel
theorem dX1_add_121 : decode cX1_add 121 = .ok (.iconst 2, 1) := by decide +kernel
theorem dX1_add_122 : decode cX1_add 122 = .ok (.invokevirtual 50, 3) := by decide +kernel
theorem dX1_add_125 : decode cX1_add 125 = .ok (.ireturn, 1) := by decide +kernel
theorem dX1_add_126 : decode cX1_add 126 = .ok (.iload 4, 2) := by decide +kernel
theorem dX1_add_128 : decode cX1_add 128 = .ok (.ireturn, 1) := by decide +kernel
theorem dX1_area_0 : decode cX1_area 0 = .ok (.aload_n 0, 1) := by decide +kernel
theorem dX1_area_1 : decode cX1_area 1 = .ok (.aload_n 0, 1) := by decide +kernel
theorem dX1_area_2 : decode cX1_area 2 = .ok (.getfield 35, 3) := by decide +kernel
theorem dX1_area_5 : decode cX1_area 5 = .ok (.invokevirtual 53, 3) := by decide +kernel
theorem dX1_area_8 : decode cX1_area 8 = .ok (.bipush 8, 2) := by decide +kernel
theorem dX1_area_10 : decode cX1_area 10 = .ok (.invokestatic 42, 3) := by decide +kernel
theorem dX1_area_13 : decode cX1_area 13 = .ok (.istore_n 1, 1) := by decide +kernel
theorem dX1_area_14 : decode cX1_area 14 = .ok (.iload_n 1, 1) := by decide +kernel
theorem dX1_area_15 : decode cX1_area 15 = .ok (.bipush 16, 2) := by decide +kernel
theorem dX1_area_17 : decode cX1_area 17 = .ok (.if_icmp .ge 8, 3) := by decide +kernel
theorem dX1_area_20 : decode cX1_area 20 = .ok (.bipush 16, 2) := by decide +kernel
theorem dX1_area_22 : decode cX1_area 22 = .ok (.goto 4, 3) := by decide +kernel
theorem dX1_area_25 : decode cX1_area 25 = .ok (.iload_n 1, 1) := by decide +kernel
theorem dX1_area_26 : decode cX1_area 26 = .ok (.ireturn, 1) := by decide +kernel
theorem dX1_begin_0 : decode cX1_begin 0 = .ok (.aload_n 0, 1) := by decide +kernel
theorem dX1_begin_1 : decode cX1_begin 1 = .ok (.iconst 0, 1) := by decide +kernel
theorem dX1_begin_2 : decode cX1_begin 2 = .ok (.putfield 23, 3) := by decide +kernel
theorem dX1_begin_5 : decode cX1_begin 5 = .ok (.iload_n 1, 1) := by decide +kernel
theorem dX1_begin_6 : decode cX1_begin 6 = .ok (.iconst 4, 1) := by decide +kernel
theorem dX1_begin_7 : decode cX1_begin 7 = .ok (.iload_n 2, 1) := by decide +kernel
theorem dX1_begin_8 : decode cX1_begin 8 = .ok (.iload_n 3, 1) := by decide +kernel
theorem dX1_begin_9 : decode cX1_begin 9 = .ok (.invokestatic 27, 3) := by decide +kernel
theorem dX1_begin_12 : decode cX1_begin 12 = .ok (.ifCond .ne 9, 3) := by decide +kernel
theorem dX1_begin_15 : decode cX1_begin 15 = .ok (.aload_n 0, 1) := by decide +kernel
theorem dX1_begin_16 : decode cX1_begin 16 = .ok (.iconst 1, 1) := by decide +kernel
theorem dX1_begin_17 : decode cX1_begin 17 = .ok (.putfield 23, 3) := by decide +kernel
theorem dX1_begin_20 : decode cX1_begin 20 = .ok (.return_, 1) := by decide +kernel
theorem dX1_begin_21 : decode cX1_begin 21 = .ok (.aload_n 0, 1) := by decide +kernel
theorem dX1_begin_22 : decode cX1_begin 22 = .ok (.iload_n 1, 1) := by decide +kernel
theorem dX1_begin_23 : decode cX1_begin 23 = .ok (.putfield 9, 3) := by decide +kernel
theorem dX1_begin_26 : decode cX1_begin 26 = .ok (.aload_n 0, 1) := by decide +kernel
theorem dX1_begin_27 : decode cX1_begin 27 = .ok (.iload 4, 2) := by decide +kernel
theorem dX1_begin_29 : decode cX1_begin 29 = .ok (.putfield 31, 3) := by decide +kernel
theorem dX1_begin_32 : decode cX1_begin 32 = .ok (.aload_n 0, 1) := by decide +kernel
theorem dX1_begin_33 : decode cX1_begin 33 = .ok (.iconst 0, 1) := by decide +kernel
theorem dX1_begin_34 : decode cX1_begin 34 = .ok (.putfield 35, 3) := by decide +kernel
theorem dX1_begin_37 : decode cX1_begin 37 = .ok (.return_, 1) := by decide +kernel
theorem dX1_bytes_0 : decode cX1_bytes 0 = .ok (.aload_n 0, 1) := by decide +kernel
theorem dX1_bytes_1 : decode cX1_bytes 1 = .ok (.getfield 13, 3) := by decide +kernel
theorem dX1_bytes_4 : decode cX1_bytes 4 = .ok (.iload_n 1, 1) := by decide +kernel
theorem dX1_bytes_5 : decode cX1_bytes 5 = .ok (.iaload, 1) := by decide +kernel
theorem dX1_bytes_6 : decode cX1_bytes 6 = .ok (.iconst 2, 1) := by decide +kernel
theorem dX1_bytes_7 : decode cX1_bytes 7 = .ok (.if_icmp .ne 8, 3) := by decide +kernel
theorem dX1_bytes_10 : decode cX1_bytes 10 = .ok (.bipush 8, 2) := by decide +kernel
theorem dX1_bytes_12 : decode cX1_bytes 12 = .ok (.goto 23, 3) := by decide +kernel
theorem dX1_bytes_15 : decode cX1_bytes 15 = .ok (.aload_n 0, 1) := by decide +kernel
theorem dX1_bytes_16 : decode cX1_bytes 16 = .ok (.getfield 13, 3) := by decide +kernel
theorem dX1_bytes_19 : decode cX1_bytes 19 = .ok (.iload_n 1, 1) := by decide +kernel
theorem dX1_bytes_20 : decode cX1_bytes 20 = .ok (.iaload, 1) := by decide +kernel
theorem dX1_bytes_21 : decode cX1_bytes 21 = .ok (.iconst 3, 1) := by decide +kernel
theorem dX1_bytes_22 : decode cX1_bytes 22 = .ok (.if_icmp .ne 12, 3) := by decide +kernel
theorem dX1_bytes_25 : decode cX1_bytes 25 = .ok (.aload_n 0, 1) := by decide +kernel
theorem dX1_bytes_26 : decode cX1_bytes 26 = .ok (.getfield 17, 3) := by decide +kernel
theorem dX1_bytes_29 : decode cX1_bytes 29 = .ok (.iload_n 1, 1) := by decide +kernel
theorem dX1_bytes_30 : decode cX1_bytes 30 = .ok (.iaload, 1) := by decide +kernel
theorem dX1_bytes_31 : decode cX1_bytes 31 = .ok (.goto 4, 3) := by decide +kernel
theorem dX1_bytes_34 : decode cX1_bytes 34 = .ok (.iconst 4, 1) := by decide +kernel
theorem dX1_bytes_35 : decode cX1_bytes 35 = .ok (.ireturn, 1) := by decide +kernel
theorem dX1_call_0 : decode cX1_call 0 = .ok (.aload_n 0, 1) := by decide +kernel
theorem dX1_call_1 : decode cX1_call 1 = .ok (.iconst 0, 1) := by decide +kernel
theorem dX1_call_2 : decode cX1_call 2 = .ok (.putfield 23, 3) := by decide +kernel
theorem dX1_call_5 : decode cX1_call 5 = .ok (.aload_n 0, 1) := by decide +kernel
theorem dX1_call_6 : decode cX1_call 6 = .ok (.dup, 1) := by decide +kernel
theorem dX1_call_7 : decode cX1_call 7 = .ok (.getfield 70, 3) := by decide +kernel
theorem dX1_call_10 : decode cX1_call 10 = .ok (.iconst 1, 1) := by decide +kernel
theorem dX1_call_11 : decode cX1_call 11 = .ok (.iadd, 1) := by decide +kernel
theorem dX1_call_12 : decode cX1_call 12 = .ok (.putfield 70, 3) := by decide +kernel
theorem dX1_call_15 : decode cX1_call 15 = .ok (.aload_n 0, 1) := by decide +kernel
theorem dX1_call_16 : decode cX1_call 16 = .ok (.invokevirtual 66, 3) := by decide +kernel
theorem dX1_call_19 : decode cX1_call 19 = .ok (.aload_n 0, 1) := by decide +kernel
theorem dX1_call_20 : decode cX1_call 20 = .ok (.getfield 73, 3) := by decide +kernel
theorem dX1_call_23 : decode cX1_call 23 = .ok (.if_icmp .le 11, 3) := by decide +kernel
theorem dX1_call_26 : decode cX1_call 26 = .ok (.aload_n 0, 1) := by decide +kernel
theorem dX1_call_27 : decode cX1_call 27 = .ok (.aload_n 0, 1) := by decide +kernel
theorem dX1_call_28 : decode cX1_call 28 = .ok (.invokevirtual 66, 3) := by decide +kernel
theorem dX1_call_31 : decode cX1_call 31 = .ok (.putfield 73, 3) := by decide +kernel
theorem dX1_call_34 : decode cX1_call 34 = .ok (.aload_n 0, 1) := by decide +kernel
theorem dX1_call_35 : decode cX1_call 35 = .ok (.getfield 73, 3) := by decide +kernel
theorem dX1_call_38 : decode cX1_call 38 = .ok (.ireturn, 1) := by decide +kernel
theorem dX1_clear_0 : decode cX1_clear 0 = .ok (.aload_n 0, 1) := by decide +kernel
theorem dX1_clear_1 : decode cX1_clear 1 = .ok (.iconst 0, 1) := by decide +kernel
theorem dX1_clear_2 : decode cX1_clear 2 = .ok (.putfield 23, 3) := by decide +kernel
theorem dX1_clear_5 : decode cX1_clear 5 = .ok (.aload_n 0, 1) := by decide +kernel
theorem dX1_clear_6 : decode cX1_clear 6 = .ok (.getfield 70, 3) := by decide +kernel
theorem dX1_clear_9 : decode cX1_clear 9 = .ok (.istore_n 1, 1) := by decide +kernel
theorem dX1_clear_10 : decode cX1_clear 10 = .ok (.aload_n 0, 1) := by decide +kernel
theorem dX1_clear_11 : decode cX1_clear 11 = .ok (.iconst 0, 1) := by decide +kernel
theorem dX1_clear_12 : decode cX1_clear 12 = .ok (.putfield 70, 3) := by decide +kernel
theorem dX1_clear_15 : decode cX1_clear 15 = .ok (.aload_n 0, 1) := by decide +kernel
theorem dX1_clear_16 : decode cX1_clear 16 = .ok (.iconst 0, 1) := by decide +kernel
theorem dX1_clear_17 : decode cX1_clear 17 = .ok (.putfield 73, 3) := by decide +kernel
theorem dX1_clear_20 : decode cX1_clear 20 = .ok (.aload_n 0, 1) := by decide +kernel
theorem dX1_clear_21 : decode cX1_clear 21 = .ok (.iconst 0, 1) := by decide +kernel
theorem dX1_clear_22 : decode cX1_clear 22 = .ok (.putfield 76, 3) := by decide +kernel
theorem dX1_clear_25 : decode cX1_clear 25 = .ok (.aload_n 0, 1) := by decide +kernel
theorem dX1_clear_26 : decode cX1_clear 26 = .ok (.iconst 0, 1) := by decide +kernel
theorem dX1_clear_27 : decode cX1_clear 27 = .ok (.putfield 79, 3) := by decide +kernel
theorem dX1_clear_30 : decode cX1_clear 30 = .ok (.aload_n 0, 1) := by decide +kernel
theorem dX1_clear_31 : decode cX1_clear 31 = .ok (.iconst 0, 1) := by decide +kernel
theorem dX1_clear_32 : decode cX1_clear 32 = .ok (.putfield 95, 3) := by decide +kernel
theorem dX1_clear_35 : decode cX1_clear 35 = .ok (.aload_n 0, 1) := by decide +kernel
theorem dX1_clear_36 : decode cX1_clear 36 = .ok (.iconst 0, 1) := by decide +kernel
theorem dX1_clear_37 : decode cX1_clear 37 = .ok (.putfield 85, 3) := by decide +kernel
theorem dX1_clear_40 : decode cX1_clear 40 = .ok (.iload_n 1, 1) := by decide +kernel
theorem dX1_clear_41 : decode cX1_clear 41 = .ok (.ireturn, 1) := by decide +kernel
end
section
theorem dX1_fail_0 : decode cX1_fail 0 = .ok (.aload_n 0, 1) := by decide +kernel
theorem dX1_fail_1 : decode cX1_fail 1 = .ok (.iload_n 1, 1) := by decide +kernel
theorem dX1_fail_2 : decode cX1_fail 2 = .ok (.putfield 23, 3) := by decide +kernel
theorem dX1_fail_5 : decode cX1_fail 5 = .ok (.iconst 0, 1) := by decide +kernel
theorem dX1_fail_6 : decode cX1_fail 6 = .ok (.ireturn, 1) := by decide +kernel
theorem dX1_filled_0 : decode cX1_filled 0 = .ok (.iload_n 0, 1) := by decide +kernel
theorem dX1_filled_1 : decode cX1_filled 1 = .ok (.iload_n 1, 1) := by decide +kernel
theorem dX1_filled_2 : decode cX1_filled 2 = .ok (.iadd, 1) := by decide +kernel
theorem dX1_filled_3 : decode cX1_filled 3 = .ok (.iconst 1, 1) := by decide +kernel
theorem dX1_filled_4 : decode cX1_filled 4 = .ok (.isub, 1) := by decide +kernel
theorem dX1_filled_5 : decode cX1_filled 5 = .ok (.iload_n 1, 1) := by decide +kernel
theorem dX1_filled_6 : decode cX1_filled 6 = .ok (.idiv, 1) := by decide +kernel
theorem dX1_filled_7 : decode cX1_filled 7 = .ok (.iload_n 1, 1) := by decide +kernel
theorem dX1_filled_8 : decode cX1_filled 8 = .ok (.imul, 1) := by decide +kernel
theorem dX1_filled_9 : decode cX1_filled 9 = .ok (.ireturn, 1) := by decide +kernel
theorem dX1_fractionsAt_0 : decode cX1_fractionsAt 0 = .ok (.aload_n 0, 1) := by decide +kernel
theorem dX1_fractionsAt_1 : decode cX1_fractionsAt 1 = .ok (.getfield 76, 3) := by decide +kernel
theorem dX1_fractionsAt_4 : decode cX1_fractionsAt 4 = .ok (.aload_n 0, 1) := by decide +kernel
theorem dX1_fractionsAt_5 : decode cX1_fractionsAt 5 = .ok (.getfield 79, 3) := by decide +kernel
theorem dX1_fractionsAt_8 : decode cX1_fractionsAt 8 = .ok (.iadd, 1) := by decide +kernel
theorem dX1_fractionsAt_9 : decode cX1_fractionsAt 9 = .ok (.bipush 8, 2) := by decide +kernel
theorem dX1_fractionsAt_11 : decode cX1_fractionsAt 11 = .ok (.invokestatic 42, 3) := by decide +kernel
theorem dX1_fractionsAt_14 : decode cX1_fractionsAt 14 = .ok (.ireturn, 1) := by decide +kernel
theorem dX1_frame_0 : decode cX1_frame 0 = .ok (.aload_n 0, 1) := by decide +kernel
theorem dX1_frame_1 : decode cX1_frame 1 = .ok (.iconst 0, 1) := by decide +kernel
theorem dX1_frame_2 : decode cX1_frame 2 = .ok (.putfield 23, 3) := by decide +kernel
theorem dX1_frame_5 : decode cX1_frame 5 = .ok (.ldc 92, 2) := by decide +kernel
theorem dX1_frame_7 : decode cX1_frame 7 = .ok (.istore 4, 2) := by decide +kernel
theorem dX1_frame_9 : decode cX1_frame 9 = .ok (.ldc 93, 2) := by decide +kernel
theorem dX1_frame_11 : decode cX1_frame 11 = .ok (.istore 5, 2) := by decide +kernel
theorem dX1_frame_13 : decode cX1_frame 13 = .ok (.iload_n 1, 1) := by decide +kernel
theorem dX1_frame_14 : decode cX1_frame 14 = .ok (.ifCond .lt 27, 3) := by decide +kernel
theorem dX1_frame_17 : decode cX1_frame 17 = .ok (.iload_n 1, 1) := by decide +kernel
theorem dX1_frame_18 : decode cX1_frame 18 = .ok (.ldc 56, 2) := by decide +kernel
theorem dX1_frame_20 : decode cX1_frame 20 = .ok (.if_icmp .gt 21, 3) := by decide +kernel
theorem dX1_frame_23 : decode cX1_frame 23 = .ok (.iload_n 2, 1) := by decide +kernel
theorem dX1_frame_24 : decode cX1_frame 24 = .ok (.iload 4, 2) := by decide +kernel
theorem dX1_frame_26 : decode cX1_frame 26 = .ok (.iconst (-1), 1) := by decide +kernel
theorem dX1_frame_27 : decode cX1_frame 27 = .ok (.ixor, 1) := by decide +kernel
theorem dX1_frame_28 : decode cX1_frame 28 = .ok (.iand, 1) := by decide +kernel
theorem dX1_frame_29 : decode cX1_frame 29 = .ok (.ifCond .ne 12, 3) := by decide +kernel
theorem dX1_frame_32 : decode cX1_frame 32 = .ok (.iload_n 3, 1) := by decide +kernel
theorem dX1_frame_33 : decode cX1_frame 33 = .ok (.iload 5, 2) := by decide +kernel
theorem dX1_frame_35 : decode cX1_frame 35 = .ok (.iconst (-1), 1) := by decide +kernel
theorem dX1_frame_36 : decode cX1_frame 36 = .ok (.ixor, 1) := by decide +kernel
theorem dX1_frame_37 : decode cX1_frame 37 = .ok (.iand, 1) := by decide +kernel
theorem dX1_frame_38 : decode cX1_frame 38 = .ok (.ifCond .eq 9, 3) := by decide +kernel
theorem dX1_frame_41 : decode cX1_frame 41 = .ok (.aload_n 0, 1) := by decide +kernel
theorem dX1_frame_42 : decode cX1_frame 42 = .ok (.iconst 1, 1) := by decide +kernel
theorem dX1_frame_43 : decode cX1_frame 43 = .ok (.invokevirtual 50, 3) := by decide +kernel
theorem dX1_frame_46 : decode cX1_frame 46 = .ok (.ireturn, 1) := by decide +kernel
theorem dX1_frame_47 : decode cX1_frame 47 = .ok (.aload_n 0, 1) := by decide +kernel
theorem dX1_frame_48 : decode cX1_frame 48 = .ok (.aload_n 0, 1) := by decide +kernel
theorem dX1_frame_49 : decode cX1_frame 49 = .ok (.getfield 70, 3) := by decide +kernel
theorem dX1_frame_52 : decode cX1_frame 52 = .ok (.ifCond .le 10, 3) := by decide +kernel
theorem dX1_frame_55 : decode cX1_frame 55 = .ok (.aload_n 0, 1) := by decide +kernel
theorem dX1_frame_56 : decode cX1_frame 56 = .ok (.getfield 73, 3) := by decide +kernel
theorem dX1_frame_59 : decode cX1_frame 59 = .ok (.goto 4, 3) := by decide +kernel
theorem dX1_frame_62 : decode cX1_frame 62 = .ok (.iconst 0, 1) := by decide +kernel
theorem dX1_frame_63 : decode cX1_frame 63 = .ok (.putfield 76, 3) := by decide +kernel
theorem dX1_frame_66 : decode cX1_frame 66 = .ok (.aload_n 0, 1) := by decide +kernel
theorem dX1_frame_67 : decode cX1_frame 67 = .ok (.iload_n 1, 1) := by decide +kernel
theorem dX1_frame_68 : decode cX1_frame 68 = .ok (.putfield 79, 3) := by decide +kernel
theorem dX1_frame_71 : decode cX1_frame 71 = .ok (.aload_n 0, 1) := by decide +kernel
theorem dX1_frame_72 : decode cX1_frame 72 = .ok (.aload_n 0, 1) := by decide +kernel
theorem dX1_frame_73 : decode cX1_frame 73 = .ok (.getfield 70, 3) := by decide +kernel
theorem dX1_frame_76 : decode cX1_frame 76 = .ok (.ifCond .le 10, 3) := by decide +kernel
theorem dX1_frame_79 : decode cX1_frame 79 = .ok (.iload_n 2, 1) := by decide +kernel
theorem dX1_frame_80 : decode cX1_frame 80 = .ok (.ldc 94, 2) := by decide +kernel
theorem dX1_frame_82 : decode cX1_frame 82 = .ok (.ior, 1) := by decide +kernel
theorem dX1_frame_83 : decode cX1_frame 83 = .ok (.goto 4, 3) := by decide +kernel
theorem dX1_frame_86 : decode cX1_frame 86 = .ok (.iload_n 2, 1) := by decide +kernel
theorem dX1_frame_87 : decode cX1_frame 87 = .ok (.putfield 95, 3) := by decide +kernel
theorem dX1_frame_90 : decode cX1_frame 90 = .ok (.aload_n 0, 1) := by decide +kernel
theorem dX1_frame_91 : decode cX1_frame 91 = .ok (.iload_n 3, 1) := by decide +kernel
theorem dX1_frame_92 : decode cX1_frame 92 = .ok (.putfield 85, 3) := by decide +kernel
theorem dX1_frame_95 : decode cX1_frame 95 = .ok (.aload_n 0, 1) := by decide +kernel
theorem dX1_frame_96 : decode cX1_frame 96 = .ok (.invokevirtual 98, 3) := by decide +kernel
theorem dX1_frame_99 : decode cX1_frame 99 = .ok (.aload_n 0, 1) := by decide +kernel
theorem dX1_frame_100 : decode cX1_frame 100 = .ok (.getfield 95, 3) := by decide +kernel
theorem dX1_frame_103 : decode cX1_frame 103 = .ok (.bipush 32, 2) := by decide +kernel
theorem dX1_frame_105 : decode cX1_frame 105 = .ok (.iconst 4, 1) := by decide +kernel
theorem dX1_frame_106 : decode cX1_frame 106 = .ok (.invokestatic 88, 3) := by decide +kernel
theorem dX1_frame_109 : decode cX1_frame 109 = .ok (.iadd, 1) := by decide +kernel
theorem dX1_frame_110 : decode cX1_frame 110 = .ok (.bipush 8, 2) := by decide +kernel
theorem dX1_frame_112 : decode cX1_frame 112 = .ok (.invokestatic 42, 3) := by decide +kernel
theorem dX1_frame_115 : decode cX1_frame 115 = .ok (.ireturn, 1) := by decide +kernel
theorem dX1_generalAt_0 : decode cX1_generalAt 0 = .ok (.aload_n 0, 1) := by decide +kernel
theorem dX1_generalAt_1 : decode cX1_generalAt 1 = .ok (.invokevirtual 82, 3) := by decide +kernel
theorem dX1_generalAt_4 : decode cX1_generalAt 4 = .ok (.aload_n 0, 1) := by decide +kernel
theorem dX1_generalAt_5 : decode cX1_generalAt 5 = .ok (.getfield 85, 3) := by decide +kernel
theorem dX1_generalAt_8 : decode cX1_generalAt 8 = .ok (.bipush 32, 2) := by decide +kernel
theorem dX1_generalAt_10 : decode cX1_generalAt 10 = .ok (.bipush 8, 2) := by decide +kernel
theorem dX1_generalAt_12 : decode cX1_generalAt 12 = .ok (.invokestatic 88, 3) := by decide +kernel
theorem dX1_generalAt_15 : decode cX1_generalAt 15 = .ok (.iadd, 1) := by decide +kernel
theorem dX1_generalAt_16 : decode cX1_generalAt 16 = .ok (.ireturn, 1) := by decide +kernel
theorem dX1_home_0 : decode cX1_home 0 = .ok (.aload_n 0, 1) := by decide +kernel
theorem dX1_home_1 : decode cX1_home 1 = .ok (.getfield 9, 3) := by decide +kernel
theorem dX1_home_4 : decode cX1_home 4 = .ok (.iconst 3, 1) := by decide +kernel
theorem dX1_home_5 : decode cX1_home 5 = .ok (.if_icmp .ne 7, 3) := by decide +kernel
theorem dX1_home_8 : decode cX1_home 8 = .ok (.iconst 4, 1) := by decide +kernel
theorem dX1_home_9 : decode cX1_home 9 = .ok (.goto 4, 3) := by decide +kernel
theorem dX1_home_12 : decode cX1_home 12 = .ok (.iconst 0, 1) := by decide +kernel
theorem dX1_home_13 : decode cX1_home 13 = .ok (.istore_n 2, 1) := by decide +kernel
theorem dX1_home_14 : decode cX1_home 14 = .ok (.iconst 0, 1) := by decide +kernel
theorem dX1_home_15 : decode cX1_home 15 = .ok (.istore_n 3, 1) := by decide +kernel
theorem dX1_home_16 : decode cX1_home 16 = .ok (.iload_n 3, 1) := by decide +kernel
theorem dX1_home_17 : decode cX1_home 17 = .ok (.iload_n 1, 1) := by decide +kernel
theorem dX1_home_18 : decode cX1_home 18 = .ok (.if_icmp .ge 36, 3) := by decide +kernel
theorem dX1_home_21 : decode cX1_home 21 = .ok (.aload_n 0, 1) := by decide +kernel
theorem dX1_home_22 : decode cX1_home 22 = .ok (.iload_n 3, 1) := by decide +kernel
theorem dX1_home_23 : decode cX1_home 23 = .ok (.invokevirtual 38, 3) := by decide +kernel
theorem dX1_home_26 : decode cX1_home 26 = .ok (.ifCond .eq 10, 3) := by decide +kernel
theorem dX1_home_29 : decode cX1_home 29 = .ok (.iload_n 2, 1) := by decide +kernel
theorem dX1_home_30 : decode cX1_home 30 = .ok (.bipush 8, 2) := by decide +kernel
theorem dX1_home_32 : decode cX1_home 32 = .ok (.invokestatic 42, 3) := by decide +kernel
theorem dX1_home_35 : decode cX1_home 35 = .ok (.istore_n 2, 1) := by decide +kernel
theorem dX1_home_36 : decode cX1_home 36 = .ok (.iload_n 2, 1) := by decide +kernel
theorem dX1_home_37 : decode cX1_home 37 = .ok (.aload_n 0, 1) := by decide +kernel
theorem dX1_home_38 : decode cX1_home 38 = .ok (.iload_n 3, 1) := by decide +kernel
theorem dX1_home_39 : decode cX1_home 39 = .ok (.invokevirtual 46, 3) := by decide +kernel
theorem dX1_home_42 : decode cX1_home 42 = .ok (.iconst 4, 1) := by decide +kernel
theorem dX1_home_43 : decode cX1_home 43 = .ok (.invokestatic 42, 3) := by decide +kernel
theorem dX1_home_46 : decode cX1_home 46 = .ok (.iadd, 1) := by decide +kernel
theorem dX1_home_47 : decode cX1_home 47 = .ok (.istore_n 2, 1) := by decide +kernel
theorem dX1_home_48 : decode cX1_home 48 = .ok (.iinc 3 1, 3) := by decide +kernel
theorem dX1_home_51 : decode cX1_home 51 = .ok (.goto (-35), 3) := by decide +kernel
theorem dX1_home_54 : decode cX1_home 54 = .ok (.iload_n 1, 1) := by decide +kernel
theorem dX1_home_55 : decode cX1_home 55 = .ok (.aload_n 0, 1) := by decide +kernel
theorem dX1_home_56 : decode cX1_home 56 = .ok (.getfield 35, 3) := by decide +kernel
theorem dX1_home_59 : decode cX1_home 59 = .ok (.if_icmp .ge 20, 3) := by decide +kernel
theorem dX1_home_62 : decode cX1_home 62 = .ok (.aload_n 0, 1) := by decide +kernel
theorem dX1_home_63 : decode cX1_home 63 = .ok (.iload_n 1, 1) := by decide +kernel
theorem dX1_home_64 : decode cX1_home 64 = .ok (.invokevirtual 38, 3) := by decide +kernel
theorem dX1_home_67 : decode cX1_home 67 = .ok (.ifCond .eq 12, 3) := by decide +kernel
theorem dX1_home_70 : decode cX1_home 70 = .ok (.iload_n 2, 1) := by decide +kernel
theorem dX1_home_71 : decode cX1_home 71 = .ok (.bipush 8, 2) := by decide +kernel
theorem dX1_home_73 : decode cX1_home 73 = .ok (.invokestatic 42, 3) := by decide +kernel
theorem dX1_home_76 : decode cX1_home 76 = .ok (.goto 4, 3) := by decide +kernel
theorem dX1_home_79 : decode cX1_home 79 = .ok (.iload_n 2, 1) := by decide +kernel
theorem dX1_home_80 : decode cX1_home 80 = .ok (.ireturn, 1) := by decide +kernel
theorem dX1_init_0 : decode cX1_init 0 = .ok (.aload_n 0, 1) := by decide +kernel
theorem dX1_init_1 : decode cX1_init 1 = .ok (.invokespecial 1, 3) := by decide +kernel
theorem dX1_init_4 : decode cX1_init 4 = .ok (.aload_n 0, 1) := by decide +kernel
theorem dX1_init_5 : decode cX1_init 5 = .ok (.iconst 4, 1) := by decide +kernel
theorem dX1_init_6 : decode cX1_init 6 = .ok (.putfield 9, 3) := by decide +kernel
theorem dX1_init_9 : decode cX1_init 9 = .ok (.aload_n 0, 1) := by decide +kernel
theorem dX1_init_10 : decode cX1_init 10 = .ok (.bipush 60, 2) := by decide +kernel
theorem dX1_init_12 : decode cX1_init 12 = .ok (.newarray .int, 2) := by decide +kernel
theorem dX1_init_14 : decode cX1_init 14 = .ok (.putfield 13, 3) := by decide +kernel
theorem dX1_init_17 : decode cX1_init 17 = .ok (.aload_n 0, 1) := by decide +kernel
theorem dX1_init_18 : decode cX1_init 18 = .ok (.bipush 60, 2) := by decide +kernel
theorem dX1_init_20 : decode cX1_init 20 = .ok (.newarray .int, 2) := by decide +kernel
theorem dX1_init_22 : decode cX1_init 22 = .ok (.putfield 17, 3) := by decide +kernel
theorem dX1_init_25 : decode cX1_init 25 = .ok (.aload_n 0, 1) := by decide +kernel
theorem dX1_init_26 : decode cX1_init 26 = .ok (.bipush 60, 2) := by decide +kernel
theorem dX1_init_28 : decode cX1_init 28 = .ok (.newarray .int, 2) := by decide +kernel
theorem dX1_init_30 : decode cX1_init 30 = .ok (.putfield 20, 3) := by decide +kernel
theorem dX1_init_33 : decode cX1_init 33 = .ok (.return_, 1) := by decide +kernel
theorem dX1_isFraction_0 : decode cX1_isFraction 0 = .ok (.aload_n 0, 1) := by decide +kernel
theorem dX1_isFraction_1 : decode cX1_isFraction 1 = .ok (.getfield 13, 3) := by decide +kernel
theorem dX1_isFraction_4 : decode cX1_isFraction 4 = .ok (.iload_n 1, 1) := by decide +kernel
theorem dX1_isFraction_5 : decode cX1_isFraction 5 = .ok (.iaload, 1) := by decide +kernel
theorem dX1_isFraction_6 : decode cX1_isFraction 6 = .ok (.iconst 1, 1) := by decide +kernel
theorem dX1_isFraction_7 : decode cX1_isFraction 7 = .ok (.if_icmp .eq 13, 3) := by decide +kernel
theorem dX1_isFraction_10 : decode cX1_isFraction 10 = .ok (.aload_n 0, 1) := by decide +kernel
theorem dX1_isFraction_11 : decode cX1_isFraction 11 = .ok (.getfield 13, 3) := by decide +kernel
theorem dX1_isFraction_14 : decode cX1_isFraction 14 = .ok (.iload_n 1, 1) := by decide +kernel
theorem dX1_isFraction_15 : decode cX1_isFraction 15 = .ok (.iaload, 1) := by decide +kernel
theorem dX1_isFraction_16 : decode cX1_isFraction 16 = .ok (.iconst 2, 1) := by decide +kernel
theorem dX1_isFraction_17 : decode cX1_isFraction 17 = .ok (.if_icmp .ne 7, 3) := by decide +kernel
theorem dX1_isFraction_20 : decode cX1_isFraction 20 = .ok (.iconst 1, 1) := by decide +kernel
theorem dX1_isFraction_21 : decode cX1_isFraction 21 = .ok (.goto 4, 3) := by decide +kernel
theorem dX1_isFraction_24 : decode cX1_isFraction 24 = .ok (.iconst 0, 1) := by decide +kernel
theorem dX1_isFraction_25 : decode cX1_isFraction 25 = .ok (.ireturn, 1) := by decide +kernel
theorem dX1_isGood_0 : decode cX1_isGood 0 = .ok (.iload_n 0, 1) := by decide +kernel
theorem dX1_isGood_1 : decode cX1_isGood 1 = .ok (.ifCond .lt 8, 3) := by decide +kernel
theorem dX1_isGood_4 : decode cX1_isGood 4 = .ok (.iload_n 0, 1) := by decide +kernel
theorem dX1_isGood_5 : decode cX1_isGood 5 = .ok (.iload_n 1, 1) := by decide +kernel
theorem dX1_isGood_6 : decode cX1_isGood 6 = .ok (.if_icmp .le 5, 3) := by decide +kernel
theorem dX1_isGood_9 : decode cX1_isGood 9 = .ok (.iconst 0, 1) := by decide +kernel
theorem dX1_isGood_10 : decode cX1_isGood 10 = .ok (.ireturn, 1) := by decide +kernel
theorem dX1_isGood_11 : decode cX1_isGood 11 = .ok (.iload_n 0, 1) := by decide +kernel
theorem dX1_isGood_12 : decode cX1_isGood 12 = .ok (.iconst 3, 1) := by decide +kernel
theorem dX1_isGood_13 : decode cX1_isGood 13 = .ok (.if_icmp .eq 5, 3) := by decide +kernel
theorem dX1_isGood_16 : decode cX1_isGood 16 = .ok (.iconst 1, 1) := by decide +kernel
theorem dX1_isGood_17 : decode cX1_isGood 17 = .ok (.ireturn, 1) := by decide +kernel
theorem dX1_isGood_18 : decode cX1_isGood 18 = .ok (.iload_n 3, 1) := by decide +kernel
theorem dX1_isGood_19 : decode cX1_isGood 19 = .ok (.iconst 1, 1) := by decide +kernel
theorem dX1_isGood_20 : decode cX1_isGood 20 = .ok (.if_icmp .eq 19, 3) := by decide +kernel
theorem dX1_isGood_23 : decode cX1_isGood 23 = .ok (.iload_n 3, 1) := by decide +kernel
theorem dX1_isGood_24 : decode cX1_isGood 24 = .ok (.iconst 2, 1) := by decide +kernel
theorem dX1_isGood_25 : decode cX1_isGood 25 = .ok (.if_icmp .eq 14, 3) := by decide +kernel
theorem dX1_isGood_28 : decode cX1_isGood 28 = .ok (.iload_n 3, 1) := by decide +kernel
theorem dX1_isGood_29 : decode cX1_isGood 29 = .ok (.iconst 4, 1) := by decide +kernel
theorem dX1_isGood_30 : decode cX1_isGood 30 = .ok (.if_icmp .eq 9, 3) := by decide +kernel
theorem dX1_isGood_33 : decode cX1_isGood 33 = .ok (.iload_n 3, 1) := by decide +kernel
theorem dX1_isGood_34 : decode cX1_isGood 34 = .ok (.bipush 8, 2) := by decide +kernel
theorem dX1_isGood_36 : decode cX1_isGood 36 = .ok (.if_icmp .ne 7, 3) := by decide +kernel
theorem dX1_isGood_39 : decode cX1_isGood 39 = .ok (.iconst 1, 1) := by decide +kernel
theorem dX1_isGood_40 : decode cX1_isGood 40 = .ok (.goto 4, 3) := by decide +kernel
theorem dX1_isGood_43 : decode cX1_isGood 43 = .ok (.iconst 0, 1) := by decide +kernel
theorem dX1_isGood_44 : decode cX1_isGood 44 = .ok (.istore 4, 2) := by decide +kernel
theorem dX1_isGood_46 : decode cX1_isGood 46 = .ok (.iload 4, 2) := by decide +kernel
theorem dX1_isGood_48 : decode cX1_isGood 48 = .ok (.ifCond .eq 23, 3) := by decide +kernel
theorem dX1_isGood_51 : decode cX1_isGood 51 = .ok (.iload_n 2, 1) := by decide +kernel
theorem dX1_isGood_52 : decode cX1_isGood 52 = .ok (.ifCond .le 19, 3) := by decide +kernel
theorem dX1_isGood_55 : decode cX1_isGood 55 = .ok (.iload_n 2, 1) := by decide +kernel
theorem dX1_isGood_56 : decode cX1_isGood 56 = .ok (.ldc 26, 2) := by decide +kernel
theorem dX1_isGood_58 : decode cX1_isGood 58 = .ok (.if_icmp .gt 13, 3) := by decide +kernel
theorem dX1_isGood_61 : decode cX1_isGood 61 = .ok (.iload_n 2, 1) := by decide +kernel
theorem dX1_isGood_62 : decode cX1_isGood 62 = .ok (.iload_n 3, 1) := by decide +kernel
theorem dX1_isGood_63 : decode cX1_isGood 63 = .ok (.irem, 1) := by decide +kernel
theorem dX1_isGood_64 : decode cX1_isGood 64 = .ok (.ifCond .ne 7, 3) := by decide +kernel
theorem dX1_isGood_67 : decode cX1_isGood 67 = .ok (.iconst 1, 1) := by decide +kernel
theorem dX1_isGood_68 : decode cX1_isGood 68 = .ok (.goto 4, 3) := by decide +kernel
theorem dX1_isGood_71 : decode cX1_isGood 71 = .ok (.iconst 0, 1) := by decide +kernel
theorem dX1_isGood_72 : decode cX1_isGood 72 = .ok (.ireturn, 1) := by decide +kernel
theorem dX1_isThere_0 : decode cX1_isThere 0 = .ok (.iload_n 1, 1) := by decide +kernel
theorem dX1_isThere_1 : decode cX1_isThere 1 = .ok (.ifCond .lt 11, 3) := by decide +kernel
theorem dX1_isThere_4 : decode cX1_isThere 4 = .ok (.iload_n 1, 1) := by decide +kernel
theorem dX1_isThere_5 : decode cX1_isThere 5 = .ok (.aload_n 0, 1) := by decide +kernel
theorem dX1_isThere_6 : decode cX1_isThere 6 = .ok (.getfield 35, 3) := by decide +kernel
theorem dX1_isThere_9 : decode cX1_isThere 9 = .ok (.if_icmp .lt 16, 3) := by decide +kernel
theorem dX1_isThere_12 : decode cX1_isThere 12 = .ok (.iload_n 1, 1) := by decide +kernel
theorem dX1_isThere_13 : decode cX1_isThere 13 = .ok (.iconst (-1), 1) := by decide +kernel
theorem dX1_isThere_14 : decode cX1_isThere 14 = .ok (.if_icmp .ne 15, 3) := by decide +kernel
theorem dX1_isThere_17 : decode cX1_isThere 17 = .ok (.aload_n 0, 1) := by decide +kernel
theorem dX1_isThere_18 : decode cX1_isThere 18 = .ok (.getfield 9, 3) := by decide +kernel
theorem dX1_isThere_21 : decode cX1_isThere 21 = .ok (.iconst 3, 1) := by decide +kernel
theorem dX1_isThere_22 : decode cX1_isThere 22 = .ok (.if_icmp .ne 7, 3) := by decide +kernel
theorem dX1_isThere_25 : decode cX1_isThere 25 = .ok (.iconst 1, 1) := by decide +kernel
theorem dX1_isThere_26 : decode cX1_isThere 26 = .ok (.goto 4, 3) := by decide +kernel
theorem dX1_isThere_29 : decode cX1_isThere 29 = .ok (.iconst 0, 1) := by decide +kernel
theorem dX1_isThere_30 : decode cX1_isThere 30 = .ok (.ireturn, 1) := by decide +kernel
theorem dX1_isWide_0 : decode cX1_isWide 0 = .ok (.aload_n 0, 1) := by decide +kernel
theorem dX1_isWide_1 : decode cX1_isWide 1 = .ok (.getfield 13, 3) := by decide +kernel
theorem dX1_isWide_4 : decode cX1_isWide 4 = .ok (.iload_n 1, 1) := by decide +kernel
theorem dX1_isWide_5 : decode cX1_isWide 5 = .ok (.iaload, 1) := by decide +kernel
theorem dX1_isWide_6 : decode cX1_isWide 6 = .ok (.iconst 2, 1) := by decide +kernel
theorem dX1_isWide_7 : decode cX1_isWide 7 = .ok (.if_icmp .eq 24, 3) := by decide +kernel
theorem dX1_isWide_10 : decode cX1_isWide 10 = .ok (.aload_n 0, 1) := by decide +kernel
theorem dX1_isWide_11 : decode cX1_isWide 11 = .ok (.getfield 13, 3) := by decide +kernel
theorem dX1_isWide_14 : decode cX1_isWide 14 = .ok (.iload_n 1, 1) := by decide +kernel
theorem dX1_isWide_15 : decode cX1_isWide 15 = .ok (.iaload, 1) := by decide +kernel
theorem dX1_isWide_16 : decode cX1_isWide 16 = .ok (.iconst 3, 1) := by decide +kernel
theorem dX1_isWide_17 : decode cX1_isWide 17 = .ok (.if_icmp .ne 18, 3) := by decide +kernel
theorem dX1_isWide_20 : decode cX1_isWide 20 = .ok (.aload_n 0, 1) := by decide +kernel
theorem dX1_isWide_21 : decode cX1_isWide 21 = .ok (.getfield 20, 3) := by decide +kernel
theorem dX1_isWide_24 : decode cX1_isWide 24 = .ok (.iload_n 1, 1) := by decide +kernel
theorem dX1_isWide_25 : decode cX1_isWide 25 = .ok (.iaload, 1) := by decide +kernel
theorem dX1_isWide_26 : decode cX1_isWide 26 = .ok (.bipush 8, 2) := by decide +kernel
theorem dX1_isWide_28 : decode cX1_isWide 28 = .ok (.if_icmp .ne 7, 3) := by decide +kernel
theorem dX1_isWide_31 : decode cX1_isWide 31 = .ok (.iconst 1, 1) := by decide +kernel
theorem dX1_isWide_32 : decode cX1_isWide 32 = .ok (.goto 4, 3) := by decide +kernel
theorem dX1_isWide_35 : decode cX1_isWide 35 = .ok (.iconst 0, 1) := by decide +kernel
theorem dX1_isWide_36 : decode cX1_isWide 36 = .ok (.ireturn, 1) := by decide +kernel
theorem dX1_place_0 : decode cX1_place 0 = .ok (.aload_n 0, 1) := by decide +kernel
theorem dX1_place_1 : decode cX1_place 1 = .ok (.iconst 0, 1) := by decide +kernel
theorem dX1_place_2 : decode cX1_place 2 = .ok (.putfield 23, 3) := by decide +kernel
theorem dX1_place_5 : decode cX1_place 5 = .ok (.iload_n 1, 1) := by decide +kernel
theorem dX1_place_6 : decode cX1_place 6 = .ok (.ifCond .lt 18, 3) := by decide +kernel
theorem dX1_place_9 : decode cX1_place 9 = .ok (.iload_n 1, 1) := by decide +kernel
theorem dX1_place_10 : decode cX1_place 10 = .ok (.iconst 2, 1) := by decide +kernel
theorem dX1_place_11 : decode cX1_place 11 = .ok (.if_icmp .gt 13, 3) := by decide +kernel
theorem dX1_place_14 : decode cX1_place 14 = .ok (.iload_n 2, 1) := by decide +kernel
theorem dX1_place_15 : decode cX1_place 15 = .ok (.ifCond .lt 9, 3) := by decide +kernel
theorem dX1_place_18 : decode cX1_place 18 = .ok (.iload_n 2, 1) := by decide +kernel
theorem dX1_place_19 : decode cX1_place 19 = .ok (.bipush 31, 2) := by decide +kernel
theorem dX1_place_21 : decode cX1_place 21 = .ok (.if_icmp .le 9, 3) := by decide +kernel
theorem dX1_place_24 : decode cX1_place 24 = .ok (.aload_n 0, 1) := by decide +kernel
theorem dX1_place_25 : decode cX1_place 25 = .ok (.iconst 1, 1) := by decide +kernel
theorem dX1_place_26 : decode cX1_place 26 = .ok (.invokevirtual 50, 3) := by decide +kernel
theorem dX1_place_29 : decode cX1_place 29 = .ok (.ireturn, 1) := by decide +kernel
theorem dX1_place_30 : decode cX1_place 30 = .ok (.iload_n 1, 1) := by decide +kernel
theorem dX1_place_31 : decode cX1_place 31 = .ok (.ifCond .ne 8, 3) := by decide +kernel
theorem dX1_place_34 : decode cX1_place 34 = .ok (.aload_n 0, 1) := by decide +kernel
theorem dX1_place_35 : decode cX1_place 35 = .ok (.getfield 76, 3) := by decide +kernel
theorem dX1_place_38 : decode cX1_place 38 = .ok (.ireturn, 1) := by decide +kernel
theorem dX1_place_39 : decode cX1_place 39 = .ok (.iload_n 1, 1) := by decide +kernel
theorem dX1_place_40 : decode cX1_place 40 = .ok (.iconst 1, 1) := by decide +kernel
theorem dX1_place_41 : decode cX1_place 41 = .ok (.if_icmp .ne 10, 3) := by decide +kernel
theorem dX1_place_44 : decode cX1_place 44 = .ok (.aload_n 0, 1) := by decide +kernel
theorem dX1_place_45 : decode cX1_place 45 = .ok (.getfield 95, 3) := by decide +kernel
theorem dX1_place_48 : decode cX1_place 48 = .ok (.goto 7, 3) := by decide +kernel
theorem dX1_place_51 : decode cX1_place 51 = .ok (.aload_n 0, 1) := by decide +kernel
theorem dX1_place_52 : decode cX1_place 52 = .ok (.getfield 85, 3) := by decide +kernel
theorem dX1_place_55 : decode cX1_place 55 = .ok (.istore_n 3, 1) := by decide +kernel
theorem dX1_place_56 : decode cX1_place 56 = .ok (.iload_n 3, 1) := by decide +kernel
theorem dX1_place_57 : decode cX1_place 57 = .ok (.iload_n 2, 1) := by decide +kernel
theorem dX1_place_58 : decode cX1_place 58 = .ok (.ishr, 1) := by decide +kernel
theorem dX1_place_59 : decode cX1_place 59 = .ok (.iconst 1, 1) := by decide +kernel
theorem dX1_place_60 : decode cX1_place 60 = .ok (.iand, 1) := by decide +kernel
theorem dX1_place_61 : decode cX1_place 61 = .ok (.ifCond .ne 5, 3) := by decide +kernel
theorem dX1_place_64 : decode cX1_place 64 = .ok (.iconst (-1), 1) := by decide +kernel
theorem dX1_place_65 : decode cX1_place 65 = .ok (.ireturn, 1) := by decide +kernel
theorem dX1_place_66 : decode cX1_place 66 = .ok (.iload_n 1, 1) := by decide +kernel
theorem dX1_place_67 : decode cX1_place 67 = .ok (.iconst 1, 1) := by decide +kernel
theorem dX1_place_68 : decode cX1_place 68 = .ok (.if_icmp .ne 17, 3) := by decide +kernel
theorem dX1_place_71 : decode cX1_place 71 = .ok (.aload_n 0, 1) := by decide +kernel
theorem dX1_place_72 : decode cX1_place 72 = .ok (.invokevirtual 98, 3) := by decide +kernel
theorem dX1_place_75 : decode cX1_place 75 = .ok (.iload_n 3, 1) := by decide +kernel
theorem dX1_place_76 : decode cX1_place 76 = .ok (.iload_n 2, 1) := by decide +kernel
theorem dX1_place_77 : decode cX1_place 77 = .ok (.iconst 4, 1) := by decide +kernel
theorem dX1_place_78 : decode cX1_place 78 = .ok (.invokestatic 88, 3) := by decide +kernel
theorem dX1_place_81 : decode cX1_place 81 = .ok (.iadd, 1) := by decide +kernel
theorem dX1_place_82 : decode cX1_place 82 = .ok (.goto 15, 3) := by decide +kernel
theorem dX1_place_85 : decode cX1_place 85 = .ok (.aload_n 0, 1) := by decide +kernel
theorem dX1_place_86 : decode cX1_place 86 = .ok (.invokevirtual 82, 3) := by decide +kernel
theorem dX1_place_89 : decode cX1_place 89 = .ok (.iload_n 3, 1) := by decide +kernel
theorem dX1_place_90 : decode cX1_place 90 = .ok (.iload_n 2, 1) := by decide +kernel
theorem dX1_place_91 : decode cX1_place 91 = .ok (.bipush 8, 2) := by decide +kernel
theorem dX1_place_93 : decode cX1_place 93 = .ok (.invokestatic 88, 3) := by decide +kernel
theorem dX1_place_96 : decode cX1_place 96 = .ok (.iadd, 1) := by decide +kernel
theorem dX1_place_97 : decode cX1_place 97 = .ok (.ireturn, 1) := by decide +kernel
theorem dX1_saved_0 : decode cX1_saved 0 = .ok (.iconst 0, 1) := by decide +kernel
theorem dX1_saved_1 : decode cX1_saved 1 = .ok (.istore_n 3, 1) := by decide +kernel
theorem dX1_saved_2 : decode cX1_saved 2 = .ok (.iconst 0, 1) := by decide +kernel
theorem dX1_saved_3 : decode cX1_saved 3 = .ok (.istore 4, 2) := by decide +kernel
theorem dX1_saved_5 : decode cX1_saved 5 = .ok (.iload 4, 2) := by decide +kernel
theorem dX1_saved_7 : decode cX1_saved 7 = .ok (.iload_n 1, 1) := by decide +kernel
theorem dX1_saved_8 : decode cX1_saved 8 = .ok (.if_icmp .ge 20, 3) := by decide +kernel
theorem dX1_saved_11 : decode cX1_saved 11 = .ok (.iload_n 3, 1) := by decide +kernel
theorem dX1_saved_12 : decode cX1_saved 12 = .ok (.iload_n 0, 1) := by decide +kernel
theorem dX1_saved_13 : decode cX1_saved 13 = .ok (.iload 4, 2) := by decide +kernel
theorem dX1_saved_15 : decode cX1_saved 15 = .ok (.ishr, 1) := by decide +kernel
theorem dX1_saved_16 : decode cX1_saved 16 = .ok (.iconst 1, 1) := by decide +kernel
theorem dX1_saved_17 : decode cX1_saved 17 = .ok (.iand, 1) := by decide +kernel
theorem dX1_saved_18 : decode cX1_saved 18 = .ok (.iload_n 2, 1) := by decide +kernel
theorem dX1_saved_19 : decode cX1_saved 19 = .ok (.imul, 1) := by decide +kernel
theorem dX1_saved_20 : decode cX1_saved 20 = .ok (.iadd, 1) := by decide +kernel
theorem dX1_saved_21 : decode cX1_saved 21 = .ok (.istore_n 3, 1) := by decide +kernel
theorem dX1_saved_22 : decode cX1_saved 22 = .ok (.iinc 4 1, 3) := by decide +kernel
theorem dX1_saved_25 : decode cX1_saved 25 = .ok (.goto (-20), 3) := by decide +kernel
theorem dX1_saved_28 : decode cX1_saved 28 = .ok (.iload_n 3, 1) := by decide +kernel
theorem dX1_saved_29 : decode cX1_saved 29 = .ok (.ireturn, 1) := by decide +kernel
end
section
theorem dX1_signature_0 : decode cX1_signature 0 = .ok (.aload_n 0, 1) := by decide +kernel
theorem dX1_signature_1 : decode cX1_signature 1 = .ok (.iconst 0, 1) := by decide +kernel
theorem dX1_signature_2 : decode cX1_signature 2 = .ok (.putfield 23, 3) := by decide +kernel
theorem dX1_signature_5 : decode cX1_signature 5 = .ok (.iload_n 1, 1) := by decide +kernel
theorem dX1_signature_6 : decode cX1_signature 6 = .ok (.ifCond .lt 8, 3) := by decide +kernel
theorem dX1_signature_9 : decode cX1_signature 9 = .ok (.iload_n 1, 1) := by decide +kernel
theorem dX1_signature_10 : decode cX1_signature 10 = .ok (.iconst 3, 1) := by decide +kernel
theorem dX1_signature_11 : decode cX1_signature 11 = .ok (.if_icmp .le 9, 3) := by decide +kernel
theorem dX1_signature_14 : decode cX1_signature 14 = .ok (.aload_n 0, 1) := by decide +kernel
theorem dX1_signature_15 : decode cX1_signature 15 = .ok (.iconst 1, 1) := by decide +kernel
theorem dX1_signature_16 : decode cX1_signature 16 = .ok (.invokevirtual 50, 3) := by decide +kernel
theorem dX1_signature_19 : decode cX1_signature 19 = .ok (.ireturn, 1) := by decide +kernel
theorem dX1_signature_20 : decode cX1_signature 20 = .ok (.aload_n 0, 1) := by decide +kernel
theorem dX1_signature_21 : decode cX1_signature 21 = .ok (.getfield 9, 3) := by decide +kernel
theorem dX1_signature_24 : decode cX1_signature 24 = .ok (.iconst 4, 1) := by decide +kernel
theorem dX1_signature_25 : decode cX1_signature 25 = .ok (.if_icmp .ne 7, 3) := by decide +kernel
theorem dX1_signature_28 : decode cX1_signature 28 = .ok (.iconst (-1), 1) := by decide +kernel
theorem dX1_signature_29 : decode cX1_signature 29 = .ok (.goto 24, 3) := by decide +kernel
theorem dX1_signature_32 : decode cX1_signature 32 = .ok (.aload_n 0, 1) := by decide +kernel
theorem dX1_signature_33 : decode cX1_signature 33 = .ok (.getfield 9, 3) := by decide +kernel
theorem dX1_signature_36 : decode cX1_signature 36 = .ok (.ifCond .eq 11, 3) := by decide +kernel
theorem dX1_signature_39 : decode cX1_signature 39 = .ok (.aload_n 0, 1) := by decide +kernel
theorem dX1_signature_40 : decode cX1_signature 40 = .ok (.getfield 9, 3) := by decide +kernel
theorem dX1_signature_43 : decode cX1_signature 43 = .ok (.iconst 3, 1) := by decide +kernel
theorem dX1_signature_44 : decode cX1_signature 44 = .ok (.if_icmp .ne 7, 3) := by decide +kernel
theorem dX1_signature_47 : decode cX1_signature 47 = .ok (.iconst 2, 1) := by decide +kernel
theorem dX1_signature_48 : decode cX1_signature 48 = .ok (.goto 5, 3) := by decide +kernel
theorem dX1_signature_51 : decode cX1_signature 51 = .ok (.bipush 32, 2) := by decide +kernel
theorem dX1_signature_53 : decode cX1_signature 53 = .ok (.istore_n 2, 1) := by decide +kernel
theorem dX1_signature_54 : decode cX1_signature 54 = .ok (.iload_n 1, 1) := by decide +kernel
theorem dX1_signature_55 : decode cX1_signature 55 = .ok (.ifCond .ne 10, 3) := by decide +kernel
theorem dX1_signature_58 : decode cX1_signature 58 = .ok (.aload_n 0, 1) := by decide +kernel
theorem dX1_signature_59 : decode cX1_signature 59 = .ok (.invokevirtual 66, 3) := by decide +kernel
theorem dX1_signature_62 : decode cX1_signature 62 = .ok (.goto 32, 3) := by decide +kernel
theorem dX1_signature_65 : decode cX1_signature 65 = .ok (.iload_n 1, 1) := by decide +kernel
theorem dX1_signature_66 : decode cX1_signature 66 = .ok (.iconst 1, 1) := by decide +kernel
theorem dX1_signature_67 : decode cX1_signature 67 = .ok (.if_icmp .ne 10, 3) := by decide +kernel
theorem dX1_signature_70 : decode cX1_signature 70 = .ok (.aload_n 0, 1) := by decide +kernel
theorem dX1_signature_71 : decode cX1_signature 71 = .ok (.getfield 35, 3) := by decide +kernel
theorem dX1_signature_74 : decode cX1_signature 74 = .ok (.goto 20, 3) := by decide +kernel
theorem dX1_signature_77 : decode cX1_signature 77 = .ok (.iload_n 1, 1) := by decide +kernel
theorem dX1_signature_78 : decode cX1_signature 78 = .ok (.iconst 2, 1) := by decide +kernel
theorem dX1_signature_79 : decode cX1_signature 79 = .ok (.if_icmp .ne 7, 3) := by decide +kernel
theorem dX1_signature_82 : decode cX1_signature 82 = .ok (.iload_n 2, 1) := by decide +kernel
theorem dX1_signature_83 : decode cX1_signature 83 = .ok (.goto 11, 3) := by decide +kernel
theorem dX1_signature_86 : decode cX1_signature 86 = .ok (.aload_n 0, 1) := by decide +kernel
theorem dX1_signature_87 : decode cX1_signature 87 = .ok (.aload_n 0, 1) := by decide +kernel
theorem dX1_signature_88 : decode cX1_signature 88 = .ok (.getfield 35, 3) := by decide +kernel
theorem dX1_signature_91 : decode cX1_signature 91 = .ok (.invokevirtual 53, 3) := by decide +kernel
theorem dX1_signature_94 : decode cX1_signature 94 = .ok (.ireturn, 1) := by decide +kernel
theorem dX1_thrown_0 : decode cX1_thrown 0 = .ok (.aload_n 0, 1) := by decide +kernel
theorem dX1_thrown_1 : decode cX1_thrown 1 = .ok (.getfield 23, 3) := by decide +kernel
theorem dX1_thrown_4 : decode cX1_thrown 4 = .ok (.ireturn, 1) := by decide +kernel
theorem dX1_where_0 : decode cX1_where 0 = .ok (.aload_n 0, 1) := by decide +kernel
theorem dX1_where_1 : decode cX1_where 1 = .ok (.iconst 0, 1) := by decide +kernel
theorem dX1_where_2 : decode cX1_where 2 = .ok (.putfield 23, 3) := by decide +kernel
theorem dX1_where_5 : decode cX1_where 5 = .ok (.aload_n 0, 1) := by decide +kernel
theorem dX1_where_6 : decode cX1_where 6 = .ok (.iload_n 1, 1) := by decide +kernel
theorem dX1_where_7 : decode cX1_where 7 = .ok (.invokevirtual 57, 3) := by decide +kernel
theorem dX1_where_10 : decode cX1_where 10 = .ok (.ifCond .eq 16, 3) := by decide +kernel
theorem dX1_where_13 : decode cX1_where 13 = .ok (.iload_n 2, 1) := by decide +kernel
theorem dX1_where_14 : decode cX1_where 14 = .ok (.ifCond .lt 12, 3) := by decide +kernel
theorem dX1_where_17 : decode cX1_where 17 = .ok (.iload_n 2, 1) := by decide +kernel
theorem dX1_where_18 : decode cX1_where 18 = .ok (.aload_n 0, 1) := by decide +kernel
theorem dX1_where_19 : decode cX1_where 19 = .ok (.iload_n 1, 1) := by decide +kernel
theorem dX1_where_20 : decode cX1_where 20 = .ok (.invokevirtual 60, 3) := by decide +kernel
theorem dX1_where_23 : decode cX1_where 23 = .ok (.if_icmp .lt 9, 3) := by decide +kernel
theorem dX1_where_26 : decode cX1_where 26 = .ok (.aload_n 0, 1) := by decide +kernel
theorem dX1_where_27 : decode cX1_where 27 = .ok (.iconst 1, 1) := by decide +kernel
theorem dX1_where_28 : decode cX1_where 28 = .ok (.invokevirtual 50, 3) := by decide +kernel
theorem dX1_where_31 : decode cX1_where 31 = .ok (.ireturn, 1) := by decide +kernel
theorem dX1_where_32 : decode cX1_where 32 = .ok (.iload_n 1, 1) := by decide +kernel
theorem dX1_where_33 : decode cX1_where 33 = .ok (.iconst (-1), 1) := by decide +kernel
theorem dX1_where_34 : decode cX1_where 34 = .ok (.if_icmp .ne 5, 3) := by decide +kernel
theorem dX1_where_37 : decode cX1_where 37 = .ok (.iconst 4, 1) := by decide +kernel
theorem dX1_where_38 : decode cX1_where 38 = .ok (.ireturn, 1) := by decide +kernel
theorem dX1_where_39 : decode cX1_where 39 = .ok (.aload_n 0, 1) := by decide +kernel
theorem dX1_where_40 : decode cX1_where 40 = .ok (.getfield 31, 3) := by decide +kernel
theorem dX1_where_43 : decode cX1_where 43 = .ok (.ifCond .ne 36, 3) := by decide +kernel
theorem dX1_where_46 : decode cX1_where 46 = .ok (.aload_n 0, 1) := by decide +kernel
theorem dX1_where_47 : decode cX1_where 47 = .ok (.getfield 9, 3) := by decide +kernel
theorem dX1_where_50 : decode cX1_where 50 = .ok (.iconst 3, 1) := by decide +kernel
theorem dX1_where_51 : decode cX1_where 51 = .ok (.if_icmp .eq 28, 3) := by decide +kernel
theorem dX1_where_54 : decode cX1_where 54 = .ok (.iload_n 1, 1) := by decide +kernel
theorem dX1_where_55 : decode cX1_where 55 = .ok (.iconst 2, 1) := by decide +kernel
theorem dX1_where_56 : decode cX1_where 56 = .ok (.if_icmp .ge 23, 3) := by decide +kernel
theorem dX1_where_59 : decode cX1_where 59 = .ok (.aload_n 0, 1) := by decide +kernel
theorem dX1_where_60 : decode cX1_where 60 = .ok (.iconst 0, 1) := by decide +kernel
theorem dX1_where_61 : decode cX1_where 61 = .ok (.invokevirtual 63, 3) := by decide +kernel
theorem dX1_where_64 : decode cX1_where 64 = .ok (.ifCond .eq 15, 3) := by decide +kernel
theorem dX1_where_67 : decode cX1_where 67 = .ok (.aload_n 0, 1) := by decide +kernel
theorem dX1_where_68 : decode cX1_where 68 = .ok (.iload_n 1, 1) := by decide +kernel
theorem dX1_where_69 : decode cX1_where 69 = .ok (.invokevirtual 63, 3) := by decide +kernel
theorem dX1_where_72 : decode cX1_where 72 = .ok (.ifCond .eq 7, 3) := by decide +kernel
theorem dX1_where_75 : decode cX1_where 75 = .ok (.iconst 1, 1) := by decide +kernel
theorem dX1_where_76 : decode cX1_where 76 = .ok (.goto 4, 3) := by decide +kernel
theorem dX1_where_79 : decode cX1_where 79 = .ok (.iconst 0, 1) := by decide +kernel
theorem dX1_where_80 : decode cX1_where 80 = .ok (.istore_n 3, 1) := by decide +kernel
theorem dX1_where_81 : decode cX1_where 81 = .ok (.iload_n 3, 1) := by decide +kernel
theorem dX1_where_82 : decode cX1_where 82 = .ok (.ifCond .eq 35, 3) := by decide +kernel
theorem dX1_where_85 : decode cX1_where 85 = .ok (.bipush 44, 2) := by decide +kernel
theorem dX1_where_87 : decode cX1_where 87 = .ok (.iconst 2, 1) := by decide +kernel
theorem dX1_where_88 : decode cX1_where 88 = .ok (.iload_n 1, 1) := by decide +kernel
theorem dX1_where_89 : decode cX1_where 89 = .ok (.imul, 1) := by decide +kernel
theorem dX1_where_90 : decode cX1_where 90 = .ok (.iadd, 1) := by decide +kernel
theorem dX1_where_91 : decode cX1_where 91 = .ok (.istore 4, 2) := by decide +kernel
theorem dX1_where_93 : decode cX1_where 93 = .ok (.aload_n 0, 1) := by decide +kernel
theorem dX1_where_94 : decode cX1_where 94 = .ok (.getfield 13, 3) := by decide +kernel
theorem dX1_where_97 : decode cX1_where 97 = .ok (.iload_n 1, 1) := by decide +kernel
theorem dX1_where_98 : decode cX1_where 98 = .ok (.iaload, 1) := by decide +kernel
theorem dX1_where_99 : decode cX1_where 99 = .ok (.iconst 2, 1) := by decide +kernel
theorem dX1_where_100 : decode cX1_where 100 = .ok (.if_icmp .ne 14, 3) := by decide +kernel
theorem dX1_where_103 : decode cX1_where 103 = .ok (.iload_n 2, 1) := by decide +kernel
theorem dX1_where_104 : decode cX1_where 104 = .ok (.ifCond .ne 10, 3) := by decide +kernel
theorem dX1_where_107 : decode cX1_where 107 = .ok (.iload 4, 2) := by decide +kernel
theorem dX1_where_109 : decode cX1_where 109 = .ok (.iconst 1, 1) := by decide +kernel
theorem dX1_where_110 : decode cX1_where 110 = .ok (.iadd, 1) := by decide +kernel
theorem dX1_where_111 : decode cX1_where 111 = .ok (.goto 5, 3) := by decide +kernel
theorem dX1_where_114 : decode cX1_where 114 = .ok (.iload 4, 2) := by decide +kernel
theorem dX1_where_116 : decode cX1_where 116 = .ok (.ireturn, 1) := by decide +kernel
theorem dX1_where_117 : decode cX1_where 117 = .ok (.aload_n 0, 1) := by decide +kernel
theorem dX1_where_118 : decode cX1_where 118 = .ok (.iload_n 1, 1) := by decide +kernel
theorem dX1_where_119 : decode cX1_where 119 = .ok (.invokevirtual 53, 3) := by decide +kernel
theorem dX1_where_122 : decode cX1_where 122 = .ok (.iconst 4, 1) := by decide +kernel
theorem dX1_where_123 : decode cX1_where 123 = .ok (.idiv, 1) := by decide +kernel
theorem dX1_where_124 : decode cX1_where 124 = .ok (.iload_n 2, 1) := by decide +kernel
theorem dX1_where_125 : decode cX1_where 125 = .ok (.iadd, 1) := by decide +kernel
theorem dX1_where_126 : decode cX1_where 126 = .ok (.istore 4, 2) := by decide +kernel
theorem dX1_where_128 : decode cX1_where 128 = .ok (.iload 4, 2) := by decide +kernel
theorem dX1_where_130 : decode cX1_where 130 = .ok (.iconst 4, 1) := by decide +kernel
theorem dX1_where_131 : decode cX1_where 131 = .ok (.if_icmp .ge 10, 3) := by decide +kernel
theorem dX1_where_134 : decode cX1_where 134 = .ok (.iconst 4, 1) := by decide +kernel
theorem dX1_where_135 : decode cX1_where 135 = .ok (.iload 4, 2) := by decide +kernel
theorem dX1_where_137 : decode cX1_where 137 = .ok (.iadd, 1) := by decide +kernel
theorem dX1_where_138 : decode cX1_where 138 = .ok (.goto 4, 3) := by decide +kernel
theorem dX1_where_141 : decode cX1_where 141 = .ok (.iconst (-1), 1) := by decide +kernel
theorem dX1_where_142 : decode cX1_where 142 = .ok (.ireturn, 1) := by decide +kernel
theorem dX1_words_0 : decode cX1_words 0 = .ok (.iload_n 1, 1) := by decide +kernel
theorem dX1_words_1 : decode cX1_words 1 = .ok (.iconst (-1), 1) := by decide +kernel
theorem dX1_words_2 : decode cX1_words 2 = .ok (.if_icmp .ne 7, 3) := by decide +kernel
theorem dX1_words_5 : decode cX1_words 5 = .ok (.iconst 1, 1) := by decide +kernel
theorem dX1_words_6 : decode cX1_words 6 = .ok (.goto 14, 3) := by decide +kernel
theorem dX1_words_9 : decode cX1_words 9 = .ok (.aload_n 0, 1) := by decide +kernel
theorem dX1_words_10 : decode cX1_words 10 = .ok (.iload_n 1, 1) := by decide +kernel
theorem dX1_words_11 : decode cX1_words 11 = .ok (.invokevirtual 46, 3) := by decide +kernel
theorem dX1_words_14 : decode cX1_words 14 = .ok (.iconst 4, 1) := by decide +kernel
theorem dX1_words_15 : decode cX1_words 15 = .ok (.invokestatic 42, 3) := by decide +kernel
theorem dX1_words_18 : decode cX1_words 18 = .ok (.iconst 4, 1) := by decide +kernel
theorem dX1_words_19 : decode cX1_words 19 = .ok (.idiv, 1) := by decide +kernel
theorem dX1_words_20 : decode cX1_words 20 = .ok (.ireturn, 1) := by decide +kernel
end
section
theorem dL_law_0 : decode cL_law 0 = .ok (.new 8, 3) := by decide +kernel
theorem dL_law_3 : decode cL_law 3 = .ok (.dup, 1) := by decide +kernel
theorem dL_law_4 : decode cL_law 4 = .ok (.invokespecial 40, 3) := by decide +kernel
theorem dL_law_7 : decode cL_law 7 = .ok (.astore_n 1, 1) := by decide +kernel
theorem dL_law_8 : decode cL_law 8 = .ok (.new 41, 3) := by decide +kernel
theorem dL_law_11 : decode cL_law 11 = .ok (.dup, 1) := by decide +kernel
theorem dL_law_12 : decode cL_law 12 = .ok (.invokespecial 43, 3) := by decide +kernel
theorem dL_law_15 : decode cL_law 15 = .ok (.astore_n 2, 1) := by decide +kernel
theorem dL_law_16 : decode cL_law 16 = .ok (.iconst 1, 1) := by decide +kernel
theorem dL_law_17 : decode cL_law 17 = .ok (.newarray .long, 2) := by decide +kernel
theorem dL_law_19 : decode cL_law 19 = .ok (.astore_n 3, 1) := by decide +kernel
theorem dL_law_20 : decode cL_law 20 = .ok (.iconst 0, 1) := by decide +kernel
theorem dL_law_21 : decode cL_law 21 = .ok (.istore 4, 2) := by decide +kernel
theorem dL_law_23 : decode cL_law 23 = .ok (.iload 4, 2) := by decide +kernel
theorem dL_law_25 : decode cL_law 25 = .ok (.aload_n 0, 1) := by decide +kernel
theorem dL_law_26 : decode cL_law 26 = .ok (.arraylength, 1) := by decide +kernel
theorem dL_law_27 : decode cL_law 27 = .ok (.iconst 5, 1) := by decide +kernel
theorem dL_law_28 : decode cL_law 28 = .ok (.isub, 1) := by decide +kernel
theorem dL_law_29 : decode cL_law 29 = .ok (.if_icmp .gt 599, 3) := by decide +kernel
theorem dL_law_32 : decode cL_law 32 = .ok (.aload_n 0, 1) := by decide +kernel
theorem dL_law_33 : decode cL_law 33 = .ok (.iload 4, 2) := by decide +kernel
theorem dL_law_35 : decode cL_law 35 = .ok (.iaload, 1) := by decide +kernel
theorem dL_law_36 : decode cL_law 36 = .ok (.bipush 15, 2) := by decide +kernel
theorem dL_law_38 : decode cL_law 38 = .ok (.iand, 1) := by decide +kernel
theorem dL_law_39 : decode cL_law 39 = .ok (.tableswitch 583 0 8 #[49, 137, 217, 285, 353, 409, 422, 502, 570], 49) := by decide +kernel
theorem dL_law_88 : decode cL_law 88 = .ok (.aload_n 1, 1) := by decide +kernel
theorem dL_law_89 : decode cL_law 89 = .ok (.aload_n 0, 1) := by decide +kernel
theorem dL_law_90 : decode cL_law 90 = .ok (.iload 4, 2) := by decide +kernel
theorem dL_law_92 : decode cL_law 92 = .ok (.iconst 1, 1) := by decide +kernel
theorem dL_law_93 : decode cL_law 93 = .ok (.iadd, 1) := by decide +kernel
theorem dL_law_94 : decode cL_law 94 = .ok (.iaload, 1) := by decide +kernel
theorem dL_law_95 : decode cL_law 95 = .ok (.aload_n 0, 1) := by decide +kernel
theorem dL_law_96 : decode cL_law 96 = .ok (.iload 4, 2) := by decide +kernel
theorem dL_law_98 : decode cL_law 98 = .ok (.iconst 2, 1) := by decide +kernel
theorem dL_law_99 : decode cL_law 99 = .ok (.iadd, 1) := by decide +kernel
theorem dL_law_100 : decode cL_law 100 = .ok (.iaload, 1) := by decide +kernel
theorem dL_law_101 : decode cL_law 101 = .ok (.aload_n 0, 1) := by decide +kernel
theorem dL_law_102 : decode cL_law 102 = .ok (.iload 4, 2) := by decide +kernel
theorem dL_law_104 : decode cL_law 104 = .ok (.iconst 3, 1) := by decide +kernel
theorem dL_law_105 : decode cL_law 105 = .ok (.iadd, 1) := by decide +kernel
theorem dL_law_106 : decode cL_law 106 = .ok (.iaload, 1) := by decide +kernel
theorem dL_law_107 : decode cL_law 107 = .ok (.aload_n 0, 1) := by decide +kernel
theorem dL_law_108 : decode cL_law 108 = .ok (.iload 4, 2) := by decide +kernel
theorem dL_law_110 : decode cL_law 110 = .ok (.iconst 4, 1) := by decide +kernel
theorem dL_law_111 : decode cL_law 111 = .ok (.iadd, 1) := by decide +kernel
theorem dL_law_112 : decode cL_law 112 = .ok (.iaload, 1) := by decide +kernel
theorem dL_law_113 : decode cL_law 113 = .ok (.ifCond .eq 7, 3) := by decide +kernel
theorem dL_law_116 : decode cL_law 116 = .ok (.iconst 1, 1) := by decide +kernel
theorem dL_law_117 : decode cL_law 117 = .ok (.goto 4, 3) := by decide +kernel
theorem dL_law_120 : decode cL_law 120 = .ok (.iconst 0, 1) := by decide +kernel
theorem dL_law_121 : decode cL_law 121 = .ok (.invokestatic 44, 3) := by decide +kernel
theorem dL_law_124 : decode cL_law 124 = .ok (.istore 5, 2) := by decide +kernel
theorem dL_law_126 : decode cL_law 126 = .ok (.aload_n 2, 1) := by decide +kernel
theorem dL_law_127 : decode cL_law 127 = .ok (.aload_n 0, 1) := by decide +kernel
theorem dL_law_128 : decode cL_law 128 = .ok (.iload 4, 2) := by decide +kernel
theorem dL_law_130 : decode cL_law 130 = .ok (.iconst 1, 1) := by decide +kernel
theorem dL_law_131 : decode cL_law 131 = .ok (.iadd, 1) := by decide +kernel
theorem dL_law_132 : decode cL_law 132 = .ok (.iaload, 1) := by decide +kernel
theorem dL_law_133 : decode cL_law 133 = .ok (.aload_n 0, 1) := by decide +kernel
theorem dL_law_134 : decode cL_law 134 = .ok (.iload 4, 2) := by decide +kernel
theorem dL_law_136 : decode cL_law 136 = .ok (.iconst 2, 1) := by decide +kernel
theorem dL_law_137 : decode cL_law 137 = .ok (.iadd, 1) := by decide +kernel
theorem dL_law_138 : decode cL_law 138 = .ok (.iaload, 1) := by decide +kernel
theorem dL_law_139 : decode cL_law 139 = .ok (.aload_n 0, 1) := by decide +kernel
theorem dL_law_140 : decode cL_law 140 = .ok (.iload 4, 2) := by decide +kernel
theorem dL_law_142 : decode cL_law 142 = .ok (.iconst 3, 1) := by decide +kernel
theorem dL_law_143 : decode cL_law 143 = .ok (.iadd, 1) := by decide +kernel
theorem dL_law_144 : decode cL_law 144 = .ok (.iaload, 1) := by decide +kernel
theorem dL_law_145 : decode cL_law 145 = .ok (.aload_n 0, 1) := by decide +kernel
theorem dL_law_146 : decode cL_law 146 = .ok (.iload 4, 2) := by decide +kernel
theorem dL_law_148 : decode cL_law 148 = .ok (.iconst 4, 1) := by decide +kernel
theorem dL_law_149 : decode cL_law 149 = .ok (.iadd, 1) := by decide +kernel
theorem dL_law_150 : decode cL_law 150 = .ok (.iaload, 1) := by decide +kernel
theorem dL_law_151 : decode cL_law 151 = .ok (.ifCond .eq 7, 3) := by decide +kernel
theorem dL_law_154 : decode cL_law 154 = .ok (.iconst 1, 1) := by decide +kernel
theorem dL_law_155 : decode cL_law 155 = .ok (.goto 4, 3) := by decide +kernel
theorem dL_law_158 : decode cL_law 158 = .ok (.iconst 0, 1) := by decide +kernel
theorem dL_law_159 : decode cL_law 159 = .ok (.invokevirtual 49, 3) := by decide +kernel
theorem dL_law_162 : decode cL_law 162 = .ok (.aload_n 2, 1) := by decide +kernel
theorem dL_law_163 : decode cL_law 163 = .ok (.invokevirtual 50, 3) := by decide +kernel
theorem dL_law_166 : decode cL_law 166 = .ok (.iload 5, 2) := by decide +kernel
theorem dL_law_168 : decode cL_law 168 = .ok (.if_icmp .eq 5, 3) := by decide +kernel
theorem dL_law_171 : decode cL_law 171 = .ok (.iconst 0, 1) := by decide +kernel
theorem dL_law_172 : decode cL_law 172 = .ok (.ireturn, 1) := by decide +kernel
theorem dL_law_173 : decode cL_law 173 = .ok (.goto 449, 3) := by decide +kernel
theorem dL_law_176 : decode cL_law 176 = .ok (.aload_n 1, 1) := by decide +kernel
theorem dL_law_177 : decode cL_law 177 = .ok (.aload_n 0, 1) := by decide +kernel
theorem dL_law_178 : decode cL_law 178 = .ok (.iload 4, 2) := by decide +kernel
theorem dL_law_180 : decode cL_law 180 = .ok (.iconst 1, 1) := by decide +kernel
theorem dL_law_181 : decode cL_law 181 = .ok (.iadd, 1) := by decide +kernel
theorem dL_law_182 : decode cL_law 182 = .ok (.iaload, 1) := by decide +kernel
theorem dL_law_183 : decode cL_law 183 = .ok (.aload_n 0, 1) := by decide +kernel
theorem dL_law_184 : decode cL_law 184 = .ok (.iload 4, 2) := by decide +kernel
theorem dL_law_186 : decode cL_law 186 = .ok (.iconst 2, 1) := by decide +kernel
theorem dL_law_187 : decode cL_law 187 = .ok (.iadd, 1) := by decide +kernel
theorem dL_law_188 : decode cL_law 188 = .ok (.iaload, 1) := by decide +kernel
theorem dL_law_189 : decode cL_law 189 = .ok (.aload_n 0, 1) := by decide +kernel
theorem dL_law_190 : decode cL_law 190 = .ok (.iload 4, 2) := by decide +kernel
theorem dL_law_192 : decode cL_law 192 = .ok (.iconst 3, 1) := by decide +kernel
theorem dL_law_193 : decode cL_law 193 = .ok (.iadd, 1) := by decide +kernel
theorem dL_law_194 : decode cL_law 194 = .ok (.iaload, 1) := by decide +kernel
theorem dL_law_195 : decode cL_law 195 = .ok (.aload_n 3, 1) := by decide +kernel
theorem dL_law_196 : decode cL_law 196 = .ok (.invokestatic 54, 3) := by decide +kernel
theorem dL_law_199 : decode cL_law 199 = .ok (.istore 5, 2) := by decide +kernel
theorem dL_law_201 : decode cL_law 201 = .ok (.aload_n 2, 1) := by decide +kernel
theorem dL_law_202 : decode cL_law 202 = .ok (.aload_n 0, 1) := by decide +kernel
theorem dL_law_203 : decode cL_law 203 = .ok (.iload 4, 2) := by decide +kernel
theorem dL_law_205 : decode cL_law 205 = .ok (.iconst 1, 1) := by decide +kernel
theorem dL_law_206 : decode cL_law 206 = .ok (.iadd, 1) := by decide +kernel
theorem dL_law_207 : decode cL_law 207 = .ok (.iaload, 1) := by decide +kernel
theorem dL_law_208 : decode cL_law 208 = .ok (.aload_n 0, 1) := by decide +kernel
theorem dL_law_209 : decode cL_law 209 = .ok (.iload 4, 2) := by decide +kernel
theorem dL_law_211 : decode cL_law 211 = .ok (.iconst 2, 1) := by decide +kernel
theorem dL_law_212 : decode cL_law 212 = .ok (.iadd, 1) := by decide +kernel
theorem dL_law_213 : decode cL_law 213 = .ok (.iaload, 1) := by decide +kernel
theorem dL_law_214 : decode cL_law 214 = .ok (.aload_n 0, 1) := by decide +kernel
theorem dL_law_215 : decode cL_law 215 = .ok (.iload 4, 2) := by decide +kernel
theorem dL_law_217 : decode cL_law 217 = .ok (.iconst 3, 1) := by decide +kernel
theorem dL_law_218 : decode cL_law 218 = .ok (.iadd, 1) := by decide +kernel
theorem dL_law_219 : decode cL_law 219 = .ok (.iaload, 1) := by decide +kernel
theorem dL_law_220 : decode cL_law 220 = .ok (.invokevirtual 57, 3) := by decide +kernel
theorem dL_law_223 : decode cL_law 223 = .ok (.istore 6, 2) := by decide +kernel
theorem dL_law_225 : decode cL_law 225 = .ok (.aload_n 2, 1) := by decide +kernel
theorem dL_law_226 : decode cL_law 226 = .ok (.invokevirtual 50, 3) := by decide +kernel
theorem dL_law_229 : decode cL_law 229 = .ok (.iload 5, 2) := by decide +kernel
theorem dL_law_231 : decode cL_law 231 = .ok (.if_icmp .eq 5, 3) := by decide +kernel
theorem dL_law_234 : decode cL_law 234 = .ok (.iconst 0, 1) := by decide +kernel
theorem dL_law_235 : decode cL_law 235 = .ok (.ireturn, 1) := by decide +kernel
theorem dL_law_236 : decode cL_law 236 = .ok (.iload 5, 2) := by decide +kernel
theorem dL_law_238 : decode cL_law 238 = .ok (.ifCond .ne 15, 3) := by decide +kernel
theorem dL_law_241 : decode cL_law 241 = .ok (.aload_n 3, 1) := by decide +kernel
theorem dL_law_242 : decode cL_law 242 = .ok (.iconst 0, 1) := by decide +kernel
theorem dL_law_243 : decode cL_law 243 = .ok (.laload, 1) := by decide +kernel
theorem dL_law_244 : decode cL_law 244 = .ok (.iload 6, 2) := by decide +kernel
theorem dL_law_246 : decode cL_law 246 = .ok (.i2l, 1) := by decide +kernel
theorem dL_law_247 : decode cL_law 247 = .ok (.lcmp, 1) := by decide +kernel
theorem dL_law_248 : decode cL_law 248 = .ok (.ifCond .eq 5, 3) := by decide +kernel
theorem dL_law_251 : decode cL_law 251 = .ok (.iconst 0, 1) := by decide +kernel
theorem dL_law_252 : decode cL_law 252 = .ok (.ireturn, 1) := by decide +kernel
theorem dL_law_253 : decode cL_law 253 = .ok (.goto 369, 3) := by decide +kernel
theorem dL_law_256 : decode cL_law 256 = .ok (.aload_n 1, 1) := by decide +kernel
theorem dL_law_257 : decode cL_law 257 = .ok (.aload_n 0, 1) := by decide +kernel
theorem dL_law_258 : decode cL_law 258 = .ok (.iload 4, 2) := by decide +kernel
theorem dL_law_260 : decode cL_law 260 = .ok (.iconst 1, 1) := by decide +kernel
theorem dL_law_261 : decode cL_law 261 = .ok (.iadd, 1) := by decide +kernel
theorem dL_law_262 : decode cL_law 262 = .ok (.iaload, 1) := by decide +kernel
theorem dL_law_263 : decode cL_law 263 = .ok (.aload_n 0, 1) := by decide +kernel
theorem dL_law_264 : decode cL_law 264 = .ok (.iload 4, 2) := by decide +kernel
theorem dL_law_266 : decode cL_law 266 = .ok (.iconst 2, 1) := by decide +kernel
theorem dL_law_267 : decode cL_law 267 = .ok (.iadd, 1) := by decide +kernel
theorem dL_law_268 : decode cL_law 268 = .ok (.iaload, 1) := by decide +kernel
theorem dL_law_269 : decode cL_law 269 = .ok (.aload_n 3, 1) := by decide +kernel
theorem dL_law_270 : decode cL_law 270 = .ok (.invokestatic 58, 3) := by decide +kernel
theorem dL_law_273 : decode cL_law 273 = .ok (.istore 5, 2) := by decide +kernel
theorem dL_law_275 : decode cL_law 275 = .ok (.aload_n 2, 1) := by decide +kernel
theorem dL_law_276 : decode cL_law 276 = .ok (.aload_n 0, 1) := by decide +kernel
theorem dL_law_277 : decode cL_law 277 = .ok (.iload 4, 2) := by decide +kernel
theorem dL_law_279 : decode cL_law 279 = .ok (.iconst 1, 1) := by decide +kernel
theorem dL_law_280 : decode cL_law 280 = .ok (.iadd, 1) := by decide +kernel
theorem dL_law_281 : decode cL_law 281 = .ok (.iaload, 1) := by decide +kernel
theorem dL_law_282 : decode cL_law 282 = .ok (.aload_n 0, 1) := by decide +kernel
theorem dL_law_283 : decode cL_law 283 = .ok (.iload 4, 2) := by decide +kernel
theorem dL_law_285 : decode cL_law 285 = .ok (.iconst 2, 1) := by decide +kernel
theorem dL_law_286 : decode cL_law 286 = .ok (.iadd, 1) := by decide +kernel
theorem dL_law_287 : decode cL_law 287 = .ok (.iaload, 1) := by decide +kernel
theorem dL_law_288 : decode cL_law 288 = .ok (.invokevirtual 61, 3) := by decide +kernel
theorem dL_law_291 : decode cL_law 291 = .ok (.istore 6, 2) := by decide +kernel
theorem dL_law_293 : decode cL_law 293 = .ok (.aload_n 2, 1) := by decide +kernel
theorem dL_law_294 : decode cL_law 294 = .ok (.invokevirtual 50, 3) := by decide +kernel
theorem dL_law_297 : decode cL_law 297 = .ok (.iload 5, 2) := by decide +kernel
theorem dL_law_299 : decode cL_law 299 = .ok (.if_icmp .eq 5, 3) := by decide +kernel
theorem dL_law_302 : decode cL_law 302 = .ok (.iconst 0, 1) := by decide +kernel
theorem dL_law_303 : decode cL_law 303 = .ok (.ireturn, 1) := by decide +kernel
theorem dL_law_304 : decode cL_law 304 = .ok (.iload 5, 2) := by decide +kernel
theorem dL_law_306 : decode cL_law 306 = .ok (.ifCond .ne 15, 3) := by decide +kernel
theorem dL_law_309 : decode cL_law 309 = .ok (.aload_n 3, 1) := by decide +kernel
theorem dL_law_310 : decode cL_law 310 = .ok (.iconst 0, 1) := by decide +kernel
theorem dL_law_311 : decode cL_law 311 = .ok (.laload, 1) := by decide +kernel
theorem dL_law_312 : decode cL_law 312 = .ok (.iload 6, 2) := by decide +kernel
theorem dL_law_314 : decode cL_law 314 = .ok (.i2l, 1) := by decide +kernel
theorem dL_law_315 : decode cL_law 315 = .ok (.lcmp, 1) := by decide +kernel
theorem dL_law_316 : decode cL_law 316 = .ok (.ifCond .eq 5, 3) := by decide +kernel
theorem dL_law_319 : decode cL_law 319 = .ok (.iconst 0, 1) := by decide +kernel
theorem dL_law_320 : decode cL_law 320 = .ok (.ireturn, 1) := by decide +kernel
theorem dL_law_321 : decode cL_law 321 = .ok (.goto 301, 3) := by decide +kernel
theorem dL_law_324 : decode cL_law 324 = .ok (.aload_n 1, 1) := by decide +kernel
theorem dL_law_325 : decode cL_law 325 = .ok (.aload_n 0, 1) := by decide +kernel
theorem dL_law_326 : decode cL_law 326 = .ok (.iload 4, 2) := by decide +kernel
theorem dL_law_328 : decode cL_law 328 = .ok (.iconst 1, 1) := by decide +kernel
theorem dL_law_329 : decode cL_law 329 = .ok (.iadd, 1) := by decide +kernel
theorem dL_law_330 : decode cL_law 330 = .ok (.iaload, 1) := by decide +kernel
theorem dL_law_331 : decode cL_law 331 = .ok (.aload_n 0, 1) := by decide +kernel
theorem dL_law_332 : decode cL_law 332 = .ok (.iload 4, 2) := by decide +kernel
theorem dL_law_334 : decode cL_law 334 = .ok (.iconst 2, 1) := by decide +kernel
theorem dL_law_335 : decode cL_law 335 = .ok (.iadd, 1) := by decide +kernel
theorem dL_law_336 : decode cL_law 336 = .ok (.iaload, 1) := by decide +kernel
theorem dL_law_337 : decode cL_law 337 = .ok (.aload_n 3, 1) := by decide +kernel
theorem dL_law_338 : decode cL_law 338 = .ok (.invokestatic 62, 3) := by decide +kernel
theorem dL_law_341 : decode cL_law 341 = .ok (.istore 5, 2) := by decide +kernel
theorem dL_law_343 : decode cL_law 343 = .ok (.aload_n 2, 1) := by decide +kernel
theorem dL_law_344 : decode cL_law 344 = .ok (.aload_n 0, 1) := by decide +kernel
theorem dL_law_345 : decode cL_law 345 = .ok (.iload 4, 2) := by decide +kernel
theorem dL_law_347 : decode cL_law 347 = .ok (.iconst 1, 1) := by decide +kernel
theorem dL_law_348 : decode cL_law 348 = .ok (.iadd, 1) := by decide +kernel
theorem dL_law_349 : decode cL_law 349 = .ok (.iaload, 1) := by decide +kernel
theorem dL_law_350 : decode cL_law 350 = .ok (.aload_n 0, 1) := by decide +kernel
theorem dL_law_351 : decode cL_law 351 = .ok (.iload 4, 2) := by decide +kernel
theorem dL_law_353 : decode cL_law 353 = .ok (.iconst 2, 1) := by decide +kernel
theorem dL_law_354 : decode cL_law 354 = .ok (.iadd, 1) := by decide +kernel
theorem dL_law_355 : decode cL_law 355 = .ok (.iaload, 1) := by decide +kernel
theorem dL_law_356 : decode cL_law 356 = .ok (.invokevirtual 64, 3) := by decide +kernel
theorem dL_law_359 : decode cL_law 359 = .ok (.istore 6, 2) := by decide +kernel
theorem dL_law_361 : decode cL_law 361 = .ok (.aload_n 2, 1) := by decide +kernel
theorem dL_law_362 : decode cL_law 362 = .ok (.invokevirtual 50, 3) := by decide +kernel
theorem dL_law_365 : decode cL_law 365 = .ok (.iload 5, 2) := by decide +kernel
theorem dL_law_367 : decode cL_law 367 = .ok (.if_icmp .eq 5, 3) := by decide +kernel
theorem dL_law_370 : decode cL_law 370 = .ok (.iconst 0, 1) := by decide +kernel
theorem dL_law_371 : decode cL_law 371 = .ok (.ireturn, 1) := by decide +kernel
theorem dL_law_372 : decode cL_law 372 = .ok (.iload 5, 2) := by decide +kernel
theorem dL_law_374 : decode cL_law 374 = .ok (.ifCond .ne 15, 3) := by decide +kernel
theorem dL_law_377 : decode cL_law 377 = .ok (.aload_n 3, 1) := by decide +kernel
theorem dL_law_378 : decode cL_law 378 = .ok (.iconst 0, 1) := by decide +kernel
theorem dL_law_379 : decode cL_law 379 = .ok (.laload, 1) := by decide +kernel
theorem dL_law_380 : decode cL_law 380 = .ok (.iload 6, 2) := by decide +kernel
theorem dL_law_382 : decode cL_law 382 = .ok (.i2l, 1) := by decide +kernel
theorem dL_law_383 : decode cL_law 383 = .ok (.lcmp, 1) := by decide +kernel
theorem dL_law_384 : decode cL_law 384 = .ok (.ifCond .eq 5, 3) := by decide +kernel
theorem dL_law_387 : decode cL_law 387 = .ok (.iconst 0, 1) := by decide +kernel
theorem dL_law_388 : decode cL_law 388 = .ok (.ireturn, 1) := by decide +kernel
theorem dL_law_389 : decode cL_law 389 = .ok (.goto 233, 3) := by decide +kernel
theorem dL_law_392 : decode cL_law 392 = .ok (.aload_n 1, 1) := by decide +kernel
theorem dL_law_393 : decode cL_law 393 = .ok (.aload_n 0, 1) := by decide +kernel
theorem dL_law_394 : decode cL_law 394 = .ok (.iload 4, 2) := by decide +kernel
theorem dL_law_396 : decode cL_law 396 = .ok (.iconst 1, 1) := by decide +kernel
theorem dL_law_397 : decode cL_law 397 = .ok (.iadd, 1) := by decide +kernel
theorem dL_law_398 : decode cL_law 398 = .ok (.iaload, 1) := by decide +kernel
theorem dL_law_399 : decode cL_law 399 = .ok (.aload_n 3, 1) := by decide +kernel
theorem dL_law_400 : decode cL_law 400 = .ok (.invokestatic 65, 3) := by decide +kernel
theorem dL_law_403 : decode cL_law 403 = .ok (.istore 5, 2) := by decide +kernel
theorem dL_law_405 : decode cL_law 405 = .ok (.aload_n 2, 1) := by decide +kernel
theorem dL_law_406 : decode cL_law 406 = .ok (.aload_n 0, 1) := by decide +kernel
theorem dL_law_407 : decode cL_law 407 = .ok (.iload 4, 2) := by decide +kernel
theorem dL_law_409 : decode cL_law 409 = .ok (.iconst 1, 1) := by decide +kernel
theorem dL_law_410 : decode cL_law 410 = .ok (.iadd, 1) := by decide +kernel
theorem dL_law_411 : decode cL_law 411 = .ok (.iaload, 1) := by decide +kernel
theorem dL_law_412 : decode cL_law 412 = .ok (.invokevirtual 68, 3) := by decide +kernel
theorem dL_law_415 : decode cL_law 415 = .ok (.istore 6, 2) := by decide +kernel
theorem dL_law_417 : decode cL_law 417 = .ok (.aload_n 2, 1) := by decide +kernel
theorem dL_law_418 : decode cL_law 418 = .ok (.invokevirtual 50, 3) := by decide +kernel
theorem dL_law_421 : decode cL_law 421 = .ok (.iload 5, 2) := by decide +kernel
theorem dL_law_423 : decode cL_law 423 = .ok (.if_icmp .eq 5, 3) := by decide +kernel
theorem dL_law_426 : decode cL_law 426 = .ok (.iconst 0, 1) := by decide +kernel
theorem dL_law_427 : decode cL_law 427 = .ok (.ireturn, 1) := by decide +kernel
theorem dL_law_428 : decode cL_law 428 = .ok (.iload 5, 2) := by decide +kernel
theorem dL_law_430 : decode cL_law 430 = .ok (.ifCond .ne 15, 3) := by decide +kernel
theorem dL_law_433 : decode cL_law 433 = .ok (.aload_n 3, 1) := by decide +kernel
theorem dL_law_434 : decode cL_law 434 = .ok (.iconst 0, 1) := by decide +kernel
theorem dL_law_435 : decode cL_law 435 = .ok (.laload, 1) := by decide +kernel
theorem dL_law_436 : decode cL_law 436 = .ok (.iload 6, 2) := by decide +kernel
theorem dL_law_438 : decode cL_law 438 = .ok (.i2l, 1) := by decide +kernel
theorem dL_law_439 : decode cL_law 439 = .ok (.lcmp, 1) := by decide +kernel
theorem dL_law_440 : decode cL_law 440 = .ok (.ifCond .eq 5, 3) := by decide +kernel
theorem dL_law_443 : decode cL_law 443 = .ok (.iconst 0, 1) := by decide +kernel
theorem dL_law_444 : decode cL_law 444 = .ok (.ireturn, 1) := by decide +kernel
theorem dL_law_445 : decode cL_law 445 = .ok (.goto 177, 3) := by decide +kernel
theorem dL_law_448 : decode cL_law 448 = .ok (.aload_n 1, 1) := by decide +kernel
theorem dL_law_449 : decode cL_law 449 = .ok (.invokevirtual 69, 3) := by decide +kernel
theorem dL_law_452 : decode cL_law 452 = .ok (.aload_n 2, 1) := by decide +kernel
theorem dL_law_453 : decode cL_law 453 = .ok (.invokevirtual 72, 3) := by decide +kernel
theorem dL_law_456 : decode cL_law 456 = .ok (.if_icmp .eq 166, 3) := by decide +kernel
theorem dL_law_459 : decode cL_law 459 = .ok (.iconst 0, 1) := by decide +kernel
theorem dL_law_460 : decode cL_law 460 = .ok (.ireturn, 1) := by decide +kernel
theorem dL_law_461 : decode cL_law 461 = .ok (.aload_n 1, 1) := by decide +kernel
theorem dL_law_462 : decode cL_law 462 = .ok (.aload_n 0, 1) := by decide +kernel
theorem dL_law_463 : decode cL_law 463 = .ok (.iload 4, 2) := by decide +kernel
theorem dL_law_465 : decode cL_law 465 = .ok (.iconst 1, 1) := by decide +kernel
theorem dL_law_466 : decode cL_law 466 = .ok (.iadd, 1) := by decide +kernel
theorem dL_law_467 : decode cL_law 467 = .ok (.iaload, 1) := by decide +kernel
theorem dL_law_468 : decode cL_law 468 = .ok (.aload_n 0, 1) := by decide +kernel
theorem dL_law_469 : decode cL_law 469 = .ok (.iload 4, 2) := by decide +kernel
theorem dL_law_471 : decode cL_law 471 = .ok (.iconst 2, 1) := by decide +kernel
theorem dL_law_472 : decode cL_law 472 = .ok (.iadd, 1) := by decide +kernel
theorem dL_law_473 : decode cL_law 473 = .ok (.iaload, 1) := by decide +kernel
theorem dL_law_474 : decode cL_law 474 = .ok (.aload_n 0, 1) := by decide +kernel
theorem dL_law_475 : decode cL_law 475 = .ok (.iload 4, 2) := by decide +kernel
theorem dL_law_477 : decode cL_law 477 = .ok (.iconst 3, 1) := by decide +kernel
theorem dL_law_478 : decode cL_law 478 = .ok (.iadd, 1) := by decide +kernel
theorem dL_law_479 : decode cL_law 479 = .ok (.iaload, 1) := by decide +kernel
theorem dL_law_480 : decode cL_law 480 = .ok (.aload_n 3, 1) := by decide +kernel
theorem dL_law_481 : decode cL_law 481 = .ok (.invokestatic 73, 3) := by decide +kernel
theorem dL_law_484 : decode cL_law 484 = .ok (.istore 5, 2) := by decide +kernel
theorem dL_law_486 : decode cL_law 486 = .ok (.aload_n 2, 1) := by decide +kernel
theorem dL_law_487 : decode cL_law 487 = .ok (.aload_n 0, 1) := by decide +kernel
theorem dL_law_488 : decode cL_law 488 = .ok (.iload 4, 2) := by decide +kernel
theorem dL_law_490 : decode cL_law 490 = .ok (.iconst 1, 1) := by decide +kernel
theorem dL_law_491 : decode cL_law 491 = .ok (.iadd, 1) := by decide +kernel
theorem dL_law_492 : decode cL_law 492 = .ok (.iaload, 1) := by decide +kernel
theorem dL_law_493 : decode cL_law 493 = .ok (.aload_n 0, 1) := by decide +kernel
theorem dL_law_494 : decode cL_law 494 = .ok (.iload 4, 2) := by decide +kernel
theorem dL_law_496 : decode cL_law 496 = .ok (.iconst 2, 1) := by decide +kernel
theorem dL_law_497 : decode cL_law 497 = .ok (.iadd, 1) := by decide +kernel
theorem dL_law_498 : decode cL_law 498 = .ok (.iaload, 1) := by decide +kernel
theorem dL_law_499 : decode cL_law 499 = .ok (.aload_n 0, 1) := by decide +kernel
theorem dL_law_500 : decode cL_law 500 = .ok (.iload 4, 2) := by decide +kernel
theorem dL_law_502 : decode cL_law 502 = .ok (.iconst 3, 1) := by decide +kernel
theorem dL_law_503 : decode cL_law 503 = .ok (.iadd, 1) := by decide +kernel
theorem dL_law_504 : decode cL_law 504 = .ok (.iaload, 1) := by decide +kernel
theorem dL_law_505 : decode cL_law 505 = .ok (.invokevirtual 75, 3) := by decide +kernel
theorem dL_law_508 : decode cL_law 508 = .ok (.istore 6, 2) := by decide +kernel
theorem dL_law_510 : decode cL_law 510 = .ok (.aload_n 2, 1) := by decide +kernel
theorem dL_law_511 : decode cL_law 511 = .ok (.invokevirtual 50, 3) := by decide +kernel
theorem dL_law_514 : decode cL_law 514 = .ok (.iload 5, 2) := by decide +kernel
theorem dL_law_516 : decode cL_law 516 = .ok (.if_icmp .eq 5, 3) := by decide +kernel
theorem dL_law_519 : decode cL_law 519 = .ok (.iconst 0, 1) := by decide +kernel
theorem dL_law_520 : decode cL_law 520 = .ok (.ireturn, 1) := by decide +kernel
theorem dL_law_521 : decode cL_law 521 = .ok (.iload 5, 2) := by decide +kernel
theorem dL_law_523 : decode cL_law 523 = .ok (.ifCond .ne 15, 3) := by decide +kernel
theorem dL_law_526 : decode cL_law 526 = .ok (.aload_n 3, 1) := by decide +kernel
theorem dL_law_527 : decode cL_law 527 = .ok (.iconst 0, 1) := by decide +kernel
theorem dL_law_528 : decode cL_law 528 = .ok (.laload, 1) := by decide +kernel
theorem dL_law_529 : decode cL_law 529 = .ok (.iload 6, 2) := by decide +kernel
theorem dL_law_531 : decode cL_law 531 = .ok (.i2l, 1) := by decide +kernel
theorem dL_law_532 : decode cL_law 532 = .ok (.lcmp, 1) := by decide +kernel
theorem dL_law_533 : decode cL_law 533 = .ok (.ifCond .eq 5, 3) := by decide +kernel
theorem dL_law_536 : decode cL_law 536 = .ok (.iconst 0, 1) := by decide +kernel
theorem dL_law_537 : decode cL_law 537 = .ok (.ireturn, 1) := by decide +kernel
theorem dL_law_538 : decode cL_law 538 = .ok (.goto 84, 3) := by decide +kernel
theorem dL_law_541 : decode cL_law 541 = .ok (.aload_n 1, 1) := by decide +kernel
theorem dL_law_542 : decode cL_law 542 = .ok (.aload_n 0, 1) := by decide +kernel
theorem dL_law_543 : decode cL_law 543 = .ok (.iload 4, 2) := by decide +kernel
theorem dL_law_545 : decode cL_law 545 = .ok (.iconst 1, 1) := by decide +kernel
theorem dL_law_546 : decode cL_law 546 = .ok (.iadd, 1) := by decide +kernel
theorem dL_law_547 : decode cL_law 547 = .ok (.iaload, 1) := by decide +kernel
theorem dL_law_548 : decode cL_law 548 = .ok (.aload_n 0, 1) := by decide +kernel
theorem dL_law_549 : decode cL_law 549 = .ok (.iload 4, 2) := by decide +kernel
theorem dL_law_551 : decode cL_law 551 = .ok (.iconst 2, 1) := by decide +kernel
theorem dL_law_552 : decode cL_law 552 = .ok (.iadd, 1) := by decide +kernel
theorem dL_law_553 : decode cL_law 553 = .ok (.iaload, 1) := by decide +kernel
theorem dL_law_554 : decode cL_law 554 = .ok (.aload_n 3, 1) := by decide +kernel
theorem dL_law_555 : decode cL_law 555 = .ok (.invokestatic 76, 3) := by decide +kernel
theorem dL_law_558 : decode cL_law 558 = .ok (.istore 5, 2) := by decide +kernel
theorem dL_law_560 : decode cL_law 560 = .ok (.aload_n 2, 1) := by decide +kernel
theorem dL_law_561 : decode cL_law 561 = .ok (.aload_n 0, 1) := by decide +kernel
theorem dL_law_562 : decode cL_law 562 = .ok (.iload 4, 2) := by decide +kernel
theorem dL_law_564 : decode cL_law 564 = .ok (.iconst 1, 1) := by decide +kernel
theorem dL_law_565 : decode cL_law 565 = .ok (.iadd, 1) := by decide +kernel
theorem dL_law_566 : decode cL_law 566 = .ok (.iaload, 1) := by decide +kernel
theorem dL_law_567 : decode cL_law 567 = .ok (.aload_n 0, 1) := by decide +kernel
theorem dL_law_568 : decode cL_law 568 = .ok (.iload 4, 2) := by decide +kernel
theorem dL_law_570 : decode cL_law 570 = .ok (.iconst 2, 1) := by decide +kernel
theorem dL_law_571 : decode cL_law 571 = .ok (.iadd, 1) := by decide +kernel
theorem dL_law_572 : decode cL_law 572 = .ok (.iaload, 1) := by decide +kernel
theorem dL_law_573 : decode cL_law 573 = .ok (.invokevirtual 78, 3) := by decide +kernel
theorem dL_law_576 : decode cL_law 576 = .ok (.istore 6, 2) := by decide +kernel
theorem dL_law_578 : decode cL_law 578 = .ok (.aload_n 2, 1) := by decide +kernel
theorem dL_law_579 : decode cL_law 579 = .ok (.invokevirtual 50, 3) := by decide +kernel
theorem dL_law_582 : decode cL_law 582 = .ok (.iload 5, 2) := by decide +kernel
theorem dL_law_584 : decode cL_law 584 = .ok (.if_icmp .eq 5, 3) := by decide +kernel
theorem dL_law_587 : decode cL_law 587 = .ok (.iconst 0, 1) := by decide +kernel
theorem dL_law_588 : decode cL_law 588 = .ok (.ireturn, 1) := by decide +kernel
theorem dL_law_589 : decode cL_law 589 = .ok (.iload 5, 2) := by decide +kernel
theorem dL_law_591 : decode cL_law 591 = .ok (.ifCond .ne 15, 3) := by decide +kernel
theorem dL_law_594 : decode cL_law 594 = .ok (.aload_n 3, 1) := by decide +kernel
theorem dL_law_595 : decode cL_law 595 = .ok (.iconst 0, 1) := by decide +kernel
theorem dL_law_596 : decode cL_law 596 = .ok (.laload, 1) := by decide +kernel
theorem dL_law_597 : decode cL_law 597 = .ok (.iload 6, 2) := by decide +kernel
theorem dL_law_599 : decode cL_law 599 = .ok (.i2l, 1) := by decide +kernel
theorem dL_law_600 : decode cL_law 600 = .ok (.lcmp, 1) := by decide +kernel
theorem dL_law_601 : decode cL_law 601 = .ok (.ifCond .eq 5, 3) := by decide +kernel
theorem dL_law_604 : decode cL_law 604 = .ok (.iconst 0, 1) := by decide +kernel
theorem dL_law_605 : decode cL_law 605 = .ok (.ireturn, 1) := by decide +kernel
theorem dL_law_606 : decode cL_law 606 = .ok (.goto 16, 3) := by decide +kernel
theorem dL_law_609 : decode cL_law 609 = .ok (.aload_n 1, 1) := by decide +kernel
theorem dL_law_610 : decode cL_law 610 = .ok (.invokevirtual 79, 3) := by decide +kernel
theorem dL_law_613 : decode cL_law 613 = .ok (.aload_n 2, 1) := by decide +kernel
theorem dL_law_614 : decode cL_law 614 = .ok (.invokevirtual 82, 3) := by decide +kernel
theorem dL_law_617 : decode cL_law 617 = .ok (.if_icmp .eq 5, 3) := by decide +kernel
theorem dL_law_620 : decode cL_law 620 = .ok (.iconst 0, 1) := by decide +kernel
theorem dL_law_621 : decode cL_law 621 = .ok (.ireturn, 1) := by decide +kernel
theorem dL_law_622 : decode cL_law 622 = .ok (.iinc 4 5, 3) := by decide +kernel
theorem dL_law_625 : decode cL_law 625 = .ok (.goto (-602), 3) := by decide +kernel
theorem dL_law_628 : decode cL_law 628 = .ok (.iconst 1, 1) := by decide +kernel
theorem dL_law_629 : decode cL_law 629 = .ok (.ireturn, 1) := by decide +kernel
end
section
/-- an index below a bound that the code has tested -/
theorem in_of {i M : Int32} {n : Nat} (hM : M.toInt = (n : Int)) (h1 : ¬ i < 0) (h2 : ¬ M ≤ i) : vp_in i n := by
  rw [vp_in_iff]
  rw [Int32.lt_iff_toInt_lt, Int32.toInt_zero] at h1
  rw [Int32.le_iff_toInt_le, hM] at h2
  omega
theorem ne_toInt {x k : Int32} (h : ¬ x = k) : x.toInt ≠ k.toInt := fun e => h (Int32.toInt_inj.mp e)
theorem nb_of {x : Int32} (h : x = 0 ∨ x = 1) : narrow .boolean (.int x) = .int x := by
  rcases h with h | h <;> rw [h] <;> rfl
theorem fb_of {x : Int32} (h : x = 0 ∨ x = 1) : fits .boolean (.int x) = true := by
  rcases h with h | h <;> rw [h] <;> rfl
theorem in_lt {i M : Int32} {n : Nat} (hM : M.toInt = (n : Int)) (h1 : ¬ i < 0) (h2 : i < M) : vp_in i n := by
  rw [vp_in_iff]
  rw [Int32.lt_iff_toInt_lt, Int32.toInt_zero] at h1
  rw [Int32.lt_iff_toInt_lt, hM] at h2
  omega
theorem tab_out0_2 {x : Int32} (h0 : ¬ x = 0) (h1 : ¬ x = 1) (h2 : ¬ x = 2) : x.toInt < 0 ∨ (2 : Int) < x.toInt := by
  have a0 : x.toInt ≠ 0 := fun e => h0 (Int32.toInt_inj.mp (e.trans (by decide)))
  have a1 : x.toInt ≠ 1 := fun e => h1 (Int32.toInt_inj.mp (e.trans (by decide)))
  have a2 : x.toInt ≠ 2 := fun e => h2 (Int32.toInt_inj.mp (e.trans (by decide)))
  omega
theorem tab_out0_3 {x : Int32} (h0 : ¬ x = 0) (h1 : ¬ x = 1) (h2 : ¬ x = 2) (h3 : ¬ x = 3) : x.toInt < 0 ∨ (3 : Int) < x.toInt := by
  have a0 : x.toInt ≠ 0 := fun e => h0 (Int32.toInt_inj.mp (e.trans (by decide)))
  have a1 : x.toInt ≠ 1 := fun e => h1 (Int32.toInt_inj.mp (e.trans (by decide)))
  have a2 : x.toInt ≠ 2 := fun e => h2 (Int32.toInt_inj.mp (e.trans (by decide)))
  have a3 : x.toInt ≠ 3 := fun e => h3 (Int32.toInt_inj.mp (e.trans (by decide)))
  omega
theorem tab_out0_8 {x : Int32} (h0 : ¬ x = 0) (h1 : ¬ x = 1) (h2 : ¬ x = 2) (h3 : ¬ x = 3) (h4 : ¬ x = 4) (h5 : ¬ x = 5) (h6 : ¬ x = 6) (h7 : ¬ x = 7) (h8 : ¬ x = 8) : x.toInt < 0 ∨ (8 : Int) < x.toInt := by
  have a0 : x.toInt ≠ 0 := fun e => h0 (Int32.toInt_inj.mp (e.trans (by decide)))
  have a1 : x.toInt ≠ 1 := fun e => h1 (Int32.toInt_inj.mp (e.trans (by decide)))
  have a2 : x.toInt ≠ 2 := fun e => h2 (Int32.toInt_inj.mp (e.trans (by decide)))
  have a3 : x.toInt ≠ 3 := fun e => h3 (Int32.toInt_inj.mp (e.trans (by decide)))
  have a4 : x.toInt ≠ 4 := fun e => h4 (Int32.toInt_inj.mp (e.trans (by decide)))
  have a5 : x.toInt ≠ 5 := fun e => h5 (Int32.toInt_inj.mp (e.trans (by decide)))
  have a6 : x.toInt ≠ 6 := fun e => h6 (Int32.toInt_inj.mp (e.trans (by decide)))
  have a7 : x.toInt ≠ 7 := fun e => h7 (Int32.toInt_inj.mp (e.trans (by decide)))
  have a8 : x.toInt ≠ 8 := fun e => h8 (Int32.toInt_inj.mp (e.trans (by decide)))
  omega
end
section
abbrev xWS : Type := (Nat → Int32) × (Nat → Int32) × (Nat → Int32) × Int32 × Int32 × Int32 × Int32 × Int32 × Int32 × Int32 × Int32 × Int32 × Int32 × Int32
abbrev xW (xh0 xh1 xh2 xh3 : Nat) (xc1 xc2 xc3 : ClassId) (xk1 xk2 xk3 : Nat → Int32) (xf3 xf4 xf5 xf6 xf7 xf8 xf9 xf10 xf11 xf12 xf13 : Int32) : va_W := [(xh0, .inr (0, [.ref xh1, .ref xh2, .ref xh3, .int xf3, .int xf4, .int xf5, .int xf6, .int xf7, .int xf8, .int xf9, .int xf10, .int xf11, .int xf12, .int xf13])), (xh1, .inl (xc1, 60, .inl xk1)), (xh2, .inl (xc2, 60, .inl xk2)), (xh3, .inl (xc3, 60, .inl xk3))]
abbrev xWU (xh0 xh1 xh2 xh3 : Nat) (xc1 xc2 xc3 : ClassId) (u : xWS) : va_W := xW xh0 xh1 xh2 xh3 xc1 xc2 xc3 u.1 u.2.1 u.2.2.1 u.2.2.2.1 u.2.2.2.2.1 u.2.2.2.2.2.1 u.2.2.2.2.2.2.1 u.2.2.2.2.2.2.2.1 u.2.2.2.2.2.2.2.2.1 u.2.2.2.2.2.2.2.2.2.1 u.2.2.2.2.2.2.2.2.2.2.1 u.2.2.2.2.2.2.2.2.2.2.2.1 u.2.2.2.2.2.2.2.2.2.2.2.2.1 u.2.2.2.2.2.2.2.2.2.2.2.2.2
abbrev xWB (dC : Nat → ClassId) (dI : Nat → Nat → Nat) (A : Nat → Prop) (xh0 xh1 xh2 xh3 : Nat) (xc1 xc2 xc3 : ClassId) (u : xWS) (t : State) : Prop := va_P (dC, dI) vwCl (xWU xh0 xh1 xh2 xh3 xc1 xc2 xc3 u) t.heap ∧ va_K (dC, dI) vwCl [(xc1, .int), (xc2, .int), (xc3, .int)] t ∧ va_D A (xWU xh0 xh1 xh2 xh3 xc1 xc2 xc3 u)
abbrev mWS : Type := (Nat → Int32) × (Nat → Int32) × (Nat → Int32) × Int32 × Int32 × Int32 × Int32 × Int32 × Int32 × Int32 × Int32 × Int32 × Int32
abbrev mW (mh0 mh1 mh2 mh3 : Nat) (mc1 mc2 mc3 : ClassId) (mk1 mk2 mk3 : Nat → Int32) (mf0 mf1 mf2 mf3 mf4 mf5 mf6 mf7 mf8 mf9 : Int32) : va_W := [(mh0, .inr (1, [.int mf0, .int mf1, .int mf2, .int mf3, .int mf4, .int mf5, .int mf6, .int mf7, .int mf8, .int mf9, .ref mh1, .ref mh2, .ref mh3])), (mh1, .inl (mc1, 60, .inl mk1)), (mh2, .inl (mc2, 60, .inl mk2)), (mh3, .inl (mc3, 60, .inl mk3))]
abbrev mWU (mh0 mh1 mh2 mh3 : Nat) (mc1 mc2 mc3 : ClassId) (u : mWS) : va_W := mW mh0 mh1 mh2 mh3 mc1 mc2 mc3 u.1 u.2.1 u.2.2.1 u.2.2.2.1 u.2.2.2.2.1 u.2.2.2.2.2.1 u.2.2.2.2.2.2.1 u.2.2.2.2.2.2.2.1 u.2.2.2.2.2.2.2.2.1 u.2.2.2.2.2.2.2.2.2.1 u.2.2.2.2.2.2.2.2.2.2.1 u.2.2.2.2.2.2.2.2.2.2.2.1 u.2.2.2.2.2.2.2.2.2.2.2.2
abbrev mWB (dC : Nat → ClassId) (dI : Nat → Nat → Nat) (A : Nat → Prop) (mh0 mh1 mh2 mh3 : Nat) (mc1 mc2 mc3 : ClassId) (u : mWS) (t : State) : Prop := va_P (dC, dI) vwCl (mWU mh0 mh1 mh2 mh3 mc1 mc2 mc3 u) t.heap ∧ va_K (dC, dI) vwCl [(mc1, .int), (mc2, .int), (mc3, .int)] t ∧ va_D A (mWU mh0 mh1 mh2 mh3 mc1 mc2 mc3 u)
end
section
def fX0_fill (p0 p1 : Int32) : Int32 :=
  (((p0 + p1) - 1) &&& (-p1))

abbrev wsX0_fill : List Cond := .code yX0_fill cX0_fill 2 (some .int) :: wG
set_option maxHeartbeats 4000000 in
set_option maxRecDepth 100000 in
theorem mX0_fill (l : Launch) (p0 p1 : Int32)  : Met l yX0_fill wsX0_fill ({ frames := 0, cells := 0, slots := 0, locals := 0 }) (va_Pc [.int p0, .int p1] (fun _ => True)) (vp_Si (fun r => r = fX0_fill p0 p1)) 0 0 (fun _ => False) := by
  refine Met.ofW (cc := cX0_fill) (maxL := 2) (ret := (some .int)) (by decide) rfl ?_
  intro p e s m args below meth c s₁ B hml hv
  obtain ⟨rfl, -⟩ := hv
  have hx := B.exec
  have hb := B.bytes
  have hr := B.returns
  have hts := atoms_spec (ws := wsX0_fill) B.pre
  have htG := fun (w : Cond) (h : w ∈ wG) => hts w (List.mem_cons_of_mem _ h)
  have hown : s.vm.findClass RX0 = some m.cls := findClass_of_methodNamed B.named
  have hlocks := B.notSynchronized
  have hl := lv_entry ([.int p0, .int p1]) (n := 2) (Nat.le_of_ble_eq_true rfl)
  rw [lg_entry_eq]
  generalize (lg_sl ([.int p0, .int p1]) ++ List.replicate (2 - (lg_sl ([.int p0, .int p1])).length) Slot.unset).toArray = ls at hl ⊢
  have hl : lv_has ls 2 [(0, .int p0), (1, .int p1)] := hl
  refine lv_iload_n hx hb dX0_fill_0 rfl (lv_at hl 0 rfl) ?_
  refine lv_iload_n hx hb dX0_fill_1 rfl (lv_at hl 1 rfl) ?_
  refine lv_iadd hx hb dX0_fill_2 ?_
  refine lv_iconst (v := 1) hx hb dX0_fill_3 (by decide) ?_
  refine lv_isub hx hb dX0_fill_4 ?_
  refine lv_iload_n hx hb dX0_fill_5 rfl (lv_at hl 1 rfl) ?_
  refine lv_ineg hx hb dX0_fill_6 ?_
  refine lv_iand hx hb dX0_fill_7 ?_
  exact W.iret (v := (((p0 + p1) - 1) &&& (-p1))) hx hb hr (fun t ht hW => ⟨(((p0 + p1) - 1) &&& (-p1)), rfl, (by rw [fX0_fill]), ht⟩) (fun q h => nomatch h) dX0_fill_8

def fX0_isRecord (p0 p1 : Int32) : Int32 :=
  if p1 = 1 then (if p0 < 1 then 0
    else if 65536 < p0 then 0
      else if (fX0_fill p0 p1) = p0 then 1
        else 0)
  else if p1 = 2 then (if p0 < 1 then 0
      else if 65536 < p0 then 0
        else if (fX0_fill p0 p1) = p0 then 1
          else 0)
    else if p1 = 4 then (if p0 < 1 then 0
        else if 65536 < p0 then 0
          else if (fX0_fill p0 p1) = p0 then 1
            else 0)
      else if p1 = 8 then (if p0 < 1 then 0
          else if 65536 < p0 then 0
            else if (fX0_fill p0 p1) = p0 then 1
              else 0)
        else 0
theorem bbX0_isRecord {p0 p1 : Int32} : fX0_isRecord p0 p1 = 0 ∨ fX0_isRecord p0 p1 = 1 := by
  unfold fX0_isRecord
  repeat' split
  all_goals first | exact Or.inl rfl | exact Or.inr rfl
theorem nbX0_isRecord {p0 p1 : Int32} : narrow .boolean (.int (fX0_isRecord p0 p1)) = .int (fX0_isRecord p0 p1) := nb_of bbX0_isRecord

abbrev wsX0_isRecord : List Cond := .code yX0_isRecord cX0_isRecord 2 (some .boolean) :: wG
set_option maxHeartbeats 4000000 in
set_option maxRecDepth 100000 in
theorem mX0_isRecord (l : Launch) (p0 p1 : Int32)  : Met l yX0_isRecord wsX0_isRecord ({ frames := 1, cells := 0, slots := 0, locals := 21 }) (va_Pc [.int p0, .int p1] (fun _ => True)) (vp_Si (fun r => r = fX0_isRecord p0 p1)) 0 0 (fun _ => False) := by
  refine Met.ofW (cc := cX0_isRecord) (maxL := 2) (ret := (some .boolean)) (by decide) rfl ?_
  intro p e s m args below meth c s₁ B hml hv
  obtain ⟨rfl, -⟩ := hv
  have hx := B.exec
  have hb := B.bytes
  have hr := B.returns
  have hts := atoms_spec (ws := wsX0_isRecord) B.pre
  have htG := fun (w : Cond) (h : w ∈ wG) => hts w (List.mem_cons_of_mem _ h)
  have hown : s.vm.findClass RX0 = some m.cls := findClass_of_methodNamed B.named
  have hlocks := B.notSynchronized
  have hl := lv_entry ([.int p0, .int p1]) (n := 2) (Nat.le_of_ble_eq_true rfl)
  rw [lg_entry_eq]
  generalize (lg_sl ([.int p0, .int p1]) ++ List.replicate (2 - (lg_sl ([.int p0, .int p1])).length) Slot.unset).toArray = ls at hl ⊢
  have hl : lv_has ls 2 [(0, .int p0), (1, .int p1)] := hl
  refine lv_iload_n hx hb dX0_isRecord_0 rfl (lv_at hl 1 rfl) ?_
  refine lv_iconst (v := 1) hx hb dX0_isRecord_1 (by decide) ?_
  refine lv_icmp_eq (tgt := 23) hx hb dX0_isRecord_2 (by decide) (fun c_1 => ?_) (fun c_1 => ?_)
  · refine lv_iload_n hx hb dX0_isRecord_23 rfl (lv_at hl 0 rfl) ?_
    refine lv_iconst (v := 1) hx hb dX0_isRecord_24 (by decide) ?_
    refine lv_icmp_lt (tgt := 47) hx hb dX0_isRecord_25 (by decide) (fun c_2 => ?_) (fun c_2 => ?_)
    · refine lv_iconst (v := 0) hx hb dX0_isRecord_47 (by decide) ?_
      exact W.zret (v := 0) hx hb hr rfl (fun t ht hW => ⟨0, rfl, (by rw [fX0_isRecord, if_pos c_1, if_pos c_2]), ht⟩) (fun q h => nomatch h) dX0_isRecord_48
    · refine lv_iload_n hx hb dX0_isRecord_28 rfl (lv_at hl 0 rfl) ?_
      refine lv_ldc (v := 65536) hx hb hown (htG _ wd_181) dX0_isRecord_29 ?_
      refine lv_icmp_gt (tgt := 47) hx hb dX0_isRecord_31 (by decide) (fun c_3 => ?_) (fun c_3 => ?_)
      · refine lv_iconst (v := 0) hx hb dX0_isRecord_47 (by decide) ?_
        exact W.zret (v := 0) hx hb hr rfl (fun t ht hW => ⟨0, rfl, (by rw [fX0_isRecord, if_pos c_1, if_neg c_2, if_pos c_3]), ht⟩) (fun q h => nomatch h) dX0_isRecord_48
      · refine lv_iload_n hx hb dX0_isRecord_34 rfl (lv_at hl 0 rfl) ?_
        refine lv_iload_n hx hb dX0_isRecord_35 rfl (lv_at hl 1 rfl) ?_
        refine vp_callSi (va_runS (As := [.int p0, .int p1]) (rest := []) ⟨hx, hb, hml, hown, htG⟩ (mX0_fill l p0 p1) (va_cwS 2 htG (wG_S wd_92 wd_93 wd_22 wd_94) rfl rfl rfl (by decide +kernel) ⟨Nat.le_of_ble_eq_true rfl, Nat.le_of_ble_eq_true rfl⟩) ⟨fun _ _ _ _ q => q, fun U hU hW => ⟨rfl, trivial⟩⟩ rfl rfl hl.1 rfl (lv_room (Nat.le_of_ble_eq_true rfl)) dX0_isRecord_36 ⟨Nat.le_of_ble_eq_true rfl, Nat.le_of_ble_eq_true rfl⟩).run (fun r_1 er_1 => ?_)
        subst er_1
        refine lv_iload_n hx hb dX0_isRecord_39 rfl (lv_at hl 0 rfl) ?_
        refine lv_icmp_ne (tgt := 47) hx hb dX0_isRecord_40 (by decide) (fun c_4 => ?_) (fun c_4 => ?_)
        · refine lv_iconst (v := 0) hx hb dX0_isRecord_47 (by decide) ?_
          exact W.zret (v := 0) hx hb hr rfl (fun t ht hW => ⟨0, rfl, (by rw [fX0_isRecord, if_pos c_1, if_neg c_2, if_neg c_3, if_neg c_4]), ht⟩) (fun q h => nomatch h) dX0_isRecord_48
        · refine lv_iconst (v := 1) hx hb dX0_isRecord_43 (by decide) ?_
          refine lv_goto (tgt := 48) hx hb dX0_isRecord_44 (by decide) ?_
          exact W.zret (v := 1) hx hb hr rfl (fun t ht hW => ⟨1, rfl, (by rw [fX0_isRecord, if_pos c_1, if_neg c_2, if_neg c_3, if_pos c_4]), ht⟩) (fun q h => nomatch h) dX0_isRecord_48
  · refine lv_iload_n hx hb dX0_isRecord_5 rfl (lv_at hl 1 rfl) ?_
    refine lv_iconst (v := 2) hx hb dX0_isRecord_6 (by decide) ?_
    refine lv_icmp_eq (tgt := 23) hx hb dX0_isRecord_7 (by decide) (fun c_5 => ?_) (fun c_5 => ?_)
    · refine lv_iload_n hx hb dX0_isRecord_23 rfl (lv_at hl 0 rfl) ?_
      refine lv_iconst (v := 1) hx hb dX0_isRecord_24 (by decide) ?_
      refine lv_icmp_lt (tgt := 47) hx hb dX0_isRecord_25 (by decide) (fun c_6 => ?_) (fun c_6 => ?_)
      · refine lv_iconst (v := 0) hx hb dX0_isRecord_47 (by decide) ?_
        exact W.zret (v := 0) hx hb hr rfl (fun t ht hW => ⟨0, rfl, (by rw [fX0_isRecord, if_neg c_1, if_pos c_5, if_pos c_6]), ht⟩) (fun q h => nomatch h) dX0_isRecord_48
      · refine lv_iload_n hx hb dX0_isRecord_28 rfl (lv_at hl 0 rfl) ?_
        refine lv_ldc (v := 65536) hx hb hown (htG _ wd_181) dX0_isRecord_29 ?_
        refine lv_icmp_gt (tgt := 47) hx hb dX0_isRecord_31 (by decide) (fun c_7 => ?_) (fun c_7 => ?_)
        · refine lv_iconst (v := 0) hx hb dX0_isRecord_47 (by decide) ?_
          exact W.zret (v := 0) hx hb hr rfl (fun t ht hW => ⟨0, rfl, (by rw [fX0_isRecord, if_neg c_1, if_pos c_5, if_neg c_6, if_pos c_7]), ht⟩) (fun q h => nomatch h) dX0_isRecord_48
        · refine lv_iload_n hx hb dX0_isRecord_34 rfl (lv_at hl 0 rfl) ?_
          refine lv_iload_n hx hb dX0_isRecord_35 rfl (lv_at hl 1 rfl) ?_
          refine vp_callSi (va_runS (As := [.int p0, .int p1]) (rest := []) ⟨hx, hb, hml, hown, htG⟩ (mX0_fill l p0 p1) (va_cwS 2 htG (wG_S wd_92 wd_93 wd_22 wd_94) rfl rfl rfl (by decide +kernel) ⟨Nat.le_of_ble_eq_true rfl, Nat.le_of_ble_eq_true rfl⟩) ⟨fun _ _ _ _ q => q, fun U hU hW => ⟨rfl, trivial⟩⟩ rfl rfl hl.1 rfl (lv_room (Nat.le_of_ble_eq_true rfl)) dX0_isRecord_36 ⟨Nat.le_of_ble_eq_true rfl, Nat.le_of_ble_eq_true rfl⟩).run (fun r_2 er_2 => ?_)
          subst er_2
          refine lv_iload_n hx hb dX0_isRecord_39 rfl (lv_at hl 0 rfl) ?_
          refine lv_icmp_ne (tgt := 47) hx hb dX0_isRecord_40 (by decide) (fun c_8 => ?_) (fun c_8 => ?_)
          · refine lv_iconst (v := 0) hx hb dX0_isRecord_47 (by decide) ?_
            exact W.zret (v := 0) hx hb hr rfl (fun t ht hW => ⟨0, rfl, (by rw [fX0_isRecord, if_neg c_1, if_pos c_5, if_neg c_6, if_neg c_7, if_neg c_8]), ht⟩) (fun q h => nomatch h) dX0_isRecord_48
          · refine lv_iconst (v := 1) hx hb dX0_isRecord_43 (by decide) ?_
            refine lv_goto (tgt := 48) hx hb dX0_isRecord_44 (by decide) ?_
            exact W.zret (v := 1) hx hb hr rfl (fun t ht hW => ⟨1, rfl, (by rw [fX0_isRecord, if_neg c_1, if_pos c_5, if_neg c_6, if_neg c_7, if_pos c_8]), ht⟩) (fun q h => nomatch h) dX0_isRecord_48
    · refine lv_iload_n hx hb dX0_isRecord_10 rfl (lv_at hl 1 rfl) ?_
      refine lv_iconst (v := 4) hx hb dX0_isRecord_11 (by decide) ?_
      refine lv_icmp_eq (tgt := 23) hx hb dX0_isRecord_12 (by decide) (fun c_9 => ?_) (fun c_9 => ?_)
      · refine lv_iload_n hx hb dX0_isRecord_23 rfl (lv_at hl 0 rfl) ?_
        refine lv_iconst (v := 1) hx hb dX0_isRecord_24 (by decide) ?_
        refine lv_icmp_lt (tgt := 47) hx hb dX0_isRecord_25 (by decide) (fun c_10 => ?_) (fun c_10 => ?_)
        · refine lv_iconst (v := 0) hx hb dX0_isRecord_47 (by decide) ?_
          exact W.zret (v := 0) hx hb hr rfl (fun t ht hW => ⟨0, rfl, (by rw [fX0_isRecord, if_neg c_1, if_neg c_5, if_pos c_9, if_pos c_10]), ht⟩) (fun q h => nomatch h) dX0_isRecord_48
        · refine lv_iload_n hx hb dX0_isRecord_28 rfl (lv_at hl 0 rfl) ?_
          refine lv_ldc (v := 65536) hx hb hown (htG _ wd_181) dX0_isRecord_29 ?_
          refine lv_icmp_gt (tgt := 47) hx hb dX0_isRecord_31 (by decide) (fun c_11 => ?_) (fun c_11 => ?_)
          · refine lv_iconst (v := 0) hx hb dX0_isRecord_47 (by decide) ?_
            exact W.zret (v := 0) hx hb hr rfl (fun t ht hW => ⟨0, rfl, (by rw [fX0_isRecord, if_neg c_1, if_neg c_5, if_pos c_9, if_neg c_10, if_pos c_11]), ht⟩) (fun q h => nomatch h) dX0_isRecord_48
          · refine lv_iload_n hx hb dX0_isRecord_34 rfl (lv_at hl 0 rfl) ?_
            refine lv_iload_n hx hb dX0_isRecord_35 rfl (lv_at hl 1 rfl) ?_
            refine vp_callSi (va_runS (As := [.int p0, .int p1]) (rest := []) ⟨hx, hb, hml, hown, htG⟩ (mX0_fill l p0 p1) (va_cwS 2 htG (wG_S wd_92 wd_93 wd_22 wd_94) rfl rfl rfl (by decide +kernel) ⟨Nat.le_of_ble_eq_true rfl, Nat.le_of_ble_eq_true rfl⟩) ⟨fun _ _ _ _ q => q, fun U hU hW => ⟨rfl, trivial⟩⟩ rfl rfl hl.1 rfl (lv_room (Nat.le_of_ble_eq_true rfl)) dX0_isRecord_36 ⟨Nat.le_of_ble_eq_true rfl, Nat.le_of_ble_eq_true rfl⟩).run (fun r_3 er_3 => ?_)
            subst er_3
            refine lv_iload_n hx hb dX0_isRecord_39 rfl (lv_at hl 0 rfl) ?_
            refine lv_icmp_ne (tgt := 47) hx hb dX0_isRecord_40 (by decide) (fun c_12 => ?_) (fun c_12 => ?_)
            · refine lv_iconst (v := 0) hx hb dX0_isRecord_47 (by decide) ?_
              exact W.zret (v := 0) hx hb hr rfl (fun t ht hW => ⟨0, rfl, (by rw [fX0_isRecord, if_neg c_1, if_neg c_5, if_pos c_9, if_neg c_10, if_neg c_11, if_neg c_12]), ht⟩) (fun q h => nomatch h) dX0_isRecord_48
            · refine lv_iconst (v := 1) hx hb dX0_isRecord_43 (by decide) ?_
              refine lv_goto (tgt := 48) hx hb dX0_isRecord_44 (by decide) ?_
              exact W.zret (v := 1) hx hb hr rfl (fun t ht hW => ⟨1, rfl, (by rw [fX0_isRecord, if_neg c_1, if_neg c_5, if_pos c_9, if_neg c_10, if_neg c_11, if_pos c_12]), ht⟩) (fun q h => nomatch h) dX0_isRecord_48
      · refine lv_iload_n hx hb dX0_isRecord_15 rfl (lv_at hl 1 rfl) ?_
        refine lv_bipush (v := 8) hx hb dX0_isRecord_16 (by decide) ?_
        refine lv_icmp_eq (tgt := 23) hx hb dX0_isRecord_18 (by decide) (fun c_13 => ?_) (fun c_13 => ?_)
        · refine lv_iload_n hx hb dX0_isRecord_23 rfl (lv_at hl 0 rfl) ?_
          refine lv_iconst (v := 1) hx hb dX0_isRecord_24 (by decide) ?_
          refine lv_icmp_lt (tgt := 47) hx hb dX0_isRecord_25 (by decide) (fun c_14 => ?_) (fun c_14 => ?_)
          · refine lv_iconst (v := 0) hx hb dX0_isRecord_47 (by decide) ?_
            exact W.zret (v := 0) hx hb hr rfl (fun t ht hW => ⟨0, rfl, (by rw [fX0_isRecord, if_neg c_1, if_neg c_5, if_neg c_9, if_pos c_13, if_pos c_14]), ht⟩) (fun q h => nomatch h) dX0_isRecord_48
          · refine lv_iload_n hx hb dX0_isRecord_28 rfl (lv_at hl 0 rfl) ?_
            refine lv_ldc (v := 65536) hx hb hown (htG _ wd_181) dX0_isRecord_29 ?_
            refine lv_icmp_gt (tgt := 47) hx hb dX0_isRecord_31 (by decide) (fun c_15 => ?_) (fun c_15 => ?_)
            · refine lv_iconst (v := 0) hx hb dX0_isRecord_47 (by decide) ?_
              exact W.zret (v := 0) hx hb hr rfl (fun t ht hW => ⟨0, rfl, (by rw [fX0_isRecord, if_neg c_1, if_neg c_5, if_neg c_9, if_pos c_13, if_neg c_14, if_pos c_15]), ht⟩) (fun q h => nomatch h) dX0_isRecord_48
            · refine lv_iload_n hx hb dX0_isRecord_34 rfl (lv_at hl 0 rfl) ?_
              refine lv_iload_n hx hb dX0_isRecord_35 rfl (lv_at hl 1 rfl) ?_
              refine vp_callSi (va_runS (As := [.int p0, .int p1]) (rest := []) ⟨hx, hb, hml, hown, htG⟩ (mX0_fill l p0 p1) (va_cwS 2 htG (wG_S wd_92 wd_93 wd_22 wd_94) rfl rfl rfl (by decide +kernel) ⟨Nat.le_of_ble_eq_true rfl, Nat.le_of_ble_eq_true rfl⟩) ⟨fun _ _ _ _ q => q, fun U hU hW => ⟨rfl, trivial⟩⟩ rfl rfl hl.1 rfl (lv_room (Nat.le_of_ble_eq_true rfl)) dX0_isRecord_36 ⟨Nat.le_of_ble_eq_true rfl, Nat.le_of_ble_eq_true rfl⟩).run (fun r_4 er_4 => ?_)
              subst er_4
              refine lv_iload_n hx hb dX0_isRecord_39 rfl (lv_at hl 0 rfl) ?_
              refine lv_icmp_ne (tgt := 47) hx hb dX0_isRecord_40 (by decide) (fun c_16 => ?_) (fun c_16 => ?_)
              · refine lv_iconst (v := 0) hx hb dX0_isRecord_47 (by decide) ?_
                exact W.zret (v := 0) hx hb hr rfl (fun t ht hW => ⟨0, rfl, (by rw [fX0_isRecord, if_neg c_1, if_neg c_5, if_neg c_9, if_pos c_13, if_neg c_14, if_neg c_15, if_neg c_16]), ht⟩) (fun q h => nomatch h) dX0_isRecord_48
              · refine lv_iconst (v := 1) hx hb dX0_isRecord_43 (by decide) ?_
                refine lv_goto (tgt := 48) hx hb dX0_isRecord_44 (by decide) ?_
                exact W.zret (v := 1) hx hb hr rfl (fun t ht hW => ⟨1, rfl, (by rw [fX0_isRecord, if_neg c_1, if_neg c_5, if_neg c_9, if_pos c_13, if_neg c_14, if_neg c_15, if_pos c_16]), ht⟩) (fun q h => nomatch h) dX0_isRecord_48
        · refine lv_iconst (v := 0) hx hb dX0_isRecord_21 (by decide) ?_
          exact W.zret (v := 0) hx hb hr rfl (fun t ht hW => ⟨0, rfl, (by rw [fX0_isRecord, if_neg c_1, if_neg c_5, if_neg c_9, if_neg c_13]), ht⟩) (fun q h => nomatch h) dX0_isRecord_22

def fX0_bytesOf (p0 p1 : Int32) : Int32 :=
  if p0 = 3 then p1
  else if p0 = 2 then 8
    else 4

abbrev wsX0_bytesOf : List Cond := .code yX0_bytesOf cX0_bytesOf 2 (some .int) :: wG
set_option maxHeartbeats 4000000 in
set_option maxRecDepth 100000 in
theorem mX0_bytesOf (l : Launch) (p0 p1 : Int32)  : Met l yX0_bytesOf wsX0_bytesOf ({ frames := 0, cells := 0, slots := 0, locals := 0 }) (va_Pc [.int p0, .int p1] (fun _ => True)) (vp_Si (fun r => r = fX0_bytesOf p0 p1)) 0 0 (fun _ => False) := by
  refine Met.ofW (cc := cX0_bytesOf) (maxL := 2) (ret := (some .int)) (by decide) rfl ?_
  intro p e s m args below meth c s₁ B hml hv
  obtain ⟨rfl, -⟩ := hv
  have hx := B.exec
  have hb := B.bytes
  have hr := B.returns
  have hts := atoms_spec (ws := wsX0_bytesOf) B.pre
  have htG := fun (w : Cond) (h : w ∈ wG) => hts w (List.mem_cons_of_mem _ h)
  have hown : s.vm.findClass RX0 = some m.cls := findClass_of_methodNamed B.named
  have hlocks := B.notSynchronized
  have hl := lv_entry ([.int p0, .int p1]) (n := 2) (Nat.le_of_ble_eq_true rfl)
  rw [lg_entry_eq]
  generalize (lg_sl ([.int p0, .int p1]) ++ List.replicate (2 - (lg_sl ([.int p0, .int p1])).length) Slot.unset).toArray = ls at hl ⊢
  have hl : lv_has ls 2 [(0, .int p0), (1, .int p1)] := hl
  refine lv_iload_n hx hb dX0_bytesOf_0 rfl (lv_at hl 0 rfl) ?_
  refine lv_iconst (v := 3) hx hb dX0_bytesOf_1 (by decide) ?_
  refine lv_icmp_ne (tgt := 7) hx hb dX0_bytesOf_2 (by decide) (fun c_1 => ?_) (fun c_1 => ?_)
  · refine lv_iload_n hx hb dX0_bytesOf_7 rfl (lv_at hl 0 rfl) ?_
    refine lv_iconst (v := 2) hx hb dX0_bytesOf_8 (by decide) ?_
    refine lv_icmp_ne (tgt := 17) hx hb dX0_bytesOf_9 (by decide) (fun c_2 => ?_) (fun c_2 => ?_)
    · refine lv_iconst (v := 4) hx hb dX0_bytesOf_17 (by decide) ?_
      exact W.iret (v := 4) hx hb hr (fun t ht hW => ⟨4, rfl, (by rw [fX0_bytesOf, if_neg c_1, if_neg c_2]), ht⟩) (fun q h => nomatch h) dX0_bytesOf_18
    · refine lv_bipush (v := 8) hx hb dX0_bytesOf_12 (by decide) ?_
      refine lv_goto (tgt := 18) hx hb dX0_bytesOf_14 (by decide) ?_
      exact W.iret (v := 8) hx hb hr (fun t ht hW => ⟨8, rfl, (by rw [fX0_bytesOf, if_neg c_1, if_pos c_2]), ht⟩) (fun q h => nomatch h) dX0_bytesOf_18
  · refine lv_iload_n hx hb dX0_bytesOf_5 rfl (lv_at hl 1 rfl) ?_
    exact W.iret (v := p1) hx hb hr (fun t ht hW => ⟨p1, rfl, (by rw [fX0_bytesOf, if_pos c_1]), ht⟩) (fun q h => nomatch h) dX0_bytesOf_6

def fX0_homeAlignment (p0 p1 : Int32) : Int32 :=
  if p0 = 2 then 8
  else if p0 = 3 then (if p1 = 8 then 8
      else 4)
    else 4

abbrev wsX0_homeAlignment : List Cond := .code yX0_homeAlignment cX0_homeAlignment 2 (some .int) :: wG
set_option maxHeartbeats 4000000 in
set_option maxRecDepth 100000 in
theorem mX0_homeAlignment (l : Launch) (p0 p1 : Int32)  : Met l yX0_homeAlignment wsX0_homeAlignment ({ frames := 0, cells := 0, slots := 0, locals := 0 }) (va_Pc [.int p0, .int p1] (fun _ => True)) (vp_Si (fun r => r = fX0_homeAlignment p0 p1)) 0 0 (fun _ => False) := by
  refine Met.ofW (cc := cX0_homeAlignment) (maxL := 2) (ret := (some .int)) (by decide) rfl ?_
  intro p e s m args below meth c s₁ B hml hv
  obtain ⟨rfl, -⟩ := hv
  have hx := B.exec
  have hb := B.bytes
  have hr := B.returns
  have hts := atoms_spec (ws := wsX0_homeAlignment) B.pre
  have htG := fun (w : Cond) (h : w ∈ wG) => hts w (List.mem_cons_of_mem _ h)
  have hown : s.vm.findClass RX0 = some m.cls := findClass_of_methodNamed B.named
  have hlocks := B.notSynchronized
  have hl := lv_entry ([.int p0, .int p1]) (n := 2) (Nat.le_of_ble_eq_true rfl)
  rw [lg_entry_eq]
  generalize (lg_sl ([.int p0, .int p1]) ++ List.replicate (2 - (lg_sl ([.int p0, .int p1])).length) Slot.unset).toArray = ls at hl ⊢
  have hl : lv_has ls 2 [(0, .int p0), (1, .int p1)] := hl
  refine lv_iload_n hx hb dX0_homeAlignment_0 rfl (lv_at hl 0 rfl) ?_
  refine lv_iconst (v := 2) hx hb dX0_homeAlignment_1 (by decide) ?_
  refine lv_icmp_eq (tgt := 16) hx hb dX0_homeAlignment_2 (by decide) (fun c_1 => ?_) (fun c_1 => ?_)
  · refine lv_bipush (v := 8) hx hb dX0_homeAlignment_16 (by decide) ?_
    refine lv_goto (tgt := 22) hx hb dX0_homeAlignment_18 (by decide) ?_
    exact W.iret (v := 8) hx hb hr (fun t ht hW => ⟨8, rfl, (by rw [fX0_homeAlignment, if_pos c_1]), ht⟩) (fun q h => nomatch h) dX0_homeAlignment_22
  · refine lv_iload_n hx hb dX0_homeAlignment_5 rfl (lv_at hl 0 rfl) ?_
    refine lv_iconst (v := 3) hx hb dX0_homeAlignment_6 (by decide) ?_
    refine lv_icmp_ne (tgt := 21) hx hb dX0_homeAlignment_7 (by decide) (fun c_2 => ?_) (fun c_2 => ?_)
    · refine lv_iconst (v := 4) hx hb dX0_homeAlignment_21 (by decide) ?_
      exact W.iret (v := 4) hx hb hr (fun t ht hW => ⟨4, rfl, (by rw [fX0_homeAlignment, if_neg c_1, if_neg c_2]), ht⟩) (fun q h => nomatch h) dX0_homeAlignment_22
    · refine lv_iload_n hx hb dX0_homeAlignment_10 rfl (lv_at hl 1 rfl) ?_
      refine lv_bipush (v := 8) hx hb dX0_homeAlignment_11 (by decide) ?_
      refine lv_icmp_ne (tgt := 21) hx hb dX0_homeAlignment_13 (by decide) (fun c_3 => ?_) (fun c_3 => ?_)
      · refine lv_iconst (v := 4) hx hb dX0_homeAlignment_21 (by decide) ?_
        exact W.iret (v := 4) hx hb hr (fun t ht hW => ⟨4, rfl, (by rw [fX0_homeAlignment, if_neg c_1, if_pos c_2, if_neg c_3]), ht⟩) (fun q h => nomatch h) dX0_homeAlignment_22
      · refine lv_bipush (v := 8) hx hb dX0_homeAlignment_16 (by decide) ?_
        refine lv_goto (tgt := 22) hx hb dX0_homeAlignment_18 (by decide) ?_
        exact W.iret (v := 8) hx hb hr (fun t ht hW => ⟨8, rfl, (by rw [fX0_homeAlignment, if_neg c_1, if_pos c_2, if_pos c_3]), ht⟩) (fun q h => nomatch h) dX0_homeAlignment_22

def fX0_registerOrMemory (p0 : Int32) : Int32 :=
  if 16 ≤ p0 then (-1)
  else (4 + (p0 / 4))

abbrev wsX0_registerOrMemory : List Cond := .code yX0_registerOrMemory cX0_registerOrMemory 1 (some .int) :: wG
set_option maxHeartbeats 4000000 in
set_option maxRecDepth 100000 in
theorem mX0_registerOrMemory (l : Launch) (p0 : Int32)  : Met l yX0_registerOrMemory wsX0_registerOrMemory ({ frames := 0, cells := 0, slots := 0, locals := 0 }) (va_Pc [.int p0] (fun _ => True)) (vp_Si (fun r => r = fX0_registerOrMemory p0)) 0 0 (fun _ => False) := by
  refine Met.ofW (cc := cX0_registerOrMemory) (maxL := 1) (ret := (some .int)) (by decide) rfl ?_
  intro p e s m args below meth c s₁ B hml hv
  obtain ⟨rfl, -⟩ := hv
  have hx := B.exec
  have hb := B.bytes
  have hr := B.returns
  have hts := atoms_spec (ws := wsX0_registerOrMemory) B.pre
  have htG := fun (w : Cond) (h : w ∈ wG) => hts w (List.mem_cons_of_mem _ h)
  have hown : s.vm.findClass RX0 = some m.cls := findClass_of_methodNamed B.named
  have hlocks := B.notSynchronized
  have hl := lv_entry ([.int p0]) (n := 1) (Nat.le_of_ble_eq_true rfl)
  rw [lg_entry_eq]
  generalize (lg_sl ([.int p0]) ++ List.replicate (1 - (lg_sl ([.int p0])).length) Slot.unset).toArray = ls at hl ⊢
  have hl : lv_has ls 1 [(0, .int p0)] := hl
  refine lv_iload_n hx hb dX0_registerOrMemory_0 rfl (lv_at hl 0 rfl) ?_
  refine lv_bipush (v := 16) hx hb dX0_registerOrMemory_1 (by decide) ?_
  refine lv_icmp_ge (tgt := 14) hx hb dX0_registerOrMemory_3 (by decide) (fun c_1 => ?_) (fun c_1 => ?_)
  · refine lv_iconst (v := (-1)) hx hb dX0_registerOrMemory_14 (by decide) ?_
    exact W.iret (v := (-1)) hx hb hr (fun t ht hW => ⟨(-1), rfl, (by rw [fX0_registerOrMemory, if_pos c_1]), ht⟩) (fun q h => nomatch h) dX0_registerOrMemory_15
  · refine lv_iconst (v := 4) hx hb dX0_registerOrMemory_6 (by decide) ?_
    refine lv_iload_n hx hb dX0_registerOrMemory_7 rfl (lv_at hl 0 rfl) ?_
    refine lv_iconst (v := 4) hx hb dX0_registerOrMemory_8 (by decide) ?_
    refine lv_idiv hx hb dX0_registerOrMemory_9 (by decide) ?_
    refine lv_iadd hx hb dX0_registerOrMemory_10 ?_
    refine lv_goto (tgt := 15) hx hb dX0_registerOrMemory_11 (by decide) ?_
    exact W.iret (v := (4 + (p0 / 4))) hx hb hr (fun t ht hW => ⟨(4 + (p0 / 4)), rfl, (by rw [fX0_registerOrMemory, if_neg c_1]), ht⟩) (fun q h => nomatch h) dX0_registerOrMemory_15

def fJ0_bitCount (p0 : Int32) : Int32 :=
  ((((((((p0 - ((((p0 : Int32).toUInt32 >>> ((1 : Int32).toUInt32 &&& Int32.toUInt32 31)).toInt32) &&& 1431655765)) &&& 858993459) + (((((p0 - ((((p0 : Int32).toUInt32 >>> ((1 : Int32).toUInt32 &&& Int32.toUInt32 31)).toInt32) &&& 1431655765)) : Int32).toUInt32 >>> ((2 : Int32).toUInt32 &&& Int32.toUInt32 31)).toInt32) &&& 858993459)) + ((((((p0 - ((((p0 : Int32).toUInt32 >>> ((1 : Int32).toUInt32 &&& Int32.toUInt32 31)).toInt32) &&& 1431655765)) &&& 858993459) + (((((p0 - ((((p0 : Int32).toUInt32 >>> ((1 : Int32).toUInt32 &&& Int32.toUInt32 31)).toInt32) &&& 1431655765)) : Int32).toUInt32 >>> ((2 : Int32).toUInt32 &&& Int32.toUInt32 31)).toInt32) &&& 858993459)) : Int32).toUInt32 >>> ((4 : Int32).toUInt32 &&& Int32.toUInt32 31)).toInt32)) &&& 252645135) + ((((((((p0 - ((((p0 : Int32).toUInt32 >>> ((1 : Int32).toUInt32 &&& Int32.toUInt32 31)).toInt32) &&& 1431655765)) &&& 858993459) + (((((p0 - ((((p0 : Int32).toUInt32 >>> ((1 : Int32).toUInt32 &&& Int32.toUInt32 31)).toInt32) &&& 1431655765)) : Int32).toUInt32 >>> ((2 : Int32).toUInt32 &&& Int32.toUInt32 31)).toInt32) &&& 858993459)) + ((((((p0 - ((((p0 : Int32).toUInt32 >>> ((1 : Int32).toUInt32 &&& Int32.toUInt32 31)).toInt32) &&& 1431655765)) &&& 858993459) + (((((p0 - ((((p0 : Int32).toUInt32 >>> ((1 : Int32).toUInt32 &&& Int32.toUInt32 31)).toInt32) &&& 1431655765)) : Int32).toUInt32 >>> ((2 : Int32).toUInt32 &&& Int32.toUInt32 31)).toInt32) &&& 858993459)) : Int32).toUInt32 >>> ((4 : Int32).toUInt32 &&& Int32.toUInt32 31)).toInt32)) &&& 252645135) : Int32).toUInt32 >>> ((8 : Int32).toUInt32 &&& Int32.toUInt32 31)).toInt32)) + (((((((((p0 - ((((p0 : Int32).toUInt32 >>> ((1 : Int32).toUInt32 &&& Int32.toUInt32 31)).toInt32) &&& 1431655765)) &&& 858993459) + (((((p0 - ((((p0 : Int32).toUInt32 >>> ((1 : Int32).toUInt32 &&& Int32.toUInt32 31)).toInt32) &&& 1431655765)) : Int32).toUInt32 >>> ((2 : Int32).toUInt32 &&& Int32.toUInt32 31)).toInt32) &&& 858993459)) + ((((((p0 - ((((p0 : Int32).toUInt32 >>> ((1 : Int32).toUInt32 &&& Int32.toUInt32 31)).toInt32) &&& 1431655765)) &&& 858993459) + (((((p0 - ((((p0 : Int32).toUInt32 >>> ((1 : Int32).toUInt32 &&& Int32.toUInt32 31)).toInt32) &&& 1431655765)) : Int32).toUInt32 >>> ((2 : Int32).toUInt32 &&& Int32.toUInt32 31)).toInt32) &&& 858993459)) : Int32).toUInt32 >>> ((4 : Int32).toUInt32 &&& Int32.toUInt32 31)).toInt32)) &&& 252645135) + ((((((((p0 - ((((p0 : Int32).toUInt32 >>> ((1 : Int32).toUInt32 &&& Int32.toUInt32 31)).toInt32) &&& 1431655765)) &&& 858993459) + (((((p0 - ((((p0 : Int32).toUInt32 >>> ((1 : Int32).toUInt32 &&& Int32.toUInt32 31)).toInt32) &&& 1431655765)) : Int32).toUInt32 >>> ((2 : Int32).toUInt32 &&& Int32.toUInt32 31)).toInt32) &&& 858993459)) + ((((((p0 - ((((p0 : Int32).toUInt32 >>> ((1 : Int32).toUInt32 &&& Int32.toUInt32 31)).toInt32) &&& 1431655765)) &&& 858993459) + (((((p0 - ((((p0 : Int32).toUInt32 >>> ((1 : Int32).toUInt32 &&& Int32.toUInt32 31)).toInt32) &&& 1431655765)) : Int32).toUInt32 >>> ((2 : Int32).toUInt32 &&& Int32.toUInt32 31)).toInt32) &&& 858993459)) : Int32).toUInt32 >>> ((4 : Int32).toUInt32 &&& Int32.toUInt32 31)).toInt32)) &&& 252645135) : Int32).toUInt32 >>> ((8 : Int32).toUInt32 &&& Int32.toUInt32 31)).toInt32)) : Int32).toUInt32 >>> ((16 : Int32).toUInt32 &&& Int32.toUInt32 31)).toInt32)) &&& 63)

abbrev wsJ0_bitCount : List Cond := .code yJ0_bitCount cJ0_bitCount 1 (some .int) :: wG
set_option maxHeartbeats 4000000 in
set_option maxRecDepth 100000 in
theorem mJ0_bitCount (l : Launch) (p0 : Int32)  : Met l yJ0_bitCount wsJ0_bitCount ({ frames := 0, cells := 0, slots := 0, locals := 0 }) (va_Pc [.int p0] (fun _ => True)) (vp_Si (fun r => r = fJ0_bitCount p0)) 0 0 (fun _ => False) := by
  refine Met.ofW (cc := cJ0_bitCount) (maxL := 1) (ret := (some .int)) (by decide) rfl ?_
  intro p e s m args below meth c s₁ B hml hv
  obtain ⟨rfl, -⟩ := hv
  have hx := B.exec
  have hb := B.bytes
  have hr := B.returns
  have hts := atoms_spec (ws := wsJ0_bitCount) B.pre
  have htG := fun (w : Cond) (h : w ∈ wG) => hts w (List.mem_cons_of_mem _ h)
  have hown : s.vm.findClass RJ0 = some m.cls := findClass_of_methodNamed B.named
  have hlocks := B.notSynchronized
  have hl := lv_entry ([.int p0]) (n := 1) (Nat.le_of_ble_eq_true rfl)
  rw [lg_entry_eq]
  generalize (lg_sl ([.int p0]) ++ List.replicate (1 - (lg_sl ([.int p0])).length) Slot.unset).toArray = ls at hl ⊢
  have hl : lv_has ls 1 [(0, .int p0)] := hl
  refine lv_iload_n hx hb dJ0_bitCount_0 rfl (lv_at hl 0 rfl) ?_
  refine lv_iload_n hx hb dJ0_bitCount_1 rfl (lv_at hl 0 rfl) ?_
  refine lv_iconst (v := 1) hx hb dJ0_bitCount_2 (by decide) ?_
  refine lv_iushr hx hb dJ0_bitCount_3 rfl ?_
  refine lv_ldcw (v := 1431655765) hx hb hown (htG _ wd_311) dJ0_bitCount_4 ?_
  refine lv_iand hx hb dJ0_bitCount_7 ?_
  refine lv_isub hx hb dJ0_bitCount_8 ?_
  refine lv_istore_n (lv' := [(0, .int (p0 - ((((p0 : Int32).toUInt32 >>> ((1 : Int32).toUInt32 &&& Int32.toUInt32 31)).toInt32) &&& 1431655765)))]) hx hb dJ0_bitCount_9 rfl hl (by decide) rfl (fun ls hl => ?_)
  refine lv_iload_n hx hb dJ0_bitCount_10 rfl (lv_at hl 0 rfl) ?_
  refine lv_ldcw (v := 858993459) hx hb hown (htG _ wd_312) dJ0_bitCount_11 ?_
  refine lv_iand hx hb dJ0_bitCount_14 ?_
  refine lv_iload_n hx hb dJ0_bitCount_15 rfl (lv_at hl 0 rfl) ?_
  refine lv_iconst (v := 2) hx hb dJ0_bitCount_16 (by decide) ?_
  refine lv_iushr hx hb dJ0_bitCount_17 rfl ?_
  refine lv_ldcw (v := 858993459) hx hb hown (htG _ wd_312) dJ0_bitCount_18 ?_
  refine lv_iand hx hb dJ0_bitCount_21 ?_
  refine lv_iadd hx hb dJ0_bitCount_22 ?_
  refine lv_istore_n (lv' := [(0, .int (((p0 - ((((p0 : Int32).toUInt32 >>> ((1 : Int32).toUInt32 &&& Int32.toUInt32 31)).toInt32) &&& 1431655765)) &&& 858993459) + (((((p0 - ((((p0 : Int32).toUInt32 >>> ((1 : Int32).toUInt32 &&& Int32.toUInt32 31)).toInt32) &&& 1431655765)) : Int32).toUInt32 >>> ((2 : Int32).toUInt32 &&& Int32.toUInt32 31)).toInt32) &&& 858993459)))]) hx hb dJ0_bitCount_23 rfl hl (by decide) rfl (fun ls hl => ?_)
  refine lv_iload_n hx hb dJ0_bitCount_24 rfl (lv_at hl 0 rfl) ?_
  refine lv_iload_n hx hb dJ0_bitCount_25 rfl (lv_at hl 0 rfl) ?_
  refine lv_iconst (v := 4) hx hb dJ0_bitCount_26 (by decide) ?_
  refine lv_iushr hx hb dJ0_bitCount_27 rfl ?_
  refine lv_iadd hx hb dJ0_bitCount_28 ?_
  refine lv_ldcw (v := 252645135) hx hb hown (htG _ wd_313) dJ0_bitCount_29 ?_
  refine lv_iand hx hb dJ0_bitCount_32 ?_
  refine lv_istore_n (lv' := [(0, .int (((((p0 - ((((p0 : Int32).toUInt32 >>> ((1 : Int32).toUInt32 &&& Int32.toUInt32 31)).toInt32) &&& 1431655765)) &&& 858993459) + (((((p0 - ((((p0 : Int32).toUInt32 >>> ((1 : Int32).toUInt32 &&& Int32.toUInt32 31)).toInt32) &&& 1431655765)) : Int32).toUInt32 >>> ((2 : Int32).toUInt32 &&& Int32.toUInt32 31)).toInt32) &&& 858993459)) + ((((((p0 - ((((p0 : Int32).toUInt32 >>> ((1 : Int32).toUInt32 &&& Int32.toUInt32 31)).toInt32) &&& 1431655765)) &&& 858993459) + (((((p0 - ((((p0 : Int32).toUInt32 >>> ((1 : Int32).toUInt32 &&& Int32.toUInt32 31)).toInt32) &&& 1431655765)) : Int32).toUInt32 >>> ((2 : Int32).toUInt32 &&& Int32.toUInt32 31)).toInt32) &&& 858993459)) : Int32).toUInt32 >>> ((4 : Int32).toUInt32 &&& Int32.toUInt32 31)).toInt32)) &&& 252645135))]) hx hb dJ0_bitCount_33 rfl hl (by decide) rfl (fun ls hl => ?_)
  refine lv_iload_n hx hb dJ0_bitCount_34 rfl (lv_at hl 0 rfl) ?_
  refine lv_iload_n hx hb dJ0_bitCount_35 rfl (lv_at hl 0 rfl) ?_
  refine lv_bipush (v := 8) hx hb dJ0_bitCount_36 (by decide) ?_
  refine lv_iushr hx hb dJ0_bitCount_38 rfl ?_
  refine lv_iadd hx hb dJ0_bitCount_39 ?_
  refine lv_istore_n (lv' := [(0, .int ((((((p0 - ((((p0 : Int32).toUInt32 >>> ((1 : Int32).toUInt32 &&& Int32.toUInt32 31)).toInt32) &&& 1431655765)) &&& 858993459) + (((((p0 - ((((p0 : Int32).toUInt32 >>> ((1 : Int32).toUInt32 &&& Int32.toUInt32 31)).toInt32) &&& 1431655765)) : Int32).toUInt32 >>> ((2 : Int32).toUInt32 &&& Int32.toUInt32 31)).toInt32) &&& 858993459)) + ((((((p0 - ((((p0 : Int32).toUInt32 >>> ((1 : Int32).toUInt32 &&& Int32.toUInt32 31)).toInt32) &&& 1431655765)) &&& 858993459) + (((((p0 - ((((p0 : Int32).toUInt32 >>> ((1 : Int32).toUInt32 &&& Int32.toUInt32 31)).toInt32) &&& 1431655765)) : Int32).toUInt32 >>> ((2 : Int32).toUInt32 &&& Int32.toUInt32 31)).toInt32) &&& 858993459)) : Int32).toUInt32 >>> ((4 : Int32).toUInt32 &&& Int32.toUInt32 31)).toInt32)) &&& 252645135) + ((((((((p0 - ((((p0 : Int32).toUInt32 >>> ((1 : Int32).toUInt32 &&& Int32.toUInt32 31)).toInt32) &&& 1431655765)) &&& 858993459) + (((((p0 - ((((p0 : Int32).toUInt32 >>> ((1 : Int32).toUInt32 &&& Int32.toUInt32 31)).toInt32) &&& 1431655765)) : Int32).toUInt32 >>> ((2 : Int32).toUInt32 &&& Int32.toUInt32 31)).toInt32) &&& 858993459)) + ((((((p0 - ((((p0 : Int32).toUInt32 >>> ((1 : Int32).toUInt32 &&& Int32.toUInt32 31)).toInt32) &&& 1431655765)) &&& 858993459) + (((((p0 - ((((p0 : Int32).toUInt32 >>> ((1 : Int32).toUInt32 &&& Int32.toUInt32 31)).toInt32) &&& 1431655765)) : Int32).toUInt32 >>> ((2 : Int32).toUInt32 &&& Int32.toUInt32 31)).toInt32) &&& 858993459)) : Int32).toUInt32 >>> ((4 : Int32).toUInt32 &&& Int32.toUInt32 31)).toInt32)) &&& 252645135) : Int32).toUInt32 >>> ((8 : Int32).toUInt32 &&& Int32.toUInt32 31)).toInt32)))]) hx hb dJ0_bitCount_40 rfl hl (by decide) rfl (fun ls hl => ?_)
  refine lv_iload_n hx hb dJ0_bitCount_41 rfl (lv_at hl 0 rfl) ?_
  refine lv_iload_n hx hb dJ0_bitCount_42 rfl (lv_at hl 0 rfl) ?_
  refine lv_bipush (v := 16) hx hb dJ0_bitCount_43 (by decide) ?_
  refine lv_iushr hx hb dJ0_bitCount_45 rfl ?_
  refine lv_iadd hx hb dJ0_bitCount_46 ?_
  refine lv_istore_n (lv' := [(0, .int (((((((p0 - ((((p0 : Int32).toUInt32 >>> ((1 : Int32).toUInt32 &&& Int32.toUInt32 31)).toInt32) &&& 1431655765)) &&& 858993459) + (((((p0 - ((((p0 : Int32).toUInt32 >>> ((1 : Int32).toUInt32 &&& Int32.toUInt32 31)).toInt32) &&& 1431655765)) : Int32).toUInt32 >>> ((2 : Int32).toUInt32 &&& Int32.toUInt32 31)).toInt32) &&& 858993459)) + ((((((p0 - ((((p0 : Int32).toUInt32 >>> ((1 : Int32).toUInt32 &&& Int32.toUInt32 31)).toInt32) &&& 1431655765)) &&& 858993459) + (((((p0 - ((((p0 : Int32).toUInt32 >>> ((1 : Int32).toUInt32 &&& Int32.toUInt32 31)).toInt32) &&& 1431655765)) : Int32).toUInt32 >>> ((2 : Int32).toUInt32 &&& Int32.toUInt32 31)).toInt32) &&& 858993459)) : Int32).toUInt32 >>> ((4 : Int32).toUInt32 &&& Int32.toUInt32 31)).toInt32)) &&& 252645135) + ((((((((p0 - ((((p0 : Int32).toUInt32 >>> ((1 : Int32).toUInt32 &&& Int32.toUInt32 31)).toInt32) &&& 1431655765)) &&& 858993459) + (((((p0 - ((((p0 : Int32).toUInt32 >>> ((1 : Int32).toUInt32 &&& Int32.toUInt32 31)).toInt32) &&& 1431655765)) : Int32).toUInt32 >>> ((2 : Int32).toUInt32 &&& Int32.toUInt32 31)).toInt32) &&& 858993459)) + ((((((p0 - ((((p0 : Int32).toUInt32 >>> ((1 : Int32).toUInt32 &&& Int32.toUInt32 31)).toInt32) &&& 1431655765)) &&& 858993459) + (((((p0 - ((((p0 : Int32).toUInt32 >>> ((1 : Int32).toUInt32 &&& Int32.toUInt32 31)).toInt32) &&& 1431655765)) : Int32).toUInt32 >>> ((2 : Int32).toUInt32 &&& Int32.toUInt32 31)).toInt32) &&& 858993459)) : Int32).toUInt32 >>> ((4 : Int32).toUInt32 &&& Int32.toUInt32 31)).toInt32)) &&& 252645135) : Int32).toUInt32 >>> ((8 : Int32).toUInt32 &&& Int32.toUInt32 31)).toInt32)) + (((((((((p0 - ((((p0 : Int32).toUInt32 >>> ((1 : Int32).toUInt32 &&& Int32.toUInt32 31)).toInt32) &&& 1431655765)) &&& 858993459) + (((((p0 - ((((p0 : Int32).toUInt32 >>> ((1 : Int32).toUInt32 &&& Int32.toUInt32 31)).toInt32) &&& 1431655765)) : Int32).toUInt32 >>> ((2 : Int32).toUInt32 &&& Int32.toUInt32 31)).toInt32) &&& 858993459)) + ((((((p0 - ((((p0 : Int32).toUInt32 >>> ((1 : Int32).toUInt32 &&& Int32.toUInt32 31)).toInt32) &&& 1431655765)) &&& 858993459) + (((((p0 - ((((p0 : Int32).toUInt32 >>> ((1 : Int32).toUInt32 &&& Int32.toUInt32 31)).toInt32) &&& 1431655765)) : Int32).toUInt32 >>> ((2 : Int32).toUInt32 &&& Int32.toUInt32 31)).toInt32) &&& 858993459)) : Int32).toUInt32 >>> ((4 : Int32).toUInt32 &&& Int32.toUInt32 31)).toInt32)) &&& 252645135) + ((((((((p0 - ((((p0 : Int32).toUInt32 >>> ((1 : Int32).toUInt32 &&& Int32.toUInt32 31)).toInt32) &&& 1431655765)) &&& 858993459) + (((((p0 - ((((p0 : Int32).toUInt32 >>> ((1 : Int32).toUInt32 &&& Int32.toUInt32 31)).toInt32) &&& 1431655765)) : Int32).toUInt32 >>> ((2 : Int32).toUInt32 &&& Int32.toUInt32 31)).toInt32) &&& 858993459)) + ((((((p0 - ((((p0 : Int32).toUInt32 >>> ((1 : Int32).toUInt32 &&& Int32.toUInt32 31)).toInt32) &&& 1431655765)) &&& 858993459) + (((((p0 - ((((p0 : Int32).toUInt32 >>> ((1 : Int32).toUInt32 &&& Int32.toUInt32 31)).toInt32) &&& 1431655765)) : Int32).toUInt32 >>> ((2 : Int32).toUInt32 &&& Int32.toUInt32 31)).toInt32) &&& 858993459)) : Int32).toUInt32 >>> ((4 : Int32).toUInt32 &&& Int32.toUInt32 31)).toInt32)) &&& 252645135) : Int32).toUInt32 >>> ((8 : Int32).toUInt32 &&& Int32.toUInt32 31)).toInt32)) : Int32).toUInt32 >>> ((16 : Int32).toUInt32 &&& Int32.toUInt32 31)).toInt32)))]) hx hb dJ0_bitCount_47 rfl hl (by decide) rfl (fun ls hl => ?_)
  refine lv_iload_n hx hb dJ0_bitCount_48 rfl (lv_at hl 0 rfl) ?_
  refine lv_bipush (v := 63) hx hb dJ0_bitCount_49 (by decide) ?_
  refine lv_iand hx hb dJ0_bitCount_51 ?_
  exact W.iret (v := ((((((((p0 - ((((p0 : Int32).toUInt32 >>> ((1 : Int32).toUInt32 &&& Int32.toUInt32 31)).toInt32) &&& 1431655765)) &&& 858993459) + (((((p0 - ((((p0 : Int32).toUInt32 >>> ((1 : Int32).toUInt32 &&& Int32.toUInt32 31)).toInt32) &&& 1431655765)) : Int32).toUInt32 >>> ((2 : Int32).toUInt32 &&& Int32.toUInt32 31)).toInt32) &&& 858993459)) + ((((((p0 - ((((p0 : Int32).toUInt32 >>> ((1 : Int32).toUInt32 &&& Int32.toUInt32 31)).toInt32) &&& 1431655765)) &&& 858993459) + (((((p0 - ((((p0 : Int32).toUInt32 >>> ((1 : Int32).toUInt32 &&& Int32.toUInt32 31)).toInt32) &&& 1431655765)) : Int32).toUInt32 >>> ((2 : Int32).toUInt32 &&& Int32.toUInt32 31)).toInt32) &&& 858993459)) : Int32).toUInt32 >>> ((4 : Int32).toUInt32 &&& Int32.toUInt32 31)).toInt32)) &&& 252645135) + ((((((((p0 - ((((p0 : Int32).toUInt32 >>> ((1 : Int32).toUInt32 &&& Int32.toUInt32 31)).toInt32) &&& 1431655765)) &&& 858993459) + (((((p0 - ((((p0 : Int32).toUInt32 >>> ((1 : Int32).toUInt32 &&& Int32.toUInt32 31)).toInt32) &&& 1431655765)) : Int32).toUInt32 >>> ((2 : Int32).toUInt32 &&& Int32.toUInt32 31)).toInt32) &&& 858993459)) + ((((((p0 - ((((p0 : Int32).toUInt32 >>> ((1 : Int32).toUInt32 &&& Int32.toUInt32 31)).toInt32) &&& 1431655765)) &&& 858993459) + (((((p0 - ((((p0 : Int32).toUInt32 >>> ((1 : Int32).toUInt32 &&& Int32.toUInt32 31)).toInt32) &&& 1431655765)) : Int32).toUInt32 >>> ((2 : Int32).toUInt32 &&& Int32.toUInt32 31)).toInt32) &&& 858993459)) : Int32).toUInt32 >>> ((4 : Int32).toUInt32 &&& Int32.toUInt32 31)).toInt32)) &&& 252645135) : Int32).toUInt32 >>> ((8 : Int32).toUInt32 &&& Int32.toUInt32 31)).toInt32)) + (((((((((p0 - ((((p0 : Int32).toUInt32 >>> ((1 : Int32).toUInt32 &&& Int32.toUInt32 31)).toInt32) &&& 1431655765)) &&& 858993459) + (((((p0 - ((((p0 : Int32).toUInt32 >>> ((1 : Int32).toUInt32 &&& Int32.toUInt32 31)).toInt32) &&& 1431655765)) : Int32).toUInt32 >>> ((2 : Int32).toUInt32 &&& Int32.toUInt32 31)).toInt32) &&& 858993459)) + ((((((p0 - ((((p0 : Int32).toUInt32 >>> ((1 : Int32).toUInt32 &&& Int32.toUInt32 31)).toInt32) &&& 1431655765)) &&& 858993459) + (((((p0 - ((((p0 : Int32).toUInt32 >>> ((1 : Int32).toUInt32 &&& Int32.toUInt32 31)).toInt32) &&& 1431655765)) : Int32).toUInt32 >>> ((2 : Int32).toUInt32 &&& Int32.toUInt32 31)).toInt32) &&& 858993459)) : Int32).toUInt32 >>> ((4 : Int32).toUInt32 &&& Int32.toUInt32 31)).toInt32)) &&& 252645135) + ((((((((p0 - ((((p0 : Int32).toUInt32 >>> ((1 : Int32).toUInt32 &&& Int32.toUInt32 31)).toInt32) &&& 1431655765)) &&& 858993459) + (((((p0 - ((((p0 : Int32).toUInt32 >>> ((1 : Int32).toUInt32 &&& Int32.toUInt32 31)).toInt32) &&& 1431655765)) : Int32).toUInt32 >>> ((2 : Int32).toUInt32 &&& Int32.toUInt32 31)).toInt32) &&& 858993459)) + ((((((p0 - ((((p0 : Int32).toUInt32 >>> ((1 : Int32).toUInt32 &&& Int32.toUInt32 31)).toInt32) &&& 1431655765)) &&& 858993459) + (((((p0 - ((((p0 : Int32).toUInt32 >>> ((1 : Int32).toUInt32 &&& Int32.toUInt32 31)).toInt32) &&& 1431655765)) : Int32).toUInt32 >>> ((2 : Int32).toUInt32 &&& Int32.toUInt32 31)).toInt32) &&& 858993459)) : Int32).toUInt32 >>> ((4 : Int32).toUInt32 &&& Int32.toUInt32 31)).toInt32)) &&& 252645135) : Int32).toUInt32 >>> ((8 : Int32).toUInt32 &&& Int32.toUInt32 31)).toInt32)) : Int32).toUInt32 >>> ((16 : Int32).toUInt32 &&& Int32.toUInt32 31)).toInt32)) &&& 63)) hx hb hr (fun t ht hW => ⟨((((((((p0 - ((((p0 : Int32).toUInt32 >>> ((1 : Int32).toUInt32 &&& Int32.toUInt32 31)).toInt32) &&& 1431655765)) &&& 858993459) + (((((p0 - ((((p0 : Int32).toUInt32 >>> ((1 : Int32).toUInt32 &&& Int32.toUInt32 31)).toInt32) &&& 1431655765)) : Int32).toUInt32 >>> ((2 : Int32).toUInt32 &&& Int32.toUInt32 31)).toInt32) &&& 858993459)) + ((((((p0 - ((((p0 : Int32).toUInt32 >>> ((1 : Int32).toUInt32 &&& Int32.toUInt32 31)).toInt32) &&& 1431655765)) &&& 858993459) + (((((p0 - ((((p0 : Int32).toUInt32 >>> ((1 : Int32).toUInt32 &&& Int32.toUInt32 31)).toInt32) &&& 1431655765)) : Int32).toUInt32 >>> ((2 : Int32).toUInt32 &&& Int32.toUInt32 31)).toInt32) &&& 858993459)) : Int32).toUInt32 >>> ((4 : Int32).toUInt32 &&& Int32.toUInt32 31)).toInt32)) &&& 252645135) + ((((((((p0 - ((((p0 : Int32).toUInt32 >>> ((1 : Int32).toUInt32 &&& Int32.toUInt32 31)).toInt32) &&& 1431655765)) &&& 858993459) + (((((p0 - ((((p0 : Int32).toUInt32 >>> ((1 : Int32).toUInt32 &&& Int32.toUInt32 31)).toInt32) &&& 1431655765)) : Int32).toUInt32 >>> ((2 : Int32).toUInt32 &&& Int32.toUInt32 31)).toInt32) &&& 858993459)) + ((((((p0 - ((((p0 : Int32).toUInt32 >>> ((1 : Int32).toUInt32 &&& Int32.toUInt32 31)).toInt32) &&& 1431655765)) &&& 858993459) + (((((p0 - ((((p0 : Int32).toUInt32 >>> ((1 : Int32).toUInt32 &&& Int32.toUInt32 31)).toInt32) &&& 1431655765)) : Int32).toUInt32 >>> ((2 : Int32).toUInt32 &&& Int32.toUInt32 31)).toInt32) &&& 858993459)) : Int32).toUInt32 >>> ((4 : Int32).toUInt32 &&& Int32.toUInt32 31)).toInt32)) &&& 252645135) : Int32).toUInt32 >>> ((8 : Int32).toUInt32 &&& Int32.toUInt32 31)).toInt32)) + (((((((((p0 - ((((p0 : Int32).toUInt32 >>> ((1 : Int32).toUInt32 &&& Int32.toUInt32 31)).toInt32) &&& 1431655765)) &&& 858993459) + (((((p0 - ((((p0 : Int32).toUInt32 >>> ((1 : Int32).toUInt32 &&& Int32.toUInt32 31)).toInt32) &&& 1431655765)) : Int32).toUInt32 >>> ((2 : Int32).toUInt32 &&& Int32.toUInt32 31)).toInt32) &&& 858993459)) + ((((((p0 - ((((p0 : Int32).toUInt32 >>> ((1 : Int32).toUInt32 &&& Int32.toUInt32 31)).toInt32) &&& 1431655765)) &&& 858993459) + (((((p0 - ((((p0 : Int32).toUInt32 >>> ((1 : Int32).toUInt32 &&& Int32.toUInt32 31)).toInt32) &&& 1431655765)) : Int32).toUInt32 >>> ((2 : Int32).toUInt32 &&& Int32.toUInt32 31)).toInt32) &&& 858993459)) : Int32).toUInt32 >>> ((4 : Int32).toUInt32 &&& Int32.toUInt32 31)).toInt32)) &&& 252645135) + ((((((((p0 - ((((p0 : Int32).toUInt32 >>> ((1 : Int32).toUInt32 &&& Int32.toUInt32 31)).toInt32) &&& 1431655765)) &&& 858993459) + (((((p0 - ((((p0 : Int32).toUInt32 >>> ((1 : Int32).toUInt32 &&& Int32.toUInt32 31)).toInt32) &&& 1431655765)) : Int32).toUInt32 >>> ((2 : Int32).toUInt32 &&& Int32.toUInt32 31)).toInt32) &&& 858993459)) + ((((((p0 - ((((p0 : Int32).toUInt32 >>> ((1 : Int32).toUInt32 &&& Int32.toUInt32 31)).toInt32) &&& 1431655765)) &&& 858993459) + (((((p0 - ((((p0 : Int32).toUInt32 >>> ((1 : Int32).toUInt32 &&& Int32.toUInt32 31)).toInt32) &&& 1431655765)) : Int32).toUInt32 >>> ((2 : Int32).toUInt32 &&& Int32.toUInt32 31)).toInt32) &&& 858993459)) : Int32).toUInt32 >>> ((4 : Int32).toUInt32 &&& Int32.toUInt32 31)).toInt32)) &&& 252645135) : Int32).toUInt32 >>> ((8 : Int32).toUInt32 &&& Int32.toUInt32 31)).toInt32)) : Int32).toUInt32 >>> ((16 : Int32).toUInt32 &&& Int32.toUInt32 31)).toInt32)) &&& 63), rfl, (by rw [fJ0_bitCount]), ht⟩) (fun q h => nomatch h) dJ0_bitCount_52

def fX0_savedPlace (p0 p1 p2 p3 : Int32) : Int32 :=
  if (p0 &&& (1 <<< (p1 &&& 31))) = 0 then (-1)
  else (p2 + (p3 * (fJ0_bitCount (p0 &&& ((1 <<< (p1 &&& 31)) - 1)))))

abbrev wsX0_savedPlace : List Cond := .code yX0_savedPlace cX0_savedPlace 5 (some .int) :: wG
set_option maxHeartbeats 4000000 in
set_option maxRecDepth 100000 in
theorem mX0_savedPlace (l : Launch) (p0 p1 p2 p3 : Int32)  : Met l yX0_savedPlace wsX0_savedPlace ({ frames := 1, cells := 0, slots := 0, locals := 20 }) (va_Pc [.int p0, .int p1, .int p2, .int p3] (fun _ => True)) (vp_Si (fun r => r = fX0_savedPlace p0 p1 p2 p3)) 0 0 (fun _ => False) := by
  refine Met.ofW (cc := cX0_savedPlace) (maxL := 5) (ret := (some .int)) (by decide) rfl ?_
  intro p e s m args below meth c s₁ B hml hv
  obtain ⟨rfl, -⟩ := hv
  have hx := B.exec
  have hb := B.bytes
  have hr := B.returns
  have hts := atoms_spec (ws := wsX0_savedPlace) B.pre
  have htG := fun (w : Cond) (h : w ∈ wG) => hts w (List.mem_cons_of_mem _ h)
  have hown : s.vm.findClass RX0 = some m.cls := findClass_of_methodNamed B.named
  have hlocks := B.notSynchronized
  have hl := lv_entry ([.int p0, .int p1, .int p2, .int p3]) (n := 5) (Nat.le_of_ble_eq_true rfl)
  rw [lg_entry_eq]
  generalize (lg_sl ([.int p0, .int p1, .int p2, .int p3]) ++ List.replicate (5 - (lg_sl ([.int p0, .int p1, .int p2, .int p3])).length) Slot.unset).toArray = ls at hl ⊢
  have hl : lv_has ls 5 [(0, .int p0), (1, .int p1), (2, .int p2), (3, .int p3)] := hl
  refine lv_iconst (v := 1) hx hb dX0_savedPlace_0 (by decide) ?_
  refine lv_iload_n hx hb dX0_savedPlace_1 rfl (lv_at hl 1 rfl) ?_
  refine lv_ishl hx hb dX0_savedPlace_2 ?_
  refine lv_istore (lv' := [(4, .int (1 <<< (p1 &&& 31))), (0, .int p0), (1, .int p1), (2, .int p2), (3, .int p3)]) hx hb dX0_savedPlace_3 hl (by decide) rfl (fun ls hl => ?_)
  refine lv_iload_n hx hb dX0_savedPlace_5 rfl (lv_at hl 1 rfl) ?_
  refine lv_iload hx hb dX0_savedPlace_6 (lv_at hl 0 rfl) ?_
  refine lv_iand hx hb dX0_savedPlace_8 ?_
  refine lv_if_ne (tgt := 14) hx hb dX0_savedPlace_9 (by decide) (fun c_1 => ?_) (fun c_1 => ?_)
  · refine lv_iload_n hx hb dX0_savedPlace_14 rfl (lv_at hl 3 rfl) ?_
    refine lv_iload_n hx hb dX0_savedPlace_15 rfl (lv_at hl 4 rfl) ?_
    refine lv_iload_n hx hb dX0_savedPlace_16 rfl (lv_at hl 1 rfl) ?_
    refine lv_iload hx hb dX0_savedPlace_17 (lv_at hl 0 rfl) ?_
    refine lv_iconst (v := 1) hx hb dX0_savedPlace_19 (by decide) ?_
    refine lv_isub hx hb dX0_savedPlace_20 ?_
    refine lv_iand hx hb dX0_savedPlace_21 ?_
    refine vp_callSi (va_runS (As := [.int (p0 &&& ((1 <<< (p1 &&& 31)) - 1))]) (rest := [.int p3, .int p2]) ⟨hx, hb, hml, hown, htG⟩ (mJ0_bitCount l (p0 &&& ((1 <<< (p1 &&& 31)) - 1))) (va_cwS 1 htG (wG_S wd_308 wd_309 wd_31 wd_310) rfl rfl rfl (by decide +kernel) ⟨Nat.le_of_ble_eq_true rfl, Nat.le_of_ble_eq_true rfl⟩) ⟨fun _ _ _ _ q => q, fun U hU hW => ⟨rfl, trivial⟩⟩ rfl rfl hl.1 rfl (lv_room (Nat.le_of_ble_eq_true rfl)) dX0_savedPlace_22 ⟨Nat.le_of_ble_eq_true rfl, Nat.le_of_ble_eq_true rfl⟩).run (fun r_1 er_1 => ?_)
    subst er_1
    refine lv_imul hx hb dX0_savedPlace_25 ?_
    refine lv_iadd hx hb dX0_savedPlace_26 ?_
    exact W.iret (v := (p2 + (p3 * (fJ0_bitCount (p0 &&& ((1 <<< (p1 &&& 31)) - 1)))))) hx hb hr (fun t ht hW => ⟨(p2 + (p3 * (fJ0_bitCount (p0 &&& ((1 <<< (p1 &&& 31)) - 1))))), rfl, (by rw [fX0_savedPlace, if_neg c_1]), ht⟩) (fun q h => nomatch h) dX0_savedPlace_27
  · refine lv_iconst (v := (-1)) hx hb dX0_savedPlace_12 (by decide) ?_
    exact W.iret (v := (-1)) hx hb hr (fun t ht hW => ⟨(-1), rfl, (by rw [fX0_savedPlace, if_pos c_1]), ht⟩) (fun q h => nomatch h) dX0_savedPlace_13
end
section
def fX0_isAdded (xf3 : Int32) (p0 : Int32) : Int32 :=
  if p0 < 0 then 0
  else if xf3 ≤ p0 then 0
    else if 60 ≤ p0 then 0
      else 1
theorem bbX0_isAdded {xf3 p0 : Int32} : fX0_isAdded xf3 p0 = 0 ∨ fX0_isAdded xf3 p0 = 1 := by
  unfold fX0_isAdded
  repeat' split
  all_goals first | exact Or.inl rfl | exact Or.inr rfl | exact bbX0_isRecord
theorem nbX0_isAdded {xf3 p0 : Int32} : narrow .boolean (.int (fX0_isAdded xf3 p0)) = .int (fX0_isAdded xf3 p0) := nb_of bbX0_isAdded

theorem isAdded_in {c a : Int32} (h : ¬ fX0_isAdded c a = 0) : vp_in a 60 := by
  unfold fX0_isAdded at h
  by_cases h1 : a < 0
  · rw [if_pos h1] at h; exact absurd rfl h
  · rw [if_neg h1] at h
    by_cases h2 : c ≤ a
    · rw [if_pos h2] at h; exact absurd rfl h
    · rw [if_neg h2] at h
      by_cases h3 : 60 ≤ a
      · rw [if_pos h3] at h; exact absurd rfl h
      · exact in_of (M := 60) (by decide) h1 h3

abbrev wsX0_isAdded : List Cond := .code yX0_isAdded cX0_isAdded 2 (some .boolean) :: wG
set_option maxHeartbeats 4000000 in
set_option maxRecDepth 100000 in
theorem mX0_isAdded (l : Launch) (dC : Nat → ClassId) (dI : Nat → Nat → Nat) (xh0 xh1 xh2 xh3 : Nat) (xc1 xc2 xc3 : ClassId) (xk1 xk2 xk3 : Nat → Int32) (xf3 xf4 xf5 xf6 xf7 xf8 xf9 xf10 xf11 xf12 xf13 : Int32) (p0 : Int32)  : Met l yX0_isAdded wsX0_isAdded ({ frames := 0, cells := 0, slots := 0, locals := 0 }) (va_Pc [.ref xh0, .int p0] (fun U => va_P (dC, dI) vwCl (xW xh0 xh1 xh2 xh3 xc1 xc2 xc3 xk1 xk2 xk3 xf3 xf4 xf5 xf6 xf7 xf8 xf9 xf10 xf11 xf12 xf13) U.heap ∧ va_K (dC, dI) vwCl [(xc1, .int), (xc2, .int), (xc3, .int)] U)) (vp_Si (fun r => r = fX0_isAdded xf3 p0)) 0 0 (fun _ => False) := by
  refine Met.ofW (cc := cX0_isAdded) (maxL := 2) (ret := (some .boolean)) (by decide) rfl ?_
  intro p e s m args below meth c s₁ B hml hv
  obtain ⟨rfl, hP, hK⟩ := hv
  have hx := B.exec
  have hb := B.bytes
  have hr := B.returns
  have hts := atoms_spec (ws := wsX0_isAdded) B.pre
  have htG := fun (w : Cond) (h : w ∈ wG) => hts w (List.mem_cons_of_mem _ h)
  have hown : s.vm.findClass RX0 = some m.cls := findClass_of_methodNamed B.named
  have hlocks := B.notSynchronized
  have hl := lv_entry ([.ref xh0, .int p0]) (n := 2) (Nat.le_of_ble_eq_true rfl)
  rw [lg_entry_eq]
  generalize (lg_sl ([.ref xh0, .int p0]) ++ List.replicate (2 - (lg_sl ([.ref xh0, .int p0])).length) Slot.unset).toArray = ls at hl ⊢
  have hl : lv_has ls 2 [(0, .ref xh0), (1, .int p0)] := hl
  refine lv_iload_n hx hb dX0_isAdded_0 rfl (lv_at hl 1 rfl) ?_
  refine lv_if_lt (tgt := 22) hx hb dX0_isAdded_1 (by decide) (fun c_1 => ?_) (fun c_1 => ?_)
  · refine lv_iconst (v := 0) hx hb dX0_isAdded_22 (by decide) ?_
    exact W.zret (v := 0) hx hb hr rfl (fun t ht hW => ⟨0, rfl, (by rw [fX0_isAdded, if_pos c_1]), ht⟩) (fun q h => nomatch h) dX0_isAdded_23
  · refine lv_iload_n hx hb dX0_isAdded_4 rfl (lv_at hl 1 rfl) ?_
    refine lv_aload_n hx hb dX0_isAdded_5 rfl (lv_at hl 0 rfl) ?_
    refine va_get (D := (dC, dI)) (ci := 0) (v := .int xf3) (C := RX0) (T := TX0) (N := 14) hx hb htG inX0 hown hK hP 0 rfl rfl 3 (by decide) (htG _ wd_43) (fun _ h9 => h9) rfl dX0_isAdded_6 ?_
    refine lv_icmp_ge (tgt := 22) hx hb dX0_isAdded_9 (by decide) (fun c_2 => ?_) (fun c_2 => ?_)
    · refine lv_iconst (v := 0) hx hb dX0_isAdded_22 (by decide) ?_
      exact W.zret (v := 0) hx hb hr rfl (fun t ht hW => ⟨0, rfl, (by rw [fX0_isAdded, if_neg c_1, if_pos c_2]), ht⟩) (fun q h => nomatch h) dX0_isAdded_23
    · refine lv_iload_n hx hb dX0_isAdded_12 rfl (lv_at hl 1 rfl) ?_
      refine lv_bipush (v := 60) hx hb dX0_isAdded_13 (by decide) ?_
      refine lv_icmp_ge (tgt := 22) hx hb dX0_isAdded_15 (by decide) (fun c_3 => ?_) (fun c_3 => ?_)
      · refine lv_iconst (v := 0) hx hb dX0_isAdded_22 (by decide) ?_
        exact W.zret (v := 0) hx hb hr rfl (fun t ht hW => ⟨0, rfl, (by rw [fX0_isAdded, if_neg c_1, if_neg c_2, if_pos c_3]), ht⟩) (fun q h => nomatch h) dX0_isAdded_23
      · refine lv_iconst (v := 1) hx hb dX0_isAdded_18 (by decide) ?_
        refine lv_goto (tgt := 23) hx hb dX0_isAdded_19 (by decide) ?_
        exact W.zret (v := 1) hx hb hr rfl (fun t ht hW => ⟨1, rfl, (by rw [fX0_isAdded, if_neg c_1, if_neg c_2, if_neg c_3]), ht⟩) (fun q h => nomatch h) dX0_isAdded_23

def fX0_isArgument (xf3 xf4 : Int32) (p0 : Int32) : Int32 :=
  if p0 = (-1) then (if xf4 = 3 then 1
    else 0)
  else (fX0_isAdded xf3 p0)
theorem bbX0_isArgument {xf3 xf4 p0 : Int32} : fX0_isArgument xf3 xf4 p0 = 0 ∨ fX0_isArgument xf3 xf4 p0 = 1 := by
  unfold fX0_isArgument
  repeat' split
  all_goals first | exact Or.inl rfl | exact Or.inr rfl | exact bbX0_isRecord | exact bbX0_isAdded
theorem nbX0_isArgument {xf3 xf4 p0 : Int32} : narrow .boolean (.int (fX0_isArgument xf3 xf4 p0)) = .int (fX0_isArgument xf3 xf4 p0) := nb_of bbX0_isArgument

abbrev wsX0_isArgument : List Cond := .code yX0_isArgument cX0_isArgument 2 (some .boolean) :: wG
set_option maxHeartbeats 4000000 in
set_option maxRecDepth 100000 in
theorem mX0_isArgument (l : Launch) (dC : Nat → ClassId) (dI : Nat → Nat → Nat) (xh0 xh1 xh2 xh3 : Nat) (xc1 xc2 xc3 : ClassId) (xk1 xk2 xk3 : Nat → Int32) (xf3 xf4 xf5 xf6 xf7 xf8 xf9 xf10 xf11 xf12 xf13 : Int32) (p0 : Int32)  : Met l yX0_isArgument wsX0_isArgument ({ frames := 1, cells := 0, slots := 0, locals := 21 }) (va_Pc [.ref xh0, .int p0] (fun U => va_P (dC, dI) vwCl (xW xh0 xh1 xh2 xh3 xc1 xc2 xc3 xk1 xk2 xk3 xf3 xf4 xf5 xf6 xf7 xf8 xf9 xf10 xf11 xf12 xf13) U.heap ∧ va_K (dC, dI) vwCl [(xc1, .int), (xc2, .int), (xc3, .int)] U)) (vp_Si (fun r => r = fX0_isArgument xf3 xf4 p0)) 0 0 (fun _ => False) := by
  refine Met.ofW (cc := cX0_isArgument) (maxL := 2) (ret := (some .boolean)) (by decide) rfl ?_
  intro p e s m args below meth c s₁ B hml hv
  obtain ⟨rfl, hP, hK⟩ := hv
  have hx := B.exec
  have hb := B.bytes
  have hr := B.returns
  have hts := atoms_spec (ws := wsX0_isArgument) B.pre
  have htG := fun (w : Cond) (h : w ∈ wG) => hts w (List.mem_cons_of_mem _ h)
  have hown : s.vm.findClass RX0 = some m.cls := findClass_of_methodNamed B.named
  have hlocks := B.notSynchronized
  have hl := lv_entry ([.ref xh0, .int p0]) (n := 2) (Nat.le_of_ble_eq_true rfl)
  rw [lg_entry_eq]
  generalize (lg_sl ([.ref xh0, .int p0]) ++ List.replicate (2 - (lg_sl ([.ref xh0, .int p0])).length) Slot.unset).toArray = ls at hl ⊢
  have hl : lv_has ls 2 [(0, .ref xh0), (1, .int p0)] := hl
  refine lv_iload_n hx hb dX0_isArgument_0 rfl (lv_at hl 1 rfl) ?_
  refine lv_iconst (v := (-1)) hx hb dX0_isArgument_1 (by decide) ?_
  refine lv_icmp_ne (tgt := 19) hx hb dX0_isArgument_2 (by decide) (fun c_1 => ?_) (fun c_1 => ?_)
  · refine lv_aload_n hx hb dX0_isArgument_19 rfl (lv_at hl 0 rfl) ?_
    refine lv_iload_n hx hb dX0_isArgument_20 rfl (lv_at hl 1 rfl) ?_
    refine vp_callSi (va_runV (As := [.int p0]) (rest := []) ⟨hx, hb, hml, hown, htG⟩ (mX0_isAdded l dC dI xh0 xh1 xh2 xh3 xc1 xc2 xc3 xk1 xk2 xk3 xf3 xf4 xf5 xf6 xf7 xf8 xf9 xf10 xf11 xf12 xf13 p0) (cwV 1 htG (wG_V wd_228 wd_230 wd_3 wd_22 wd_231) rfl rfl rfl (by decide +kernel) ⟨Nat.le_of_ble_eq_true rfl, Nat.le_of_ble_eq_true rfl⟩) ⟨fun a U g mk q => by obtain ⟨q0, qP, qK⟩ := q; exact ⟨q0, qP, va_K.moved (u := U) (U := U.calling g mk a) (Vm.Alike.refl U.vm) qK⟩, va_recv hK hP (ci := 0) (q0 := 0) rfl rfl, fun U hU hW => ⟨rfl, by rw [hU]; exact hP, va_K.moved hW.alike hK⟩⟩ rfl rfl hl.1 rfl (lv_room (Nat.le_of_ble_eq_true rfl)) dX0_isArgument_21 ⟨Nat.le_of_ble_eq_true rfl, Nat.le_of_ble_eq_true rfl⟩).run (fun r_1 er_1 => ?_)
    subst er_1
    exact W.zret (v := (fX0_isAdded xf3 p0)) hx hb hr (nbX0_isAdded) (fun t ht hW => ⟨(fX0_isAdded xf3 p0), rfl, (by rw [fX0_isArgument, if_neg c_1]), ht⟩) (fun q h => nomatch h) dX0_isArgument_24
  · refine lv_aload_n hx hb dX0_isArgument_5 rfl (lv_at hl 0 rfl) ?_
    refine va_get (D := (dC, dI)) (ci := 0) (v := .int xf4) (C := RX0) (T := TX0) (N := 14) hx hb htG inX0 hown hK hP 0 rfl rfl 4 (by decide) (htG _ wd_44) (fun _ h9 => h9) rfl dX0_isArgument_6 ?_
    refine lv_iconst (v := 3) hx hb dX0_isArgument_9 (by decide) ?_
    refine lv_icmp_ne (tgt := 17) hx hb dX0_isArgument_10 (by decide) (fun c_2 => ?_) (fun c_2 => ?_)
    · refine lv_iconst (v := 0) hx hb dX0_isArgument_17 (by decide) ?_
      exact W.zret (v := 0) hx hb hr rfl (fun t ht hW => ⟨0, rfl, (by rw [fX0_isArgument, if_pos c_1, if_neg c_2]), ht⟩) (fun q h => nomatch h) dX0_isArgument_18
    · refine lv_iconst (v := 1) hx hb dX0_isArgument_13 (by decide) ?_
      refine lv_goto (tgt := 18) hx hb dX0_isArgument_14 (by decide) ?_
      exact W.zret (v := 1) hx hb hr rfl (fun t ht hW => ⟨1, rfl, (by rw [fX0_isArgument, if_pos c_1, if_pos c_2]), ht⟩) (fun q h => nomatch h) dX0_isArgument_18

def fX0_homeAt (xk2 : Nat → Int32) (xf3 : Int32) (p0 : Int32) : Int32 :=
  if (fX0_isAdded xf3 p0) = 0 then 0
  else (xk2 (p0 : Int32).toNatClampNeg)

abbrev wsX0_homeAt : List Cond := .code yX0_homeAt cX0_homeAt 2 (some .int) :: wG
set_option maxHeartbeats 4000000 in
set_option maxRecDepth 100000 in
theorem mX0_homeAt (l : Launch) (dC : Nat → ClassId) (dI : Nat → Nat → Nat) (xh0 xh1 xh2 xh3 : Nat) (xc1 xc2 xc3 : ClassId) (xk1 xk2 xk3 : Nat → Int32) (xf3 xf4 xf5 xf6 xf7 xf8 xf9 xf10 xf11 xf12 xf13 : Int32) (p0 : Int32)  : Met l yX0_homeAt wsX0_homeAt ({ frames := 1, cells := 0, slots := 0, locals := 21 }) (va_Pc [.ref xh0, .int p0] (fun U => va_P (dC, dI) vwCl (xW xh0 xh1 xh2 xh3 xc1 xc2 xc3 xk1 xk2 xk3 xf3 xf4 xf5 xf6 xf7 xf8 xf9 xf10 xf11 xf12 xf13) U.heap ∧ va_K (dC, dI) vwCl [(xc1, .int), (xc2, .int), (xc3, .int)] U)) (vp_Si (fun r => r = fX0_homeAt xk2 xf3 p0)) 0 0 (fun _ => False) := by
  refine Met.ofW (cc := cX0_homeAt) (maxL := 2) (ret := (some .int)) (by decide) rfl ?_
  intro p e s m args below meth c s₁ B hml hv
  obtain ⟨rfl, hP, hK⟩ := hv
  have hx := B.exec
  have hb := B.bytes
  have hr := B.returns
  have hts := atoms_spec (ws := wsX0_homeAt) B.pre
  have htG := fun (w : Cond) (h : w ∈ wG) => hts w (List.mem_cons_of_mem _ h)
  have hown : s.vm.findClass RX0 = some m.cls := findClass_of_methodNamed B.named
  have hlocks := B.notSynchronized
  have hl := lv_entry ([.ref xh0, .int p0]) (n := 2) (Nat.le_of_ble_eq_true rfl)
  rw [lg_entry_eq]
  generalize (lg_sl ([.ref xh0, .int p0]) ++ List.replicate (2 - (lg_sl ([.ref xh0, .int p0])).length) Slot.unset).toArray = ls at hl ⊢
  have hl : lv_has ls 2 [(0, .ref xh0), (1, .int p0)] := hl
  refine lv_aload_n hx hb dX0_homeAt_0 rfl (lv_at hl 0 rfl) ?_
  refine lv_iload_n hx hb dX0_homeAt_1 rfl (lv_at hl 1 rfl) ?_
  refine vp_callSi (va_runV (As := [.int p0]) (rest := []) ⟨hx, hb, hml, hown, htG⟩ (mX0_isAdded l dC dI xh0 xh1 xh2 xh3 xc1 xc2 xc3 xk1 xk2 xk3 xf3 xf4 xf5 xf6 xf7 xf8 xf9 xf10 xf11 xf12 xf13 p0) (cwV 1 htG (wG_V wd_228 wd_230 wd_3 wd_22 wd_231) rfl rfl rfl (by decide +kernel) ⟨Nat.le_of_ble_eq_true rfl, Nat.le_of_ble_eq_true rfl⟩) ⟨fun a U g mk q => by obtain ⟨q0, qP, qK⟩ := q; exact ⟨q0, qP, va_K.moved (u := U) (U := U.calling g mk a) (Vm.Alike.refl U.vm) qK⟩, va_recv hK hP (ci := 0) (q0 := 0) rfl rfl, fun U hU hW => ⟨rfl, by rw [hU]; exact hP, va_K.moved hW.alike hK⟩⟩ rfl rfl hl.1 rfl (lv_room (Nat.le_of_ble_eq_true rfl)) dX0_homeAt_2 ⟨Nat.le_of_ble_eq_true rfl, Nat.le_of_ble_eq_true rfl⟩).run (fun r_1 er_1 => ?_)
  subst er_1
  refine lv_if_eq (tgt := 17) hx hb dX0_homeAt_5 (by decide) (fun c_1 => ?_) (fun c_1 => ?_)
  · refine lv_iconst (v := 0) hx hb dX0_homeAt_17 (by decide) ?_
    exact W.iret (v := 0) hx hb hr (fun t ht hW => ⟨0, rfl, (by rw [fX0_homeAt, if_pos c_1]), ht⟩) (fun q h => nomatch h) dX0_homeAt_18
  · refine lv_aload_n hx hb dX0_homeAt_8 rfl (lv_at hl 0 rfl) ?_
    refine va_get (D := (dC, dI)) (ci := 0) (v := .ref xh2) (C := RX0) (T := TX0) (N := 14) hx hb htG inX0 hown hK hP 0 rfl rfl 1 (by decide) (htG _ wd_41) (fun _ h9 => h9) rfl dX0_homeAt_9 ?_
    refine lv_iload_n hx hb dX0_homeAt_12 rfl (lv_at hl 1 rfl) ?_
    refine va_iald hx hb hK hP 2 1 rfl rfl (isAdded_in c_1) dX0_homeAt_13 ?_
    refine lv_goto (tgt := 18) hx hb dX0_homeAt_14 (by decide) ?_
    exact W.iret (v := (xk2 (p0 : Int32).toNatClampNeg)) hx hb hr (fun t ht hW => ⟨(xk2 (p0 : Int32).toNatClampNeg), rfl, (by rw [fX0_homeAt, if_neg c_1]), ht⟩) (fun q h => nomatch h) dX0_homeAt_18

def fX0_bytesAt (xk3 : Nat → Int32) (xf3 : Int32) (p0 : Int32) : Int32 :=
  if (fX0_isAdded xf3 p0) = 0 then 4
  else (xk3 (p0 : Int32).toNatClampNeg)

abbrev wsX0_bytesAt : List Cond := .code yX0_bytesAt cX0_bytesAt 2 (some .int) :: wG
set_option maxHeartbeats 4000000 in
set_option maxRecDepth 100000 in
theorem mX0_bytesAt (l : Launch) (dC : Nat → ClassId) (dI : Nat → Nat → Nat) (xh0 xh1 xh2 xh3 : Nat) (xc1 xc2 xc3 : ClassId) (xk1 xk2 xk3 : Nat → Int32) (xf3 xf4 xf5 xf6 xf7 xf8 xf9 xf10 xf11 xf12 xf13 : Int32) (p0 : Int32)  : Met l yX0_bytesAt wsX0_bytesAt ({ frames := 1, cells := 0, slots := 0, locals := 21 }) (va_Pc [.ref xh0, .int p0] (fun U => va_P (dC, dI) vwCl (xW xh0 xh1 xh2 xh3 xc1 xc2 xc3 xk1 xk2 xk3 xf3 xf4 xf5 xf6 xf7 xf8 xf9 xf10 xf11 xf12 xf13) U.heap ∧ va_K (dC, dI) vwCl [(xc1, .int), (xc2, .int), (xc3, .int)] U)) (vp_Si (fun r => r = fX0_bytesAt xk3 xf3 p0)) 0 0 (fun _ => False) := by
  refine Met.ofW (cc := cX0_bytesAt) (maxL := 2) (ret := (some .int)) (by decide) rfl ?_
  intro p e s m args below meth c s₁ B hml hv
  obtain ⟨rfl, hP, hK⟩ := hv
  have hx := B.exec
  have hb := B.bytes
  have hr := B.returns
  have hts := atoms_spec (ws := wsX0_bytesAt) B.pre
  have htG := fun (w : Cond) (h : w ∈ wG) => hts w (List.mem_cons_of_mem _ h)
  have hown : s.vm.findClass RX0 = some m.cls := findClass_of_methodNamed B.named
  have hlocks := B.notSynchronized
  have hl := lv_entry ([.ref xh0, .int p0]) (n := 2) (Nat.le_of_ble_eq_true rfl)
  rw [lg_entry_eq]
  generalize (lg_sl ([.ref xh0, .int p0]) ++ List.replicate (2 - (lg_sl ([.ref xh0, .int p0])).length) Slot.unset).toArray = ls at hl ⊢
  have hl : lv_has ls 2 [(0, .ref xh0), (1, .int p0)] := hl
  refine lv_aload_n hx hb dX0_bytesAt_0 rfl (lv_at hl 0 rfl) ?_
  refine lv_iload_n hx hb dX0_bytesAt_1 rfl (lv_at hl 1 rfl) ?_
  refine vp_callSi (va_runV (As := [.int p0]) (rest := []) ⟨hx, hb, hml, hown, htG⟩ (mX0_isAdded l dC dI xh0 xh1 xh2 xh3 xc1 xc2 xc3 xk1 xk2 xk3 xf3 xf4 xf5 xf6 xf7 xf8 xf9 xf10 xf11 xf12 xf13 p0) (cwV 1 htG (wG_V wd_228 wd_230 wd_3 wd_22 wd_231) rfl rfl rfl (by decide +kernel) ⟨Nat.le_of_ble_eq_true rfl, Nat.le_of_ble_eq_true rfl⟩) ⟨fun a U g mk q => by obtain ⟨q0, qP, qK⟩ := q; exact ⟨q0, qP, va_K.moved (u := U) (U := U.calling g mk a) (Vm.Alike.refl U.vm) qK⟩, va_recv hK hP (ci := 0) (q0 := 0) rfl rfl, fun U hU hW => ⟨rfl, by rw [hU]; exact hP, va_K.moved hW.alike hK⟩⟩ rfl rfl hl.1 rfl (lv_room (Nat.le_of_ble_eq_true rfl)) dX0_bytesAt_2 ⟨Nat.le_of_ble_eq_true rfl, Nat.le_of_ble_eq_true rfl⟩).run (fun r_1 er_1 => ?_)
  subst er_1
  refine lv_if_eq (tgt := 17) hx hb dX0_bytesAt_5 (by decide) (fun c_1 => ?_) (fun c_1 => ?_)
  · refine lv_iconst (v := 4) hx hb dX0_bytesAt_17 (by decide) ?_
    exact W.iret (v := 4) hx hb hr (fun t ht hW => ⟨4, rfl, (by rw [fX0_bytesAt, if_pos c_1]), ht⟩) (fun q h => nomatch h) dX0_bytesAt_18
  · refine lv_aload_n hx hb dX0_bytesAt_8 rfl (lv_at hl 0 rfl) ?_
    refine va_get (D := (dC, dI)) (ci := 0) (v := .ref xh3) (C := RX0) (T := TX0) (N := 14) hx hb htG inX0 hown hK hP 0 rfl rfl 2 (by decide) (htG _ wd_42) (fun _ h9 => h9) rfl dX0_bytesAt_9 ?_
    refine lv_iload_n hx hb dX0_bytesAt_12 rfl (lv_at hl 1 rfl) ?_
    refine va_iald hx hb hK hP 3 2 rfl rfl (isAdded_in c_1) dX0_bytesAt_13 ?_
    refine lv_goto (tgt := 18) hx hb dX0_bytesAt_14 (by decide) ?_
    exact W.iret (v := (xk3 (p0 : Int32).toNatClampNeg)) hx hb hr (fun t ht hW => ⟨(xk3 (p0 : Int32).toNatClampNeg), rfl, (by rw [fX0_bytesAt, if_neg c_1]), ht⟩) (fun q h => nomatch h) dX0_bytesAt_18

def fX0_wordsAt (xk3 : Nat → Int32) (xf3 : Int32) (p0 : Int32) : Int32 :=
  ((fX0_fill (fX0_bytesAt xk3 xf3 p0) 4) / 4)

abbrev wsX0_wordsAt : List Cond := .code yX0_wordsAt cX0_wordsAt 2 (some .int) :: wG
set_option maxHeartbeats 4000000 in
set_option maxRecDepth 100000 in
theorem mX0_wordsAt (l : Launch) (dC : Nat → ClassId) (dI : Nat → Nat → Nat) (xh0 xh1 xh2 xh3 : Nat) (xc1 xc2 xc3 : ClassId) (xk1 xk2 xk3 : Nat → Int32) (xf3 xf4 xf5 xf6 xf7 xf8 xf9 xf10 xf11 xf12 xf13 : Int32) (p0 : Int32)  : Met l yX0_wordsAt wsX0_wordsAt ({ frames := 2, cells := 0, slots := 0, locals := 42 }) (va_Pc [.ref xh0, .int p0] (fun U => va_P (dC, dI) vwCl (xW xh0 xh1 xh2 xh3 xc1 xc2 xc3 xk1 xk2 xk3 xf3 xf4 xf5 xf6 xf7 xf8 xf9 xf10 xf11 xf12 xf13) U.heap ∧ va_K (dC, dI) vwCl [(xc1, .int), (xc2, .int), (xc3, .int)] U)) (vp_Si (fun r => r = fX0_wordsAt xk3 xf3 p0)) 0 0 (fun _ => False) := by
  refine Met.ofW (cc := cX0_wordsAt) (maxL := 2) (ret := (some .int)) (by decide) rfl ?_
  intro p e s m args below meth c s₁ B hml hv
  obtain ⟨rfl, hP, hK⟩ := hv
  have hx := B.exec
  have hb := B.bytes
  have hr := B.returns
  have hts := atoms_spec (ws := wsX0_wordsAt) B.pre
  have htG := fun (w : Cond) (h : w ∈ wG) => hts w (List.mem_cons_of_mem _ h)
  have hown : s.vm.findClass RX0 = some m.cls := findClass_of_methodNamed B.named
  have hlocks := B.notSynchronized
  have hl := lv_entry ([.ref xh0, .int p0]) (n := 2) (Nat.le_of_ble_eq_true rfl)
  rw [lg_entry_eq]
  generalize (lg_sl ([.ref xh0, .int p0]) ++ List.replicate (2 - (lg_sl ([.ref xh0, .int p0])).length) Slot.unset).toArray = ls at hl ⊢
  have hl : lv_has ls 2 [(0, .ref xh0), (1, .int p0)] := hl
  refine lv_aload_n hx hb dX0_wordsAt_0 rfl (lv_at hl 0 rfl) ?_
  refine lv_iload_n hx hb dX0_wordsAt_1 rfl (lv_at hl 1 rfl) ?_
  refine vp_callSi (va_runV (As := [.int p0]) (rest := []) ⟨hx, hb, hml, hown, htG⟩ (mX0_bytesAt l dC dI xh0 xh1 xh2 xh3 xc1 xc2 xc3 xk1 xk2 xk3 xf3 xf4 xf5 xf6 xf7 xf8 xf9 xf10 xf11 xf12 xf13 p0) (cwV 1 htG (wG_V wd_252 wd_254 wd_5 wd_22 wd_255) rfl rfl rfl (by decide +kernel) ⟨Nat.le_of_ble_eq_true rfl, Nat.le_of_ble_eq_true rfl⟩) ⟨fun a U g mk q => by obtain ⟨q0, qP, qK⟩ := q; exact ⟨q0, qP, va_K.moved (u := U) (U := U.calling g mk a) (Vm.Alike.refl U.vm) qK⟩, va_recv hK hP (ci := 0) (q0 := 0) rfl rfl, fun U hU hW => ⟨rfl, by rw [hU]; exact hP, va_K.moved hW.alike hK⟩⟩ rfl rfl hl.1 rfl (lv_room (Nat.le_of_ble_eq_true rfl)) dX0_wordsAt_2 ⟨Nat.le_of_ble_eq_true rfl, Nat.le_of_ble_eq_true rfl⟩).run (fun r_1 er_1 => ?_)
  subst er_1
  refine lv_iconst (v := 4) hx hb dX0_wordsAt_5 (by decide) ?_
  refine vp_callSi (va_runS (As := [.int (fX0_bytesAt xk3 xf3 p0), .int 4]) (rest := []) ⟨hx, hb, hml, hown, htG⟩ (mX0_fill l (fX0_bytesAt xk3 xf3 p0) 4) (va_cwS 2 htG (wG_S wd_92 wd_93 wd_22 wd_94) rfl rfl rfl (by decide +kernel) ⟨Nat.le_of_ble_eq_true rfl, Nat.le_of_ble_eq_true rfl⟩) ⟨fun _ _ _ _ q => q, fun U hU hW => ⟨rfl, trivial⟩⟩ rfl rfl hl.1 rfl (lv_room (Nat.le_of_ble_eq_true rfl)) dX0_wordsAt_6 ⟨Nat.le_of_ble_eq_true rfl, Nat.le_of_ble_eq_true rfl⟩).run (fun r_2 er_2 => ?_)
  subst er_2
  refine lv_iconst (v := 4) hx hb dX0_wordsAt_9 (by decide) ?_
  refine lv_idiv hx hb dX0_wordsAt_10 (by decide) ?_
  exact W.iret (v := ((fX0_fill (fX0_bytesAt xk3 xf3 p0) 4) / 4)) hx hb hr (fun t ht hW => ⟨((fX0_fill (fX0_bytesAt xk3 xf3 p0) 4) / 4), rfl, (by rw [fX0_wordsAt]), ht⟩) (fun q h => nomatch h) dX0_wordsAt_11

def fX0_isFractional (xk1 : Nat → Int32) (xf3 : Int32) (p0 : Int32) : Int32 :=
  if (fX0_isAdded xf3 p0) = 0 then 0
  else if (xk1 (p0 : Int32).toNatClampNeg) = 1 then 1
    else if (xk1 (p0 : Int32).toNatClampNeg) = 2 then 1
      else 0
theorem bbX0_isFractional {xk1 : Nat → Int32} {xf3 p0 : Int32} : fX0_isFractional xk1 xf3 p0 = 0 ∨ fX0_isFractional xk1 xf3 p0 = 1 := by
  unfold fX0_isFractional
  repeat' split
  all_goals first | exact Or.inl rfl | exact Or.inr rfl | exact bbX0_isRecord | exact bbX0_isAdded | exact bbX0_isArgument
theorem nbX0_isFractional {xk1 : Nat → Int32} {xf3 p0 : Int32} : narrow .boolean (.int (fX0_isFractional xk1 xf3 p0)) = .int (fX0_isFractional xk1 xf3 p0) := nb_of bbX0_isFractional

abbrev wsX0_isFractional : List Cond := .code yX0_isFractional cX0_isFractional 2 (some .boolean) :: wG
set_option maxHeartbeats 4000000 in
set_option maxRecDepth 100000 in
theorem mX0_isFractional (l : Launch) (dC : Nat → ClassId) (dI : Nat → Nat → Nat) (xh0 xh1 xh2 xh3 : Nat) (xc1 xc2 xc3 : ClassId) (xk1 xk2 xk3 : Nat → Int32) (xf3 xf4 xf5 xf6 xf7 xf8 xf9 xf10 xf11 xf12 xf13 : Int32) (p0 : Int32)  : Met l yX0_isFractional wsX0_isFractional ({ frames := 1, cells := 0, slots := 0, locals := 21 }) (va_Pc [.ref xh0, .int p0] (fun U => va_P (dC, dI) vwCl (xW xh0 xh1 xh2 xh3 xc1 xc2 xc3 xk1 xk2 xk3 xf3 xf4 xf5 xf6 xf7 xf8 xf9 xf10 xf11 xf12 xf13) U.heap ∧ va_K (dC, dI) vwCl [(xc1, .int), (xc2, .int), (xc3, .int)] U)) (vp_Si (fun r => r = fX0_isFractional xk1 xf3 p0)) 0 0 (fun _ => False) := by
  refine Met.ofW (cc := cX0_isFractional) (maxL := 2) (ret := (some .boolean)) (by decide) rfl ?_
  intro p e s m args below meth c s₁ B hml hv
  obtain ⟨rfl, hP, hK⟩ := hv
  have hx := B.exec
  have hb := B.bytes
  have hr := B.returns
  have hts := atoms_spec (ws := wsX0_isFractional) B.pre
  have htG := fun (w : Cond) (h : w ∈ wG) => hts w (List.mem_cons_of_mem _ h)
  have hown : s.vm.findClass RX0 = some m.cls := findClass_of_methodNamed B.named
  have hlocks := B.notSynchronized
  have hl := lv_entry ([.ref xh0, .int p0]) (n := 2) (Nat.le_of_ble_eq_true rfl)
  rw [lg_entry_eq]
  generalize (lg_sl ([.ref xh0, .int p0]) ++ List.replicate (2 - (lg_sl ([.ref xh0, .int p0])).length) Slot.unset).toArray = ls at hl ⊢
  have hl : lv_has ls 2 [(0, .ref xh0), (1, .int p0)] := hl
  refine lv_aload_n hx hb dX0_isFractional_0 rfl (lv_at hl 0 rfl) ?_
  refine lv_iload_n hx hb dX0_isFractional_1 rfl (lv_at hl 1 rfl) ?_
  refine vp_callSi (va_runV (As := [.int p0]) (rest := []) ⟨hx, hb, hml, hown, htG⟩ (mX0_isAdded l dC dI xh0 xh1 xh2 xh3 xc1 xc2 xc3 xk1 xk2 xk3 xf3 xf4 xf5 xf6 xf7 xf8 xf9 xf10 xf11 xf12 xf13 p0) (cwV 1 htG (wG_V wd_228 wd_230 wd_3 wd_22 wd_231) rfl rfl rfl (by decide +kernel) ⟨Nat.le_of_ble_eq_true rfl, Nat.le_of_ble_eq_true rfl⟩) ⟨fun a U g mk q => by obtain ⟨q0, qP, qK⟩ := q; exact ⟨q0, qP, va_K.moved (u := U) (U := U.calling g mk a) (Vm.Alike.refl U.vm) qK⟩, va_recv hK hP (ci := 0) (q0 := 0) rfl rfl, fun U hU hW => ⟨rfl, by rw [hU]; exact hP, va_K.moved hW.alike hK⟩⟩ rfl rfl hl.1 rfl (lv_room (Nat.le_of_ble_eq_true rfl)) dX0_isFractional_2 ⟨Nat.le_of_ble_eq_true rfl, Nat.le_of_ble_eq_true rfl⟩).run (fun r_1 er_1 => ?_)
  subst er_1
  refine lv_if_eq (tgt := 32) hx hb dX0_isFractional_5 (by decide) (fun c_1 => ?_) (fun c_1 => ?_)
  · refine lv_iconst (v := 0) hx hb dX0_isFractional_32 (by decide) ?_
    exact W.zret (v := 0) hx hb hr rfl (fun t ht hW => ⟨0, rfl, (by rw [fX0_isFractional, if_pos c_1]), ht⟩) (fun q h => nomatch h) dX0_isFractional_33
  · refine lv_aload_n hx hb dX0_isFractional_8 rfl (lv_at hl 0 rfl) ?_
    refine va_get (D := (dC, dI)) (ci := 0) (v := .ref xh1) (C := RX0) (T := TX0) (N := 14) hx hb htG inX0 hown hK hP 0 rfl rfl 0 (by decide) (htG _ wd_40) (fun _ h9 => h9) rfl dX0_isFractional_9 ?_
    refine lv_iload_n hx hb dX0_isFractional_12 rfl (lv_at hl 1 rfl) ?_
    refine va_iald hx hb hK hP 1 0 rfl rfl (isAdded_in c_1) dX0_isFractional_13 ?_
    refine lv_iconst (v := 1) hx hb dX0_isFractional_14 (by decide) ?_
    refine lv_icmp_eq (tgt := 28) hx hb dX0_isFractional_15 (by decide) (fun c_2 => ?_) (fun c_2 => ?_)
    · refine lv_iconst (v := 1) hx hb dX0_isFractional_28 (by decide) ?_
      refine lv_goto (tgt := 33) hx hb dX0_isFractional_29 (by decide) ?_
      exact W.zret (v := 1) hx hb hr rfl (fun t ht hW => ⟨1, rfl, (by rw [fX0_isFractional, if_neg c_1, if_pos c_2]), ht⟩) (fun q h => nomatch h) dX0_isFractional_33
    · refine lv_aload_n hx hb dX0_isFractional_18 rfl (lv_at hl 0 rfl) ?_
      refine va_get (D := (dC, dI)) (ci := 0) (v := .ref xh1) (C := RX0) (T := TX0) (N := 14) hx hb htG inX0 hown hK hP 0 rfl rfl 0 (by decide) (htG _ wd_40) (fun _ h9 => h9) rfl dX0_isFractional_19 ?_
      refine lv_iload_n hx hb dX0_isFractional_22 rfl (lv_at hl 1 rfl) ?_
      refine va_iald hx hb hK hP 1 0 rfl rfl (isAdded_in c_1) dX0_isFractional_23 ?_
      refine lv_iconst (v := 2) hx hb dX0_isFractional_24 (by decide) ?_
      refine lv_icmp_ne (tgt := 32) hx hb dX0_isFractional_25 (by decide) (fun c_3 => ?_) (fun c_3 => ?_)
      · refine lv_iconst (v := 0) hx hb dX0_isFractional_32 (by decide) ?_
        exact W.zret (v := 0) hx hb hr rfl (fun t ht hW => ⟨0, rfl, (by rw [fX0_isFractional, if_neg c_1, if_neg c_2, if_neg c_3]), ht⟩) (fun q h => nomatch h) dX0_isFractional_33
      · refine lv_iconst (v := 1) hx hb dX0_isFractional_28 (by decide) ?_
        refine lv_goto (tgt := 33) hx hb dX0_isFractional_29 (by decide) ?_
        exact W.zret (v := 1) hx hb hr rfl (fun t ht hW => ⟨1, rfl, (by rw [fX0_isFractional, if_neg c_1, if_neg c_2, if_pos c_3]), ht⟩) (fun q h => nomatch h) dX0_isFractional_33

def fX0_isInFraction (xk1 : Nat → Int32) (xf3 xf4 xf5 : Int32) (p0 : Int32) : Int32 :=
  if xf5 = 0 then (if xf4 = 3 then 0
    else if p0 = 0 then (fX0_isFractional xk1 xf3 0)
      else if p0 = 1 then (if (fX0_isFractional xk1 xf3 0) = 0 then 0
          else if (fX0_isFractional xk1 xf3 1) = 0 then 0
            else 1)
        else 0)
  else 0
theorem bbX0_isInFraction {xk1 : Nat → Int32} {xf3 xf4 xf5 p0 : Int32} : fX0_isInFraction xk1 xf3 xf4 xf5 p0 = 0 ∨ fX0_isInFraction xk1 xf3 xf4 xf5 p0 = 1 := by
  unfold fX0_isInFraction
  repeat' split
  all_goals first | exact Or.inl rfl | exact Or.inr rfl | exact bbX0_isRecord | exact bbX0_isAdded | exact bbX0_isArgument | exact bbX0_isFractional
theorem nbX0_isInFraction {xk1 : Nat → Int32} {xf3 xf4 xf5 p0 : Int32} : narrow .boolean (.int (fX0_isInFraction xk1 xf3 xf4 xf5 p0)) = .int (fX0_isInFraction xk1 xf3 xf4 xf5 p0) := nb_of bbX0_isInFraction

abbrev wsX0_isInFraction : List Cond := .code yX0_isInFraction cX0_isInFraction 2 (some .boolean) :: wG
set_option maxHeartbeats 4000000 in
set_option maxRecDepth 100000 in
theorem mX0_isInFraction (l : Launch) (dC : Nat → ClassId) (dI : Nat → Nat → Nat) (xh0 xh1 xh2 xh3 : Nat) (xc1 xc2 xc3 : ClassId) (xk1 xk2 xk3 : Nat → Int32) (xf3 xf4 xf5 xf6 xf7 xf8 xf9 xf10 xf11 xf12 xf13 : Int32) (p0 : Int32)  : Met l yX0_isInFraction wsX0_isInFraction ({ frames := 2, cells := 0, slots := 0, locals := 42 }) (va_Pc [.ref xh0, .int p0] (fun U => va_P (dC, dI) vwCl (xW xh0 xh1 xh2 xh3 xc1 xc2 xc3 xk1 xk2 xk3 xf3 xf4 xf5 xf6 xf7 xf8 xf9 xf10 xf11 xf12 xf13) U.heap ∧ va_K (dC, dI) vwCl [(xc1, .int), (xc2, .int), (xc3, .int)] U)) (vp_Si (fun r => r = fX0_isInFraction xk1 xf3 xf4 xf5 p0)) 0 0 (fun _ => False) := by
  refine Met.ofW (cc := cX0_isInFraction) (maxL := 2) (ret := (some .boolean)) (by decide) rfl ?_
  intro p e s m args below meth c s₁ B hml hv
  obtain ⟨rfl, hP, hK⟩ := hv
  have hx := B.exec
  have hb := B.bytes
  have hr := B.returns
  have hts := atoms_spec (ws := wsX0_isInFraction) B.pre
  have htG := fun (w : Cond) (h : w ∈ wG) => hts w (List.mem_cons_of_mem _ h)
  have hown : s.vm.findClass RX0 = some m.cls := findClass_of_methodNamed B.named
  have hlocks := B.notSynchronized
  have hl := lv_entry ([.ref xh0, .int p0]) (n := 2) (Nat.le_of_ble_eq_true rfl)
  rw [lg_entry_eq]
  generalize (lg_sl ([.ref xh0, .int p0]) ++ List.replicate (2 - (lg_sl ([.ref xh0, .int p0])).length) Slot.unset).toArray = ls at hl ⊢
  have hl : lv_has ls 2 [(0, .ref xh0), (1, .int p0)] := hl
  refine lv_aload_n hx hb dX0_isInFraction_0 rfl (lv_at hl 0 rfl) ?_
  refine va_get (D := (dC, dI)) (ci := 0) (v := .int xf5) (C := RX0) (T := TX0) (N := 14) hx hb htG inX0 hown hK hP 0 rfl rfl 5 (by decide) (htG _ wd_45) (fun _ h9 => h9) rfl dX0_isInFraction_1 ?_
  refine lv_if_ne (tgt := 15) hx hb dX0_isInFraction_4 (by decide) (fun c_1 => ?_) (fun c_1 => ?_)
  · refine lv_iconst (v := 0) hx hb dX0_isInFraction_15 (by decide) ?_
    exact W.zret (v := 0) hx hb hr rfl (fun t ht hW => ⟨0, rfl, (by rw [fX0_isInFraction, if_neg c_1]), ht⟩) (fun q h => nomatch h) dX0_isInFraction_16
  · refine lv_aload_n hx hb dX0_isInFraction_7 rfl (lv_at hl 0 rfl) ?_
    refine va_get (D := (dC, dI)) (ci := 0) (v := .int xf4) (C := RX0) (T := TX0) (N := 14) hx hb htG inX0 hown hK hP 0 rfl rfl 4 (by decide) (htG _ wd_44) (fun _ h9 => h9) rfl dX0_isInFraction_8 ?_
    refine lv_iconst (v := 3) hx hb dX0_isInFraction_11 (by decide) ?_
    refine lv_icmp_ne (tgt := 17) hx hb dX0_isInFraction_12 (by decide) (fun c_2 => ?_) (fun c_2 => ?_)
    · refine lv_iload_n hx hb dX0_isInFraction_17 rfl (lv_at hl 1 rfl) ?_
      refine lv_if_ne (tgt := 27) hx hb dX0_isInFraction_18 (by decide) (fun c_3 => ?_) (fun c_3 => ?_)
      · refine lv_iload_n hx hb dX0_isInFraction_27 rfl (lv_at hl 1 rfl) ?_
        refine lv_iconst (v := 1) hx hb dX0_isInFraction_28 (by decide) ?_
        refine lv_icmp_ne (tgt := 52) hx hb dX0_isInFraction_29 (by decide) (fun c_4 => ?_) (fun c_4 => ?_)
        · refine lv_iconst (v := 0) hx hb dX0_isInFraction_52 (by decide) ?_
          exact W.zret (v := 0) hx hb hr rfl (fun t ht hW => ⟨0, rfl, (by rw [fX0_isInFraction, if_pos c_1, if_neg c_2, if_neg c_3, if_neg c_4]), ht⟩) (fun q h => nomatch h) dX0_isInFraction_53
        · refine lv_aload_n hx hb dX0_isInFraction_32 rfl (lv_at hl 0 rfl) ?_
          refine lv_iconst (v := 0) hx hb dX0_isInFraction_33 (by decide) ?_
          refine vp_callSi (va_runV (As := [.int 0]) (rest := []) ⟨hx, hb, hml, hown, htG⟩ (mX0_isFractional l dC dI xh0 xh1 xh2 xh3 xc1 xc2 xc3 xk1 xk2 xk3 xf3 xf4 xf5 xf6 xf7 xf8 xf9 xf10 xf11 xf12 xf13 0) (cwV 1 htG (wG_V wd_261 wd_263 wd_7 wd_22 wd_264) rfl rfl rfl (by decide +kernel) ⟨Nat.le_of_ble_eq_true rfl, Nat.le_of_ble_eq_true rfl⟩) ⟨fun a U g mk q => by obtain ⟨q0, qP, qK⟩ := q; exact ⟨q0, qP, va_K.moved (u := U) (U := U.calling g mk a) (Vm.Alike.refl U.vm) qK⟩, va_recv hK hP (ci := 0) (q0 := 0) rfl rfl, fun U hU hW => ⟨rfl, by rw [hU]; exact hP, va_K.moved hW.alike hK⟩⟩ rfl rfl hl.1 rfl (lv_room (Nat.le_of_ble_eq_true rfl)) dX0_isInFraction_34 ⟨Nat.le_of_ble_eq_true rfl, Nat.le_of_ble_eq_true rfl⟩).run (fun r_1 er_1 => ?_)
          subst er_1
          refine lv_if_eq (tgt := 52) hx hb dX0_isInFraction_37 (by decide) (fun c_5 => ?_) (fun c_5 => ?_)
          · refine lv_iconst (v := 0) hx hb dX0_isInFraction_52 (by decide) ?_
            exact W.zret (v := 0) hx hb hr rfl (fun t ht hW => ⟨0, rfl, (by rw [fX0_isInFraction, if_pos c_1, if_neg c_2, if_neg c_3, if_pos c_4, if_pos c_5]), ht⟩) (fun q h => nomatch h) dX0_isInFraction_53
          · refine lv_aload_n hx hb dX0_isInFraction_40 rfl (lv_at hl 0 rfl) ?_
            refine lv_iconst (v := 1) hx hb dX0_isInFraction_41 (by decide) ?_
            refine vp_callSi (va_runV (As := [.int 1]) (rest := []) ⟨hx, hb, hml, hown, htG⟩ (mX0_isFractional l dC dI xh0 xh1 xh2 xh3 xc1 xc2 xc3 xk1 xk2 xk3 xf3 xf4 xf5 xf6 xf7 xf8 xf9 xf10 xf11 xf12 xf13 1) (cwV 1 htG (wG_V wd_261 wd_263 wd_7 wd_22 wd_264) rfl rfl rfl (by decide +kernel) ⟨Nat.le_of_ble_eq_true rfl, Nat.le_of_ble_eq_true rfl⟩) ⟨fun a U g mk q => by obtain ⟨q0, qP, qK⟩ := q; exact ⟨q0, qP, va_K.moved (u := U) (U := U.calling g mk a) (Vm.Alike.refl U.vm) qK⟩, va_recv hK hP (ci := 0) (q0 := 0) rfl rfl, fun U hU hW => ⟨rfl, by rw [hU]; exact hP, va_K.moved hW.alike hK⟩⟩ rfl rfl hl.1 rfl (lv_room (Nat.le_of_ble_eq_true rfl)) dX0_isInFraction_42 ⟨Nat.le_of_ble_eq_true rfl, Nat.le_of_ble_eq_true rfl⟩).run (fun r_2 er_2 => ?_)
            subst er_2
            refine lv_if_eq (tgt := 52) hx hb dX0_isInFraction_45 (by decide) (fun c_6 => ?_) (fun c_6 => ?_)
            · refine lv_iconst (v := 0) hx hb dX0_isInFraction_52 (by decide) ?_
              exact W.zret (v := 0) hx hb hr rfl (fun t ht hW => ⟨0, rfl, (by rw [fX0_isInFraction, if_pos c_1, if_neg c_2, if_neg c_3, if_pos c_4, if_neg c_5, if_pos c_6]), ht⟩) (fun q h => nomatch h) dX0_isInFraction_53
            · refine lv_iconst (v := 1) hx hb dX0_isInFraction_48 (by decide) ?_
              refine lv_goto (tgt := 53) hx hb dX0_isInFraction_49 (by decide) ?_
              exact W.zret (v := 1) hx hb hr rfl (fun t ht hW => ⟨1, rfl, (by rw [fX0_isInFraction, if_pos c_1, if_neg c_2, if_neg c_3, if_pos c_4, if_neg c_5, if_neg c_6]), ht⟩) (fun q h => nomatch h) dX0_isInFraction_53
      · refine lv_aload_n hx hb dX0_isInFraction_21 rfl (lv_at hl 0 rfl) ?_
        refine lv_iconst (v := 0) hx hb dX0_isInFraction_22 (by decide) ?_
        refine vp_callSi (va_runV (As := [.int 0]) (rest := []) ⟨hx, hb, hml, hown, htG⟩ (mX0_isFractional l dC dI xh0 xh1 xh2 xh3 xc1 xc2 xc3 xk1 xk2 xk3 xf3 xf4 xf5 xf6 xf7 xf8 xf9 xf10 xf11 xf12 xf13 0) (cwV 1 htG (wG_V wd_261 wd_263 wd_7 wd_22 wd_264) rfl rfl rfl (by decide +kernel) ⟨Nat.le_of_ble_eq_true rfl, Nat.le_of_ble_eq_true rfl⟩) ⟨fun a U g mk q => by obtain ⟨q0, qP, qK⟩ := q; exact ⟨q0, qP, va_K.moved (u := U) (U := U.calling g mk a) (Vm.Alike.refl U.vm) qK⟩, va_recv hK hP (ci := 0) (q0 := 0) rfl rfl, fun U hU hW => ⟨rfl, by rw [hU]; exact hP, va_K.moved hW.alike hK⟩⟩ rfl rfl hl.1 rfl (lv_room (Nat.le_of_ble_eq_true rfl)) dX0_isInFraction_23 ⟨Nat.le_of_ble_eq_true rfl, Nat.le_of_ble_eq_true rfl⟩).run (fun r_3 er_3 => ?_)
        subst er_3
        exact W.zret (v := (fX0_isFractional xk1 xf3 0)) hx hb hr (nbX0_isFractional) (fun t ht hW => ⟨(fX0_isFractional xk1 xf3 0), rfl, (by rw [fX0_isInFraction, if_pos c_1, if_neg c_2, if_pos c_3]), ht⟩) (fun q h => nomatch h) dX0_isInFraction_26
    · refine lv_iconst (v := 0) hx hb dX0_isInFraction_15 (by decide) ?_
      exact W.zret (v := 0) hx hb hr rfl (fun t ht hW => ⟨0, rfl, (by rw [fX0_isInFraction, if_pos c_1, if_pos c_2]), ht⟩) (fun q h => nomatch h) dX0_isInFraction_16

def fX0_fractionOf (xk3 : Nat → Int32) (xf3 : Int32) (p0 p1 : Int32) : Int32 :=
  if (fX0_wordsAt xk3 xf3 p0) = 2 then (((44 + (2 * p0)) + 1) - p1)
  else (44 + (2 * p0))

abbrev wsX0_fractionOf : List Cond := .code yX0_fractionOf cX0_fractionOf 4 (some .int) :: wG
set_option maxHeartbeats 4000000 in
set_option maxRecDepth 100000 in
theorem mX0_fractionOf (l : Launch) (dC : Nat → ClassId) (dI : Nat → Nat → Nat) (xh0 xh1 xh2 xh3 : Nat) (xc1 xc2 xc3 : ClassId) (xk1 xk2 xk3 : Nat → Int32) (xf3 xf4 xf5 xf6 xf7 xf8 xf9 xf10 xf11 xf12 xf13 : Int32) (p0 p1 : Int32)  : Met l yX0_fractionOf wsX0_fractionOf ({ frames := 3, cells := 0, slots := 0, locals := 63 }) (va_Pc [.ref xh0, .int p0, .int p1] (fun U => va_P (dC, dI) vwCl (xW xh0 xh1 xh2 xh3 xc1 xc2 xc3 xk1 xk2 xk3 xf3 xf4 xf5 xf6 xf7 xf8 xf9 xf10 xf11 xf12 xf13) U.heap ∧ va_K (dC, dI) vwCl [(xc1, .int), (xc2, .int), (xc3, .int)] U)) (vp_Si (fun r => r = fX0_fractionOf xk3 xf3 p0 p1)) 0 0 (fun _ => False) := by
  refine Met.ofW (cc := cX0_fractionOf) (maxL := 4) (ret := (some .int)) (by decide) rfl ?_
  intro p e s m args below meth c s₁ B hml hv
  obtain ⟨rfl, hP, hK⟩ := hv
  have hx := B.exec
  have hb := B.bytes
  have hr := B.returns
  have hts := atoms_spec (ws := wsX0_fractionOf) B.pre
  have htG := fun (w : Cond) (h : w ∈ wG) => hts w (List.mem_cons_of_mem _ h)
  have hown : s.vm.findClass RX0 = some m.cls := findClass_of_methodNamed B.named
  have hlocks := B.notSynchronized
  have hl := lv_entry ([.ref xh0, .int p0, .int p1]) (n := 4) (Nat.le_of_ble_eq_true rfl)
  rw [lg_entry_eq]
  generalize (lg_sl ([.ref xh0, .int p0, .int p1]) ++ List.replicate (4 - (lg_sl ([.ref xh0, .int p0, .int p1])).length) Slot.unset).toArray = ls at hl ⊢
  have hl : lv_has ls 4 [(0, .ref xh0), (1, .int p0), (2, .int p1)] := hl
  refine lv_bipush (v := 44) hx hb dX0_fractionOf_0 (by decide) ?_
  refine lv_iconst (v := 2) hx hb dX0_fractionOf_2 (by decide) ?_
  refine lv_iload_n hx hb dX0_fractionOf_3 rfl (lv_at hl 1 rfl) ?_
  refine lv_imul hx hb dX0_fractionOf_4 ?_
  refine lv_iadd hx hb dX0_fractionOf_5 ?_
  refine lv_istore_n (lv' := [(3, .int (44 + (2 * p0))), (0, .ref xh0), (1, .int p0), (2, .int p1)]) hx hb dX0_fractionOf_6 rfl hl (by decide) rfl (fun ls hl => ?_)
  refine lv_aload_n hx hb dX0_fractionOf_7 rfl (lv_at hl 1 rfl) ?_
  refine lv_iload_n hx hb dX0_fractionOf_8 rfl (lv_at hl 2 rfl) ?_
  refine vp_callSi (va_runV (As := [.int p0]) (rest := []) ⟨hx, hb, hml, hown, htG⟩ (mX0_wordsAt l dC dI xh0 xh1 xh2 xh3 xc1 xc2 xc3 xk1 xk2 xk3 xf3 xf4 xf5 xf6 xf7 xf8 xf9 xf10 xf11 xf12 xf13 p0) (cwV 1 htG (wG_V wd_248 wd_250 wd_4 wd_22 wd_251) rfl rfl rfl (by decide +kernel) ⟨Nat.le_of_ble_eq_true rfl, Nat.le_of_ble_eq_true rfl⟩) ⟨fun a U g mk q => by obtain ⟨q0, qP, qK⟩ := q; exact ⟨q0, qP, va_K.moved (u := U) (U := U.calling g mk a) (Vm.Alike.refl U.vm) qK⟩, va_recv hK hP (ci := 0) (q0 := 0) rfl rfl, fun U hU hW => ⟨rfl, by rw [hU]; exact hP, va_K.moved hW.alike hK⟩⟩ rfl rfl hl.1 rfl (lv_room (Nat.le_of_ble_eq_true rfl)) dX0_fractionOf_9 ⟨Nat.le_of_ble_eq_true rfl, Nat.le_of_ble_eq_true rfl⟩).run (fun r_1 er_1 => ?_)
  subst er_1
  refine lv_iconst (v := 2) hx hb dX0_fractionOf_12 (by decide) ?_
  refine lv_icmp_ne (tgt := 24) hx hb dX0_fractionOf_13 (by decide) (fun c_1 => ?_) (fun c_1 => ?_)
  · refine lv_iload_n hx hb dX0_fractionOf_24 rfl (lv_at hl 0 rfl) ?_
    exact W.iret (v := (44 + (2 * p0))) hx hb hr (fun t ht hW => ⟨(44 + (2 * p0)), rfl, (by rw [fX0_fractionOf, if_neg c_1]), ht⟩) (fun q h => nomatch h) dX0_fractionOf_25
  · refine lv_iload_n hx hb dX0_fractionOf_16 rfl (lv_at hl 0 rfl) ?_
    refine lv_iconst (v := 1) hx hb dX0_fractionOf_17 (by decide) ?_
    refine lv_iadd hx hb dX0_fractionOf_18 ?_
    refine lv_iload_n hx hb dX0_fractionOf_19 rfl (lv_at hl 3 rfl) ?_
    refine lv_isub hx hb dX0_fractionOf_20 ?_
    refine lv_goto (tgt := 25) hx hb dX0_fractionOf_21 (by decide) ?_
    exact W.iret (v := (((44 + (2 * p0)) + 1) - p1)) hx hb hr (fun t ht hW => ⟨(((44 + (2 * p0)) + 1) - p1), rfl, (by rw [fX0_fractionOf, if_pos c_1]), ht⟩) (fun q h => nomatch h) dX0_fractionOf_25

def fX0_areaSize (xf6 : Int32) : Int32 :=
  (if (fX0_fill xf6 8) < 16 then 16 else (fX0_fill xf6 8))

abbrev wsX0_areaSize : List Cond := .code yX0_areaSize cX0_areaSize 1 (some .int) :: wG
set_option maxHeartbeats 4000000 in
set_option maxRecDepth 100000 in
theorem mX0_areaSize (l : Launch) (dC : Nat → ClassId) (dI : Nat → Nat → Nat) (xh0 xh1 xh2 xh3 : Nat) (xc1 xc2 xc3 : ClassId) (xk1 xk2 xk3 : Nat → Int32) (xf3 xf4 xf5 xf6 xf7 xf8 xf9 xf10 xf11 xf12 xf13 : Int32)   : Met l yX0_areaSize wsX0_areaSize ({ frames := 1, cells := 0, slots := 0, locals := 21 }) (va_Pc [.ref xh0] (fun U => va_P (dC, dI) vwCl (xW xh0 xh1 xh2 xh3 xc1 xc2 xc3 xk1 xk2 xk3 xf3 xf4 xf5 xf6 xf7 xf8 xf9 xf10 xf11 xf12 xf13) U.heap ∧ va_K (dC, dI) vwCl [(xc1, .int), (xc2, .int), (xc3, .int)] U)) (vp_Si (fun r => r = fX0_areaSize xf6)) 0 0 (fun _ => False) := by
  refine Met.ofW (cc := cX0_areaSize) (maxL := 1) (ret := (some .int)) (by decide) rfl ?_
  intro p e s m args below meth c s₁ B hml hv
  obtain ⟨rfl, hP, hK⟩ := hv
  have hx := B.exec
  have hb := B.bytes
  have hr := B.returns
  have hts := atoms_spec (ws := wsX0_areaSize) B.pre
  have htG := fun (w : Cond) (h : w ∈ wG) => hts w (List.mem_cons_of_mem _ h)
  have hown : s.vm.findClass RX0 = some m.cls := findClass_of_methodNamed B.named
  have hlocks := B.notSynchronized
  have hl := lv_entry ([.ref xh0]) (n := 1) (Nat.le_of_ble_eq_true rfl)
  rw [lg_entry_eq]
  generalize (lg_sl ([.ref xh0]) ++ List.replicate (1 - (lg_sl ([.ref xh0])).length) Slot.unset).toArray = ls at hl ⊢
  have hl : lv_has ls 1 [(0, .ref xh0)] := hl
  refine lv_aload_n hx hb dX0_areaSize_0 rfl (lv_at hl 0 rfl) ?_
  refine va_get (D := (dC, dI)) (ci := 0) (v := .int xf6) (C := RX0) (T := TX0) (N := 14) hx hb htG inX0 hown hK hP 0 rfl rfl 6 (by decide) (htG _ wd_46) (fun _ h9 => h9) rfl dX0_areaSize_1 ?_
  refine lv_bipush (v := 8) hx hb dX0_areaSize_4 (by decide) ?_
  refine vp_callSi (va_runS (As := [.int xf6, .int 8]) (rest := []) ⟨hx, hb, hml, hown, htG⟩ (mX0_fill l xf6 8) (va_cwS 2 htG (wG_S wd_92 wd_93 wd_22 wd_94) rfl rfl rfl (by decide +kernel) ⟨Nat.le_of_ble_eq_true rfl, Nat.le_of_ble_eq_true rfl⟩) ⟨fun _ _ _ _ q => q, fun U hU hW => ⟨rfl, trivial⟩⟩ rfl rfl hl.1 rfl (lv_room (Nat.le_of_ble_eq_true rfl)) dX0_areaSize_6 ⟨Nat.le_of_ble_eq_true rfl, Nat.le_of_ble_eq_true rfl⟩).run (fun r_1 er_1 => ?_)
  subst er_1
  refine lv_bipush (v := 16) hx hb dX0_areaSize_9 (by decide) ?_
  refine va_mmax hx hb (hml.trans hl.1.symm) hown (htG _ wd_95) (htG _ wd_96) (htG _ wd_30) (htG _ wd_97) (Nat.le_of_ble_eq_true rfl) (Nat.le_of_ble_eq_true rfl) (Nat.le_of_ble_eq_true rfl) (Nat.le_of_ble_eq_true rfl) dX0_areaSize_11 ?_
  exact W.iret (v := (if (fX0_fill xf6 8) < 16 then 16 else (fX0_fill xf6 8))) hx hb hr (fun t ht hW => ⟨(if (fX0_fill xf6 8) < 16 then 16 else (fX0_fill xf6 8)), rfl, (by rw [fX0_areaSize]), ht⟩) (fun q h => nomatch h) dX0_areaSize_14

def fX0_resultPlace (xf4 : Int32) : Int32 :=
  if xf4 = 0 then 2
  else if xf4 = 1 then 32
    else if xf4 = 2 then 32
      else if xf4 = 3 then 2
        else (-1)

abbrev wsX0_resultPlace : List Cond := .code yX0_resultPlace cX0_resultPlace 1 (some .int) :: wG
set_option maxHeartbeats 4000000 in
set_option maxRecDepth 100000 in
theorem mX0_resultPlace (l : Launch) (dC : Nat → ClassId) (dI : Nat → Nat → Nat) (xh0 xh1 xh2 xh3 : Nat) (xc1 xc2 xc3 : ClassId) (xk1 xk2 xk3 : Nat → Int32) (xf3 xf4 xf5 xf6 xf7 xf8 xf9 xf10 xf11 xf12 xf13 : Int32)   : Met l yX0_resultPlace wsX0_resultPlace ({ frames := 0, cells := 0, slots := 0, locals := 0 }) (va_Pc [.ref xh0] (fun U => va_P (dC, dI) vwCl (xW xh0 xh1 xh2 xh3 xc1 xc2 xc3 xk1 xk2 xk3 xf3 xf4 xf5 xf6 xf7 xf8 xf9 xf10 xf11 xf12 xf13) U.heap ∧ va_K (dC, dI) vwCl [(xc1, .int), (xc2, .int), (xc3, .int)] U)) (vp_Si (fun r => r = fX0_resultPlace xf4)) 0 0 (fun _ => False) := by
  refine Met.ofW (cc := cX0_resultPlace) (maxL := 1) (ret := (some .int)) (by decide) rfl ?_
  intro p e s m args below meth c s₁ B hml hv
  obtain ⟨rfl, hP, hK⟩ := hv
  have hx := B.exec
  have hb := B.bytes
  have hr := B.returns
  have hts := atoms_spec (ws := wsX0_resultPlace) B.pre
  have htG := fun (w : Cond) (h : w ∈ wG) => hts w (List.mem_cons_of_mem _ h)
  have hown : s.vm.findClass RX0 = some m.cls := findClass_of_methodNamed B.named
  have hlocks := B.notSynchronized
  have hl := lv_entry ([.ref xh0]) (n := 1) (Nat.le_of_ble_eq_true rfl)
  rw [lg_entry_eq]
  generalize (lg_sl ([.ref xh0]) ++ List.replicate (1 - (lg_sl ([.ref xh0])).length) Slot.unset).toArray = ls at hl ⊢
  have hl : lv_has ls 1 [(0, .ref xh0)] := hl
  refine lv_aload_n hx hb dX0_resultPlace_0 rfl (lv_at hl 0 rfl) ?_
  refine va_get (D := (dC, dI)) (ci := 0) (v := .int xf4) (C := RX0) (T := TX0) (N := 14) hx hb htG inX0 hown hK hP 0 rfl rfl 4 (by decide) (htG _ wd_44) (fun _ h9 => h9) rfl dX0_resultPlace_1 ?_
  -- a switch of xf4
  rcases Classical.em (xf4 = 0) with c_1 | c_1
  · refine lv_tableIn (tgt := 36) (off := 32) hx hb dX0_resultPlace_4 (by rw [c_1]; decide) (by rw [c_1]; decide) (by rw [c_1]; rfl) (by decide) ?_
    refine lv_iconst (v := 2) hx hb dX0_resultPlace_36 (by decide) ?_
    exact W.iret (v := 2) hx hb hr (fun t ht hW => ⟨2, rfl, (by rw [fX0_resultPlace, if_pos c_1]), ht⟩) (fun q h => nomatch h) dX0_resultPlace_37
  · rcases Classical.em (xf4 = 1) with c_2 | c_2
    · refine lv_tableIn (tgt := 38) (off := 34) hx hb dX0_resultPlace_4 (by rw [c_2]; decide) (by rw [c_2]; decide) (by rw [c_2]; rfl) (by decide) ?_
      refine lv_bipush (v := 32) hx hb dX0_resultPlace_38 (by decide) ?_
      exact W.iret (v := 32) hx hb hr (fun t ht hW => ⟨32, rfl, (by rw [fX0_resultPlace, if_neg c_1, if_pos c_2]), ht⟩) (fun q h => nomatch h) dX0_resultPlace_40
    · rcases Classical.em (xf4 = 2) with c_3 | c_3
      · refine lv_tableIn (tgt := 38) (off := 34) hx hb dX0_resultPlace_4 (by rw [c_3]; decide) (by rw [c_3]; decide) (by rw [c_3]; rfl) (by decide) ?_
        refine lv_bipush (v := 32) hx hb dX0_resultPlace_38 (by decide) ?_
        exact W.iret (v := 32) hx hb hr (fun t ht hW => ⟨32, rfl, (by rw [fX0_resultPlace, if_neg c_1, if_neg c_2, if_pos c_3]), ht⟩) (fun q h => nomatch h) dX0_resultPlace_40
      · rcases Classical.em (xf4 = 3) with c_4 | c_4
        · refine lv_tableIn (tgt := 36) (off := 32) hx hb dX0_resultPlace_4 (by rw [c_4]; decide) (by rw [c_4]; decide) (by rw [c_4]; rfl) (by decide) ?_
          refine lv_iconst (v := 2) hx hb dX0_resultPlace_36 (by decide) ?_
          exact W.iret (v := 2) hx hb hr (fun t ht hW => ⟨2, rfl, (by rw [fX0_resultPlace, if_neg c_1, if_neg c_2, if_neg c_3, if_pos c_4]), ht⟩) (fun q h => nomatch h) dX0_resultPlace_37
        · refine lv_tableOut (tgt := 41) hx hb dX0_resultPlace_4 (tab_out0_3 c_1 c_2 c_3 c_4) (by decide) ?_
          refine lv_iconst (v := (-1)) hx hb dX0_resultPlace_41 (by decide) ?_
          exact W.iret (v := (-1)) hx hb hr (fun t ht hW => ⟨(-1), rfl, (by rw [fX0_resultPlace, if_neg c_1, if_neg c_2, if_neg c_3, if_neg c_4]), ht⟩) (fun q h => nomatch h) dX0_resultPlace_42
end
section
def xN (U : State) : Prop := va_Nw (.castable "java/lang/IllegalArgumentException" "java/lang/IllegalArgumentException") U ∧ va_Nw (.declares ⟨"java/lang/RuntimeException", "<init>", "(Ljava/lang/String;)V"⟩) U ∧ va_Nw (.declares ⟨"java/lang/Exception", "<init>", "(Ljava/lang/String;)V"⟩) U ∧ va_Nw (.declares ⟨"java/lang/Throwable", "<init>", "(Ljava/lang/String;)V"⟩) U ∧ va_Nw (.castable "java/lang/IllegalStateException" "java/lang/IllegalStateException") U ∧ va_Nw (.castable "java/lang/IndexOutOfBoundsException" "java/lang/IndexOutOfBoundsException") U
def xT (U : State) : Prop := (∃ a : Nat, vk_R RX0 56 "no kind of a result" a U) ∧ (∃ a : Nat, vk_R RX0 65 "no such record" a U) ∧ (∃ a : Nat, vk_R RX0 67 "no kind of an argument" a U) ∧ (∃ a : Nat, vk_R RX0 71 "too many arguments" a U) ∧ (∃ a : Nat, vk_R RX0 85 "homes reach too far" a U) ∧ (∃ a : Nat, vk_R RX0 93 "no such argument" a U) ∧ (∃ a : Nat, vk_R RX0 100 "no such word" a U) ∧ (∃ a : Nat, vk_R RX0 117 "nothing to tell" a U) ∧ (∃ a : Nat, vk_R RX0 131 "no such number of locals" a U) ∧ (∃ a : Nat, vk_R RX0 134 "no such general register" a U) ∧ (∃ a : Nat, vk_R RX0 137 "no such fraction" a U) ∧ (∃ a : Nat, vk_R RX0 145 "no such register" a U)
/-- what a throw needs of the state: two statics of Throwable, words on the classes, the texts -/
def xZ (A : Nat → Prop) (U : State) (H : Heap) : Prop := vx_Zq Bundle.tN "UNASSIGNED_STACK" Bundle.steD A U H ∧ vx_Zq Bundle.tN "SUPPRESSED_SENTINEL" Bundle.listD A U H ∧ xN U ∧ xT U
theorem xN.warm {s U : State} (hW : s.WarmedH U.vm) (h : xN s) : xN U := ⟨va_Nw.warmC hW h.1, va_Nw.warmD hW h.2.1, va_Nw.warmD hW h.2.2.1, va_Nw.warmD hW h.2.2.2.1, va_Nw.warmC hW h.2.2.2.2.1, va_Nw.warmC hW h.2.2.2.2.2⟩
theorem xN.same {s U : State} (hv : s.vm = U.vm) (h : xN s) : xN U := ⟨va_Nw.same rfl hv h.1, va_Nw.same rfl hv h.2.1, va_Nw.same rfl hv h.2.2.1, va_Nw.same rfl hv h.2.2.2.1, va_Nw.same rfl hv h.2.2.2.2.1, va_Nw.same rfl hv h.2.2.2.2.2⟩
theorem xT.warm {s U : State} (hW : s.WarmedH U.vm) (h : xT s) : xT U := ⟨h.1.imp (fun _ z => vk_R.warm hW z), h.2.1.imp (fun _ z => vk_R.warm hW z), h.2.2.1.imp (fun _ z => vk_R.warm hW z), h.2.2.2.1.imp (fun _ z => vk_R.warm hW z), h.2.2.2.2.1.imp (fun _ z => vk_R.warm hW z), h.2.2.2.2.2.1.imp (fun _ z => vk_R.warm hW z), h.2.2.2.2.2.2.1.imp (fun _ z => vk_R.warm hW z), h.2.2.2.2.2.2.2.1.imp (fun _ z => vk_R.warm hW z), h.2.2.2.2.2.2.2.2.1.imp (fun _ z => vk_R.warm hW z), h.2.2.2.2.2.2.2.2.2.1.imp (fun _ z => vk_R.warm hW z), h.2.2.2.2.2.2.2.2.2.2.1.imp (fun _ z => vk_R.warm hW z), h.2.2.2.2.2.2.2.2.2.2.2.imp (fun _ z => vk_R.warm hW z)⟩
theorem xT.same {s U : State} (hv : U.vm = s.vm) (h : xT s) : xT U := ⟨h.1.imp (fun _ z => vk_R.same hv z), h.2.1.imp (fun _ z => vk_R.same hv z), h.2.2.1.imp (fun _ z => vk_R.same hv z), h.2.2.2.1.imp (fun _ z => vk_R.same hv z), h.2.2.2.2.1.imp (fun _ z => vk_R.same hv z), h.2.2.2.2.2.1.imp (fun _ z => vk_R.same hv z), h.2.2.2.2.2.2.1.imp (fun _ z => vk_R.same hv z), h.2.2.2.2.2.2.2.1.imp (fun _ z => vk_R.same hv z), h.2.2.2.2.2.2.2.2.1.imp (fun _ z => vk_R.same hv z), h.2.2.2.2.2.2.2.2.2.1.imp (fun _ z => vk_R.same hv z), h.2.2.2.2.2.2.2.2.2.2.1.imp (fun _ z => vk_R.same hv z), h.2.2.2.2.2.2.2.2.2.2.2.imp (fun _ z => vk_R.same hv z)⟩
theorem xZ.pass {s U : State} {A B : Nat → Prop} {H : Heap} {locs : List Loc} (hZ : xZ A s s.heap) (hS : va_S A s.heap H locs) (hW : s.WarmedH U.vm) (hU : U.heap = H) (hAB : ∀ q, B q → A q) : xZ B U U.heap := by
  rw [hU]
  exact ⟨((hZ.1.kept hS.2.1).moved hW.alike).narrow hAB, ((hZ.2.1.kept hS.2.1).moved hW.alike).narrow hAB, hZ.2.2.1.warm hW, hZ.2.2.2.warm hW⟩
theorem xZ.blind {A : Nat → Prop} {U : State} {g : JFrame} {mk : MethodId} {a : Array Value} (h : xZ A U U.heap) : xZ A (U.calling g mk a) (U.calling g mk a).heap :=
  ⟨vx_Zq.moved (u := U) (U := U.calling g mk a) (Vm.Alike.refl U.vm) h.1, vx_Zq.moved (u := U) (U := U.calling g mk a) (Vm.Alike.refl U.vm) h.2.1, xN.same (s := U) (U := U.calling g mk a) rfl h.2.2.1, xT.same (s := U) (U := U.calling g mk a) rfl h.2.2.2⟩
end
section
def fX0_call (xk1 xk2 xk3 : Nat → Int32) (xf3 xf4 xf5 xf6 xf7 xf8 xf9 xf10 xf11 xf12 xf13 : Int32) : Int32 × Int32 × xWS :=
  (0, (if xf8 < (fX0_areaSize xf6) then (fX0_areaSize xf6) else xf8), (xk1, xk2, xk3, xf3, xf4, xf5, xf6, (xf7 + 1), (if xf8 < (fX0_areaSize xf6) then (fX0_areaSize xf6) else xf8), xf9, xf10, xf11, xf12, xf13))

abbrev wsX0_call : List Cond := .code yX0_call cX0_call 1 (some .int) :: wG
set_option maxHeartbeats 4000000 in
set_option maxRecDepth 100000 in
theorem mX0_call (l : Launch) (dC : Nat → ClassId) (dI : Nat → Nat → Nat) (xh0 xh1 xh2 xh3 : Nat) (sz : Nat) (xc1 xc2 xc3 : ClassId) (xk1 xk2 xk3 : Nat → Int32) (xf3 xf4 xf5 xf6 xf7 xf8 xf9 xf10 xf11 xf12 xf13 : Int32)   : Met l yX0_call wsX0_call ({ frames := 2, cells := 0, slots := 0, locals := 41 }) (va_Pc [.ref xh0] (fun U => U.heap.size = sz ∧ va_P (dC, dI) vwCl (xW xh0 xh1 xh2 xh3 xc1 xc2 xc3 xk1 xk2 xk3 xf3 xf4 xf5 xf6 xf7 xf8 xf9 xf10 xf11 xf12 xf13) U.heap ∧ va_K (dC, dI) vwCl [(xc1, .int), (xc2, .int), (xc3, .int)] U ∧ va_D (fun _ => True) (xW xh0 xh1 xh2 xh3 xc1 xc2 xc3 xk1 xk2 xk3 xf3 xf4 xf5 xf6 xf7 xf8 xf9 xf10 xf11 xf12 xf13))) (va_Qi (fun r u => (0, r, u) = fX0_call xk1 xk2 xk3 xf3 xf4 xf5 xf6 xf7 xf8 xf9 xf10 xf11 xf12 xf13) (xWB dC dI (va_A (xW xh0 xh1 xh2 xh3 xc1 xc2 xc3 xk1 xk2 xk3 xf3 xf4 xf5 xf6 xf7 xf8 xf9 xf10 xf11 xf12 xf13) sz) xh0 xh1 xh2 xh3 xc1 xc2 xc3) (va_A (xW xh0 xh1 xh2 xh3 xc1 xc2 xc3 xk1 xk2 xk3 xf3 xf4 xf5 xf6 xf7 xf8 xf9 xf10 xf11 xf12 xf13) sz)) 0 0 (va_A (xW xh0 xh1 xh2 xh3 xc1 xc2 xc3 xk1 xk2 xk3 xf3 xf4 xf5 xf6 xf7 xf8 xf9 xf10 xf11 xf12 xf13) sz) := by
  refine Met.ofW (cc := cX0_call) (maxL := 1) (ret := (some .int)) (by decide) rfl ?_
  intro p e s m args below meth c s₁ B hml hv
  obtain ⟨rfl, hsz, hP, hK, hD0⟩ := hv
  have hx := B.exec
  have hb := B.bytes
  have hr := B.returns
  have hts := atoms_spec (ws := wsX0_call) B.pre
  have htG := fun (w : Cond) (h : w ∈ wG) => hts w (List.mem_cons_of_mem _ h)
  have hown : s.vm.findClass RX0 = some m.cls := findClass_of_methodNamed B.named
  have hlocks := B.notSynchronized
  subst hsz
  have hD := hD0.self (sz := s.heap.size)
  generalize hAe : va_A (xW xh0 xh1 xh2 xh3 xc1 xc2 xc3 xk1 xk2 xk3 xf3 xf4 xf5 xf6 xf7 xf8 xf9 xf10 xf11 xf12 xf13) s.heap.size = A at hD ⊢
  have hA : ∀ q : Nat, s.heap.size ≤ q → A q := fun q h => by rw [← hAe]; exact Or.inr h
  have hS : va_S A s.heap s.heap [] := va_S.rf
  have hP : va_P (dC, dI) vwCl (xW xh0 xh1 xh2 xh3 xc1 xc2 xc3 xk1 xk2 xk3 xf3 xf4 xf5 xf6 xf7 xf8 xf9 xf10 xf11 xf12 xf13) s.heap := hP
  have hl := lv_entry ([.ref xh0]) (n := 1) (Nat.le_of_ble_eq_true rfl)
  rw [lg_entry_eq]
  generalize (lg_sl ([.ref xh0]) ++ List.replicate (1 - (lg_sl ([.ref xh0])).length) Slot.unset).toArray = ls at hl ⊢
  have hl : lv_has ls 1 [(0, .ref xh0)] := hl
  refine lv_aload_n hx hb dX0_call_0 rfl (lv_at hl 0 rfl) ?_
  refine lv_dup hx hb dX0_call_1 rfl ?_
  refine va_get (D := (dC, dI)) (ci := 0) (v := .int xf7) (C := RX0) (T := TX0) (N := 14) hx hb htG inX0 hown hK hP 0 rfl rfl 7 (by decide) (htG _ wd_47) (fun _ h9 => h9) rfl dX0_call_2 ?_
  refine lv_iconst (v := 1) hx hb dX0_call_5 (by decide) ?_
  refine lv_iadd hx hb dX0_call_6 ?_
  refine va_put (D := (dC, dI)) (ci := 0) (v := .int (xf7 + 1)) (ty := .int) (C := RX0) (T := TX0) (N := 14) hx hb htG inX0 tyX0 tyX0_ok nmX0 hown hK hP hD hS 0 rfl rfl 7 (by decide) (htG _ wd_47) (fun _ h9 => h9) rfl (by decide +kernel) rfl rfl (Nat.le_of_ble_eq_true rfl) dX0_call_7 (fun H locs hP hD hS => ?_)
  have hP : va_P (dC, dI) vwCl (xW xh0 xh1 xh2 xh3 xc1 xc2 xc3 xk1 xk2 xk3 xf3 xf4 xf5 xf6 (xf7 + 1) xf8 xf9 xf10 xf11 xf12 xf13) H := hP
  have hD : va_D A (xW xh0 xh1 xh2 xh3 xc1 xc2 xc3 xk1 xk2 xk3 xf3 xf4 xf5 xf6 (xf7 + 1) xf8 xf9 xf10 xf11 xf12 xf13) := hD
  refine lv_aload_n hx hb dX0_call_10 rfl (lv_at hl 0 rfl) ?_
  refine lv_aload_n hx hb dX0_call_11 rfl (lv_at hl 0 rfl) ?_
  refine va_get (D := (dC, dI)) (ci := 0) (v := .int xf8) (C := RX0) (T := TX0) (N := 14) hx hb htG inX0 hown hK hP 0 rfl rfl 8 (by decide) (htG _ wd_48) (fun _ h9 => h9) rfl dX0_call_12 ?_
  refine lv_aload_n hx hb dX0_call_15 rfl (lv_at hl 0 rfl) ?_
  refine vp_callSi (va_runV (As := []) (rest := [.int xf8, .ref xh0]) ⟨hx, hb, hml, hown, htG⟩ (mX0_areaSize l dC dI xh0 xh1 xh2 xh3 xc1 xc2 xc3 xk1 xk2 xk3 xf3 xf4 xf5 xf6 (xf7 + 1) xf8 xf9 xf10 xf11 xf12 xf13) (cwV 0 htG (wG_V wd_88 wd_90 wd_0 wd_22 wd_91) rfl rfl rfl (by decide +kernel) ⟨Nat.le_of_ble_eq_true rfl, Nat.le_of_ble_eq_true rfl⟩) ⟨fun a U g mk q => by obtain ⟨q0, qP, qK⟩ := q; exact ⟨q0, qP, va_K.moved (u := U) (U := U.calling g mk a) (Vm.Alike.refl U.vm) qK⟩, va_recv hK hP (ci := 0) (q0 := 0) rfl rfl, fun U hU hW => ⟨rfl, by rw [hU]; exact hP, va_K.moved hW.alike hK⟩⟩ rfl rfl hl.1 rfl (lv_room (Nat.le_of_ble_eq_true rfl)) dX0_call_16 ⟨Nat.le_of_ble_eq_true rfl, Nat.le_of_ble_eq_true rfl⟩).run (fun r_1 er_1 => ?_)
  subst er_1
  refine va_mmax hx hb (hml.trans hl.1.symm) hown (htG _ wd_95) (htG _ wd_96) (htG _ wd_30) (htG _ wd_97) (Nat.le_of_ble_eq_true rfl) (Nat.le_of_ble_eq_true rfl) (Nat.le_of_ble_eq_true rfl) (Nat.le_of_ble_eq_true rfl) dX0_call_19 ?_
  refine va_put (D := (dC, dI)) (ci := 0) (v := .int (if xf8 < (fX0_areaSize xf6) then (fX0_areaSize xf6) else xf8)) (ty := .int) (C := RX0) (T := TX0) (N := 14) hx hb htG inX0 tyX0 tyX0_ok nmX0 hown hK hP hD hS 0 rfl rfl 8 (by decide) (htG _ wd_48) (fun _ h9 => h9) rfl (by decide +kernel) rfl rfl (Nat.le_of_ble_eq_true rfl) dX0_call_22 (fun H locs hP hD hS => ?_)
  have hP : va_P (dC, dI) vwCl (xW xh0 xh1 xh2 xh3 xc1 xc2 xc3 xk1 xk2 xk3 xf3 xf4 xf5 xf6 (xf7 + 1) (if xf8 < (fX0_areaSize xf6) then (fX0_areaSize xf6) else xf8) xf9 xf10 xf11 xf12 xf13) H := hP
  have hD : va_D A (xW xh0 xh1 xh2 xh3 xc1 xc2 xc3 xk1 xk2 xk3 xf3 xf4 xf5 xf6 (xf7 + 1) (if xf8 < (fX0_areaSize xf6) then (fX0_areaSize xf6) else xf8) xf9 xf10 xf11 xf12 xf13) := hD
  refine lv_aload_n hx hb dX0_call_25 rfl (lv_at hl 0 rfl) ?_
  refine va_get (D := (dC, dI)) (ci := 0) (v := .int (if xf8 < (fX0_areaSize xf6) then (fX0_areaSize xf6) else xf8)) (C := RX0) (T := TX0) (N := 14) hx hb htG inX0 hown hK hP 0 rfl rfl 8 (by decide) (htG _ wd_48) (fun _ h9 => h9) rfl dX0_call_26 ?_
  exact W.iret (v := (if xf8 < (fX0_areaSize xf6) then (fX0_areaSize xf6) else xf8)) hx hb hr (fun t ht hW => ⟨⟨(if xf8 < (fX0_areaSize xf6) then (fX0_areaSize xf6) else xf8), (xk1, xk2, xk3, xf3, xf4, xf5, xf6, (xf7 + 1), (if xf8 < (fX0_areaSize xf6) then (fX0_areaSize xf6) else xf8), xf9, xf10, xf11, xf12, xf13), rfl, (by rw [fX0_call]), by rw [ht]; exact hP, va_K.moved hW.alike hK, hD⟩, hS.F ht⟩) hS.2.2 dX0_call_29

def fX0_clear (xk1 xk2 xk3 : Nat → Int32) (xf3 xf4 xf5 xf6 xf7 xf8 xf9 xf10 xf11 xf12 xf13 : Int32) : Int32 × Int32 × xWS :=
  (0, xf7, (xk1, xk2, xk3, xf3, xf4, xf5, xf6, 0, 0, 0, 0, 0, 0, 0))

abbrev wsX0_clear : List Cond := .code yX0_clear cX0_clear 2 (some .int) :: wG
set_option maxHeartbeats 4000000 in
set_option maxRecDepth 100000 in
theorem mX0_clear (l : Launch) (dC : Nat → ClassId) (dI : Nat → Nat → Nat) (xh0 xh1 xh2 xh3 : Nat) (sz : Nat) (xc1 xc2 xc3 : ClassId) (xk1 xk2 xk3 : Nat → Int32) (xf3 xf4 xf5 xf6 xf7 xf8 xf9 xf10 xf11 xf12 xf13 : Int32)   : Met l yX0_clear wsX0_clear ({ frames := 0, cells := 0, slots := 0, locals := 0 }) (va_Pc [.ref xh0] (fun U => U.heap.size = sz ∧ va_P (dC, dI) vwCl (xW xh0 xh1 xh2 xh3 xc1 xc2 xc3 xk1 xk2 xk3 xf3 xf4 xf5 xf6 xf7 xf8 xf9 xf10 xf11 xf12 xf13) U.heap ∧ va_K (dC, dI) vwCl [(xc1, .int), (xc2, .int), (xc3, .int)] U ∧ va_D (fun _ => True) (xW xh0 xh1 xh2 xh3 xc1 xc2 xc3 xk1 xk2 xk3 xf3 xf4 xf5 xf6 xf7 xf8 xf9 xf10 xf11 xf12 xf13))) (va_Qi (fun r u => (0, r, u) = fX0_clear xk1 xk2 xk3 xf3 xf4 xf5 xf6 xf7 xf8 xf9 xf10 xf11 xf12 xf13) (xWB dC dI (va_A (xW xh0 xh1 xh2 xh3 xc1 xc2 xc3 xk1 xk2 xk3 xf3 xf4 xf5 xf6 xf7 xf8 xf9 xf10 xf11 xf12 xf13) sz) xh0 xh1 xh2 xh3 xc1 xc2 xc3) (va_A (xW xh0 xh1 xh2 xh3 xc1 xc2 xc3 xk1 xk2 xk3 xf3 xf4 xf5 xf6 xf7 xf8 xf9 xf10 xf11 xf12 xf13) sz)) 0 0 (va_A (xW xh0 xh1 xh2 xh3 xc1 xc2 xc3 xk1 xk2 xk3 xf3 xf4 xf5 xf6 xf7 xf8 xf9 xf10 xf11 xf12 xf13) sz) := by
  refine Met.ofW (cc := cX0_clear) (maxL := 2) (ret := (some .int)) (by decide) rfl ?_
  intro p e s m args below meth c s₁ B hml hv
  obtain ⟨rfl, hsz, hP, hK, hD0⟩ := hv
  have hx := B.exec
  have hb := B.bytes
  have hr := B.returns
  have hts := atoms_spec (ws := wsX0_clear) B.pre
  have htG := fun (w : Cond) (h : w ∈ wG) => hts w (List.mem_cons_of_mem _ h)
  have hown : s.vm.findClass RX0 = some m.cls := findClass_of_methodNamed B.named
  have hlocks := B.notSynchronized
  subst hsz
  have hD := hD0.self (sz := s.heap.size)
  generalize hAe : va_A (xW xh0 xh1 xh2 xh3 xc1 xc2 xc3 xk1 xk2 xk3 xf3 xf4 xf5 xf6 xf7 xf8 xf9 xf10 xf11 xf12 xf13) s.heap.size = A at hD ⊢
  have hA : ∀ q : Nat, s.heap.size ≤ q → A q := fun q h => by rw [← hAe]; exact Or.inr h
  have hS : va_S A s.heap s.heap [] := va_S.rf
  have hP : va_P (dC, dI) vwCl (xW xh0 xh1 xh2 xh3 xc1 xc2 xc3 xk1 xk2 xk3 xf3 xf4 xf5 xf6 xf7 xf8 xf9 xf10 xf11 xf12 xf13) s.heap := hP
  have hl := lv_entry ([.ref xh0]) (n := 2) (Nat.le_of_ble_eq_true rfl)
  rw [lg_entry_eq]
  generalize (lg_sl ([.ref xh0]) ++ List.replicate (2 - (lg_sl ([.ref xh0])).length) Slot.unset).toArray = ls at hl ⊢
  have hl : lv_has ls 2 [(0, .ref xh0)] := hl
  refine lv_aload_n hx hb dX0_clear_0 rfl (lv_at hl 0 rfl) ?_
  refine va_get (D := (dC, dI)) (ci := 0) (v := .int xf7) (C := RX0) (T := TX0) (N := 14) hx hb htG inX0 hown hK hP 0 rfl rfl 7 (by decide) (htG _ wd_47) (fun _ h9 => h9) rfl dX0_clear_1 ?_
  refine lv_istore_n (lv' := [(1, .int xf7), (0, .ref xh0)]) hx hb dX0_clear_4 rfl hl (by decide) rfl (fun ls hl => ?_)
  refine lv_aload_n hx hb dX0_clear_5 rfl (lv_at hl 1 rfl) ?_
  refine lv_iconst (v := 0) hx hb dX0_clear_6 (by decide) ?_
  refine va_put (D := (dC, dI)) (ci := 0) (v := .int 0) (ty := .int) (C := RX0) (T := TX0) (N := 14) hx hb htG inX0 tyX0 tyX0_ok nmX0 hown hK hP hD hS 0 rfl rfl 7 (by decide) (htG _ wd_47) (fun _ h9 => h9) rfl (by decide +kernel) rfl rfl (Nat.le_of_ble_eq_true rfl) dX0_clear_7 (fun H locs hP hD hS => ?_)
  have hP : va_P (dC, dI) vwCl (xW xh0 xh1 xh2 xh3 xc1 xc2 xc3 xk1 xk2 xk3 xf3 xf4 xf5 xf6 0 xf8 xf9 xf10 xf11 xf12 xf13) H := hP
  have hD : va_D A (xW xh0 xh1 xh2 xh3 xc1 xc2 xc3 xk1 xk2 xk3 xf3 xf4 xf5 xf6 0 xf8 xf9 xf10 xf11 xf12 xf13) := hD
  refine lv_aload_n hx hb dX0_clear_10 rfl (lv_at hl 1 rfl) ?_
  refine lv_iconst (v := 0) hx hb dX0_clear_11 (by decide) ?_
  refine va_put (D := (dC, dI)) (ci := 0) (v := .int 0) (ty := .int) (C := RX0) (T := TX0) (N := 14) hx hb htG inX0 tyX0 tyX0_ok nmX0 hown hK hP hD hS 0 rfl rfl 8 (by decide) (htG _ wd_48) (fun _ h9 => h9) rfl (by decide +kernel) rfl rfl (Nat.le_of_ble_eq_true rfl) dX0_clear_12 (fun H locs hP hD hS => ?_)
  have hP : va_P (dC, dI) vwCl (xW xh0 xh1 xh2 xh3 xc1 xc2 xc3 xk1 xk2 xk3 xf3 xf4 xf5 xf6 0 0 xf9 xf10 xf11 xf12 xf13) H := hP
  have hD : va_D A (xW xh0 xh1 xh2 xh3 xc1 xc2 xc3 xk1 xk2 xk3 xf3 xf4 xf5 xf6 0 0 xf9 xf10 xf11 xf12 xf13) := hD
  refine lv_aload_n hx hb dX0_clear_15 rfl (lv_at hl 1 rfl) ?_
  refine lv_iconst (v := 0) hx hb dX0_clear_16 (by decide) ?_
  refine va_put (D := (dC, dI)) (ci := 0) (v := .int 0) (ty := .int) (C := RX0) (T := TX0) (N := 14) hx hb htG inX0 tyX0 tyX0_ok nmX0 hown hK hP hD hS 0 rfl rfl 9 (by decide) (htG _ wd_49) (fun _ h9 => h9) rfl (by decide +kernel) rfl rfl (Nat.le_of_ble_eq_true rfl) dX0_clear_17 (fun H locs hP hD hS => ?_)
  have hP : va_P (dC, dI) vwCl (xW xh0 xh1 xh2 xh3 xc1 xc2 xc3 xk1 xk2 xk3 xf3 xf4 xf5 xf6 0 0 0 xf10 xf11 xf12 xf13) H := hP
  have hD : va_D A (xW xh0 xh1 xh2 xh3 xc1 xc2 xc3 xk1 xk2 xk3 xf3 xf4 xf5 xf6 0 0 0 xf10 xf11 xf12 xf13) := hD
  refine lv_aload_n hx hb dX0_clear_20 rfl (lv_at hl 1 rfl) ?_
  refine lv_iconst (v := 0) hx hb dX0_clear_21 (by decide) ?_
  refine va_put (D := (dC, dI)) (ci := 0) (v := .int 0) (ty := .int) (C := RX0) (T := TX0) (N := 14) hx hb htG inX0 tyX0 tyX0_ok nmX0 hown hK hP hD hS 0 rfl rfl 10 (by decide) (htG _ wd_50) (fun _ h9 => h9) rfl (by decide +kernel) rfl rfl (Nat.le_of_ble_eq_true rfl) dX0_clear_22 (fun H locs hP hD hS => ?_)
  have hP : va_P (dC, dI) vwCl (xW xh0 xh1 xh2 xh3 xc1 xc2 xc3 xk1 xk2 xk3 xf3 xf4 xf5 xf6 0 0 0 0 xf11 xf12 xf13) H := hP
  have hD : va_D A (xW xh0 xh1 xh2 xh3 xc1 xc2 xc3 xk1 xk2 xk3 xf3 xf4 xf5 xf6 0 0 0 0 xf11 xf12 xf13) := hD
  refine lv_aload_n hx hb dX0_clear_25 rfl (lv_at hl 1 rfl) ?_
  refine lv_iconst (v := 0) hx hb dX0_clear_26 (by decide) ?_
  refine va_put (D := (dC, dI)) (ci := 0) (v := .int 0) (ty := .int) (C := RX0) (T := TX0) (N := 14) hx hb htG inX0 tyX0 tyX0_ok nmX0 hown hK hP hD hS 0 rfl rfl 11 (by decide) (htG _ wd_51) (fun _ h9 => h9) rfl (by decide +kernel) rfl rfl (Nat.le_of_ble_eq_true rfl) dX0_clear_27 (fun H locs hP hD hS => ?_)
  have hP : va_P (dC, dI) vwCl (xW xh0 xh1 xh2 xh3 xc1 xc2 xc3 xk1 xk2 xk3 xf3 xf4 xf5 xf6 0 0 0 0 0 xf12 xf13) H := hP
  have hD : va_D A (xW xh0 xh1 xh2 xh3 xc1 xc2 xc3 xk1 xk2 xk3 xf3 xf4 xf5 xf6 0 0 0 0 0 xf12 xf13) := hD
  refine lv_aload_n hx hb dX0_clear_30 rfl (lv_at hl 1 rfl) ?_
  refine lv_iconst (v := 0) hx hb dX0_clear_31 (by decide) ?_
  refine va_put (D := (dC, dI)) (ci := 0) (v := .int 0) (ty := .int) (C := RX0) (T := TX0) (N := 14) hx hb htG inX0 tyX0 tyX0_ok nmX0 hown hK hP hD hS 0 rfl rfl 12 (by decide) (htG _ wd_52) (fun _ h9 => h9) rfl (by decide +kernel) rfl rfl (Nat.le_of_ble_eq_true rfl) dX0_clear_32 (fun H locs hP hD hS => ?_)
  have hP : va_P (dC, dI) vwCl (xW xh0 xh1 xh2 xh3 xc1 xc2 xc3 xk1 xk2 xk3 xf3 xf4 xf5 xf6 0 0 0 0 0 0 xf13) H := hP
  have hD : va_D A (xW xh0 xh1 xh2 xh3 xc1 xc2 xc3 xk1 xk2 xk3 xf3 xf4 xf5 xf6 0 0 0 0 0 0 xf13) := hD
  refine lv_aload_n hx hb dX0_clear_35 rfl (lv_at hl 1 rfl) ?_
  refine lv_iconst (v := 0) hx hb dX0_clear_36 (by decide) ?_
  refine va_put (D := (dC, dI)) (ci := 0) (v := .int 0) (ty := .int) (C := RX0) (T := TX0) (N := 14) hx hb htG inX0 tyX0 tyX0_ok nmX0 hown hK hP hD hS 0 rfl rfl 13 (by decide) (htG _ wd_53) (fun _ h9 => h9) rfl (by decide +kernel) rfl rfl (Nat.le_of_ble_eq_true rfl) dX0_clear_37 (fun H locs hP hD hS => ?_)
  have hP : va_P (dC, dI) vwCl (xW xh0 xh1 xh2 xh3 xc1 xc2 xc3 xk1 xk2 xk3 xf3 xf4 xf5 xf6 0 0 0 0 0 0 0) H := hP
  have hD : va_D A (xW xh0 xh1 xh2 xh3 xc1 xc2 xc3 xk1 xk2 xk3 xf3 xf4 xf5 xf6 0 0 0 0 0 0 0) := hD
  refine lv_iload_n hx hb dX0_clear_40 rfl (lv_at hl 0 rfl) ?_
  exact W.iret (v := xf7) hx hb hr (fun t ht hW => ⟨⟨xf7, (xk1, xk2, xk3, xf3, xf4, xf5, xf6, 0, 0, 0, 0, 0, 0, 0), rfl, (by rw [fX0_clear]), by rw [ht]; exact hP, va_K.moved hW.alike hK, hD⟩, hS.F ht⟩) hS.2.2 dX0_clear_41
end
section
theorem xg_58 : ∀ w ∈ (vx_atS RX0 58 "java/lang/IllegalArgumentException" ["java/lang/RuntimeException", "java/lang/Exception"]).filter goodWord, w ∈ wG := by decide +kernel

def fX0_begin (xk1 xk2 xk3 : Nat → Int32) (xf3 xf4 xf5 xf6 xf7 xf8 xf9 xf10 xf11 xf12 xf13 : Int32) (p0 p1 p2 p3 : Int32) : Int32 × Int32 × xWS :=
  if p0 < 0 then (1, 0, (xk1, xk2, xk3, xf3, xf4, xf5, xf6, xf7, xf8, xf9, xf10, xf11, xf12, xf13))
  else if p0 ≤ 4 then (if p0 = 3 then (if (fX0_isRecord p1 p2) = 0 then (1, 0, (xk1, xk2, xk3, xf3, xf4, xf5, xf6, xf7, xf8, xf9, xf10, xf11, xf12, xf13))
        else (0, 0, (xk1, xk2, xk3, 0, p0, p3, 4, xf7, xf8, xf9, xf10, xf11, xf12, xf13)))
      else (0, 0, (xk1, xk2, xk3, 0, p0, p3, 0, xf7, xf8, xf9, xf10, xf11, xf12, xf13)))
    else (1, 0, (xk1, xk2, xk3, xf3, xf4, xf5, xf6, xf7, xf8, xf9, xf10, xf11, xf12, xf13))

abbrev wsX0_begin : List Cond := .code yX0_begin cX0_begin 5 none :: wG
set_option maxHeartbeats 4000000 in
set_option maxRecDepth 100000 in
theorem mX0_begin (l : Launch) (hl9 : l.stackTraces = false) (dC : Nat → ClassId) (dI : Nat → Nat → Nat) (xh0 xh1 xh2 xh3 : Nat) (sz : Nat) (xc1 xc2 xc3 : ClassId) (xk1 xk2 xk3 : Nat → Int32) (xf3 xf4 xf5 xf6 xf7 xf8 xf9 xf10 xf11 xf12 xf13 : Int32) (p0 p1 p2 p3 : Int32) (ho : p3 = 0 ∨ p3 = 1) : vx_Met l yX0_begin wsX0_begin ({ frames := 6, cells := 1, slots := 6, locals := 82 }) (va_Pc [.ref xh0, .int p0, .int p1, .int p2, .int p3] (fun U => U.heap.size = sz ∧ va_P (dC, dI) vwCl (xW xh0 xh1 xh2 xh3 xc1 xc2 xc3 xk1 xk2 xk3 xf3 xf4 xf5 xf6 xf7 xf8 xf9 xf10 xf11 xf12 xf13) U.heap ∧ va_K (dC, dI) vwCl [(xc1, .int), (xc2, .int), (xc3, .int)] U ∧ va_D (fun _ => True) (xW xh0 xh1 xh2 xh3 xc1 xc2 xc3 xk1 xk2 xk3 xf3 xf4 xf5 xf6 xf7 xf8 xf9 xf10 xf11 xf12 xf13) ∧ xZ (va_A (xW xh0 xh1 xh2 xh3 xc1 xc2 xc3 xk1 xk2 xk3 xf3 xf4 xf5 xf6 xf7 xf8 xf9 xf10 xf11 xf12 xf13) sz) U U.heap)) (va_Qv (fun u => (0, 0, u) = fX0_begin xk1 xk2 xk3 xf3 xf4 xf5 xf6 xf7 xf8 xf9 xf10 xf11 xf12 xf13 p0 p1 p2 p3) (xWB dC dI (va_A (xW xh0 xh1 xh2 xh3 xc1 xc2 xc3 xk1 xk2 xk3 xf3 xf4 xf5 xf6 xf7 xf8 xf9 xf10 xf11 xf12 xf13) sz) xh0 xh1 xh2 xh3 xc1 xc2 xc3) (va_A (xW xh0 xh1 xh2 xh3 xc1 xc2 xc3 xk1 xk2 xk3 xf3 xf4 xf5 xf6 xf7 xf8 xf9 xf10 xf11 xf12 xf13) sz)) (vx_X (fun _ : Unit => True) (fun E _ t => ((E = "java/lang/IllegalArgumentException" ∧ fX0_begin xk1 xk2 xk3 xf3 xf4 xf5 xf6 xf7 xf8 xf9 xf10 xf11 xf12 xf13 p0 p1 p2 p3 = (1, 0, (xk1, xk2, xk3, xf3, xf4, xf5, xf6, xf7, xf8, xf9, xf10, xf11, xf12, xf13)))) ∧ xWB dC dI (va_A (xW xh0 xh1 xh2 xh3 xc1 xc2 xc3 xk1 xk2 xk3 xf3 xf4 xf5 xf6 xf7 xf8 xf9 xf10 xf11 xf12 xf13) sz) xh0 xh1 xh2 xh3 xc1 xc2 xc3 (xk1, xk2, xk3, xf3, xf4, xf5, xf6, xf7, xf8, xf9, xf10, xf11, xf12, xf13) t) (va_A (xW xh0 xh1 xh2 xh3 xc1 xc2 xc3 xk1 xk2 xk3 xf3 xf4 xf5 xf6 xf7 xf8 xf9 xf10 xf11 xf12 xf13) sz)) 1 6 (va_A (xW xh0 xh1 xh2 xh3 xc1 xc2 xc3 xk1 xk2 xk3 xf3 xf4 xf5 xf6 xf7 xf8 xf9 xf10 xf11 xf12 xf13) sz) := by
  refine vx_ofW (cc := cX0_begin) (maxL := 5) (ret := none) (by decide) rfl ?_
  intro p e s m args below meth c s₁ B hml hEx hv
  obtain ⟨rfl, hsz, hP, hK, hD0, hZ⟩ := hv
  have hx := B.exec
  have hb := B.bytes
  have hr := B.returns
  have hts := atoms_spec (ws := wsX0_begin) B.pre
  have htG := fun (w : Cond) (h : w ∈ wG) => hts w (List.mem_cons_of_mem _ h)
  have hown : s.vm.findClass RX0 = some m.cls := findClass_of_methodNamed B.named
  have hlocks := B.notSynchronized
  subst hsz
  have hD := hD0.self (sz := s.heap.size)
  generalize hAe : va_A (xW xh0 xh1 xh2 xh3 xc1 xc2 xc3 xk1 xk2 xk3 xf3 xf4 xf5 xf6 xf7 xf8 xf9 xf10 xf11 xf12 xf13) s.heap.size = A at hD hZ ⊢
  have hA : ∀ q : Nat, s.heap.size ≤ q → A q := fun q h => by rw [← hAe]; exact Or.inr h
  have hS : va_S A s.heap s.heap [] := va_S.rf
  have hP : va_P (dC, dI) vwCl (xW xh0 xh1 xh2 xh3 xc1 xc2 xc3 xk1 xk2 xk3 xf3 xf4 xf5 xf6 xf7 xf8 xf9 xf10 xf11 xf12 xf13) s.heap := hP
  have hl := lv_entry ([.ref xh0, .int p0, .int p1, .int p2, .int p3]) (n := 5) (Nat.le_of_ble_eq_true rfl)
  rw [lg_entry_eq]
  generalize (lg_sl ([.ref xh0, .int p0, .int p1, .int p2, .int p3]) ++ List.replicate (5 - (lg_sl ([.ref xh0, .int p0, .int p1, .int p2, .int p3])).length) Slot.unset).toArray = ls at hl ⊢
  have hl : lv_has ls 5 [(0, .ref xh0), (1, .int p0), (2, .int p1), (3, .int p2), (4, .int p3)] := hl
  refine lv_iload_n hx hb dX0_begin_0 rfl (lv_at hl 1 rfl) ?_
  refine lv_if_lt (tgt := 9) hx hb dX0_begin_1 (by decide) (fun c_1 => ?_) (fun c_1 => ?_)
  · obtain ⟨sa, hstr⟩ := hZ.2.2.2.1
    exact vx_throwS (own := RX0) (cls := "java/lang/IllegalArgumentException") (names := ["java/lang/RuntimeException", "java/lang/Exception"]) hx hb hl9 hown (by decide +kernel) (by decide +kernel) (htG _ wd_110) (htG _ wd_27) hstr (vx_hat (L := vx_atS RX0 58 "java/lang/IllegalArgumentException" ["java/lang/RuntimeException", "java/lang/Exception"]) (B := [.castable "java/lang/IllegalArgumentException" "java/lang/IllegalArgumentException", .declares ⟨"java/lang/RuntimeException", "<init>", "(Ljava/lang/String;)V"⟩, .declares ⟨"java/lang/Exception", "<init>", "(Ljava/lang/String;)V"⟩, .declares ⟨"java/lang/Throwable", "<init>", "(Ljava/lang/String;)V"⟩]) (fun w hw => htG w (xg_58 w hw)) (by decide +kernel) (vx_c (va_Nw.use rfl hZ.2.2.1.1) (vx_c (va_Nw.use rfl hZ.2.2.1.2.1) (vx_c (va_Nw.use rfl hZ.2.2.1.2.2.1) (vx_c (va_Nw.use rfl hZ.2.2.1.2.2.2.1) (vx_n)))))) (by decide +kernel) hZ.1 hZ.2.1 hS (hl.1.trans hml.symm) dX0_begin_9 dX0_begin_12 dX0_begin_13 dX0_begin_15 dX0_begin_18 (fun x hx => (hEx x hx).elim) (Nat.le_of_ble_eq_true rfl) (Nat.le_of_ble_eq_true rfl) (Nat.le_of_ble_eq_true rfl) (Nat.le_of_ble_eq_true rfl) hlocks (fun t ha hsz hk => ⟨(), trivial, ⟨⟨rfl, (by rw [fX0_begin, if_pos c_1])⟩, hP.kept (fun k q hq => hk q.1 (hP k q hq).lt), va_K.moved ha hK, hD⟩, Nat.le_trans hS.1 hsz, fun q h1 h2 => (hk q (Nat.lt_of_lt_of_le h1 hS.1)).trans (hS.2.1 q h1 h2)⟩) hS.2.2 (Nat.le_of_ble_eq_true rfl) (Nat.le_of_ble_eq_true rfl)
  · refine lv_iload_n hx hb dX0_begin_4 rfl (lv_at hl 1 rfl) ?_
    refine lv_iconst (v := 4) hx hb dX0_begin_5 (by decide) ?_
    refine lv_icmp_le (tgt := 19) hx hb dX0_begin_6 (by decide) (fun c_2 => ?_) (fun c_2 => ?_)
    · refine lv_iload_n hx hb dX0_begin_19 rfl (lv_at hl 1 rfl) ?_
      refine lv_iconst (v := 3) hx hb dX0_begin_20 (by decide) ?_
      refine lv_icmp_ne (tgt := 42) hx hb dX0_begin_21 (by decide) (fun c_3 => ?_) (fun c_3 => ?_)
      · refine lv_aload_n hx hb dX0_begin_42 rfl (lv_at hl 0 rfl) ?_
        refine lv_iload_n hx hb dX0_begin_43 rfl (lv_at hl 1 rfl) ?_
        refine va_put (D := (dC, dI)) (ci := 0) (v := .int p0) (ty := .int) (C := RX0) (T := TX0) (N := 14) hx hb htG inX0 tyX0 tyX0_ok nmX0 hown hK hP hD hS 0 rfl rfl 4 (by decide) (htG _ wd_44) (fun _ h9 => h9) rfl (by decide +kernel) rfl rfl (Nat.le_of_ble_eq_true rfl) dX0_begin_44 (fun H locs hP hD hS => ?_)
        have hP : va_P (dC, dI) vwCl (xW xh0 xh1 xh2 xh3 xc1 xc2 xc3 xk1 xk2 xk3 xf3 p0 xf5 xf6 xf7 xf8 xf9 xf10 xf11 xf12 xf13) H := hP
        have hD : va_D A (xW xh0 xh1 xh2 xh3 xc1 xc2 xc3 xk1 xk2 xk3 xf3 p0 xf5 xf6 xf7 xf8 xf9 xf10 xf11 xf12 xf13) := hD
        refine lv_aload_n hx hb dX0_begin_47 rfl (lv_at hl 0 rfl) ?_
        refine lv_iload hx hb dX0_begin_48 (lv_at hl 4 rfl) ?_
        refine va_put (D := (dC, dI)) (ci := 0) (v := .int p3) (ty := .boolean) (C := RX0) (T := TX0) (N := 14) hx hb htG inX0 tyX0 tyX0_ok nmX0 hown hK hP hD hS 0 rfl rfl 5 (by decide) (htG _ wd_45) (fun _ h9 => h9) rfl (by decide +kernel) (nb_of ho) (fb_of ho) (Nat.le_of_ble_eq_true rfl) dX0_begin_50 (fun H locs hP hD hS => ?_)
        have hP : va_P (dC, dI) vwCl (xW xh0 xh1 xh2 xh3 xc1 xc2 xc3 xk1 xk2 xk3 xf3 p0 p3 xf6 xf7 xf8 xf9 xf10 xf11 xf12 xf13) H := hP
        have hD : va_D A (xW xh0 xh1 xh2 xh3 xc1 xc2 xc3 xk1 xk2 xk3 xf3 p0 p3 xf6 xf7 xf8 xf9 xf10 xf11 xf12 xf13) := hD
        refine lv_aload_n hx hb dX0_begin_53 rfl (lv_at hl 0 rfl) ?_
        refine lv_iconst (v := 0) hx hb dX0_begin_54 (by decide) ?_
        refine va_put (D := (dC, dI)) (ci := 0) (v := .int 0) (ty := .int) (C := RX0) (T := TX0) (N := 14) hx hb htG inX0 tyX0 tyX0_ok nmX0 hown hK hP hD hS 0 rfl rfl 3 (by decide) (htG _ wd_43) (fun _ h9 => h9) rfl (by decide +kernel) rfl rfl (Nat.le_of_ble_eq_true rfl) dX0_begin_55 (fun H locs hP hD hS => ?_)
        have hP : va_P (dC, dI) vwCl (xW xh0 xh1 xh2 xh3 xc1 xc2 xc3 xk1 xk2 xk3 0 p0 p3 xf6 xf7 xf8 xf9 xf10 xf11 xf12 xf13) H := hP
        have hD : va_D A (xW xh0 xh1 xh2 xh3 xc1 xc2 xc3 xk1 xk2 xk3 0 p0 p3 xf6 xf7 xf8 xf9 xf10 xf11 xf12 xf13) := hD
        refine lv_aload_n hx hb dX0_begin_58 rfl (lv_at hl 0 rfl) ?_
        refine lv_iload_n hx hb dX0_begin_59 rfl (lv_at hl 1 rfl) ?_
        refine lv_iconst (v := 3) hx hb dX0_begin_60 (by decide) ?_
        refine lv_icmp_ne (tgt := 68) hx hb dX0_begin_61 (by decide) (fun c_4 => ?_) (fun c_4 => ?_)
        · refine lv_iconst (v := 0) hx hb dX0_begin_68 (by decide) ?_
          refine va_put (D := (dC, dI)) (ci := 0) (v := .int 0) (ty := .int) (C := RX0) (T := TX0) (N := 14) hx hb htG inX0 tyX0 tyX0_ok nmX0 hown hK hP hD hS 0 rfl rfl 6 (by decide) (htG _ wd_46) (fun _ h9 => h9) rfl (by decide +kernel) rfl rfl (Nat.le_of_ble_eq_true rfl) dX0_begin_69 (fun H locs hP hD hS => ?_)
          have hP : va_P (dC, dI) vwCl (xW xh0 xh1 xh2 xh3 xc1 xc2 xc3 xk1 xk2 xk3 0 p0 p3 0 xf7 xf8 xf9 xf10 xf11 xf12 xf13) H := hP
          have hD : va_D A (xW xh0 xh1 xh2 xh3 xc1 xc2 xc3 xk1 xk2 xk3 0 p0 p3 0 xf7 xf8 xf9 xf10 xf11 xf12 xf13) := hD
          refine W.widen (k := 1) (n := 6) (Nat.le_of_ble_eq_true rfl) (Nat.le_of_ble_eq_true rfl) ?_
          exact vx_ret (W.vret hx hb hr (fun t ht hW => ⟨⟨(xk1, xk2, xk3, 0, p0, p3, 0, xf7, xf8, xf9, xf10, xf11, xf12, xf13), rfl, (by rw [fX0_begin, if_neg c_1, if_pos c_2, if_neg c_3]), by rw [ht]; exact hP, va_K.moved hW.alike hK, hD⟩, hS.F ht⟩) hS.2.2 dX0_begin_72)
        · exact absurd c_4 c_3
      · refine lv_iload_n hx hb dX0_begin_24 rfl (lv_at hl 2 rfl) ?_
        refine lv_iload_n hx hb dX0_begin_25 rfl (lv_at hl 3 rfl) ?_
        refine vp_callSi (va_runS (As := [.int p1, .int p2]) (rest := []) ⟨hx, hb, hml, hown, htG⟩ (mX0_isRecord l p1 p2) (va_cwS 2 htG (wG_S wd_178 wd_179 wd_22 wd_180) rfl rfl rfl (by decide +kernel) ⟨Nat.le_of_ble_eq_true rfl, Nat.le_of_ble_eq_true rfl⟩) ⟨fun _ _ _ _ q => q, fun U hU hW => ⟨rfl, trivial⟩⟩ rfl rfl hl.1 rfl (lv_room (Nat.le_of_ble_eq_true rfl)) dX0_begin_26 ⟨Nat.le_of_ble_eq_true rfl, Nat.le_of_ble_eq_true rfl⟩).run (fun r_1 er_1 => ?_)
        subst er_1
        refine lv_if_ne (tgt := 42) hx hb dX0_begin_29 (by decide) (fun c_5 => ?_) (fun c_5 => ?_)
        · refine lv_aload_n hx hb dX0_begin_42 rfl (lv_at hl 0 rfl) ?_
          refine lv_iload_n hx hb dX0_begin_43 rfl (lv_at hl 1 rfl) ?_
          refine va_put (D := (dC, dI)) (ci := 0) (v := .int p0) (ty := .int) (C := RX0) (T := TX0) (N := 14) hx hb htG inX0 tyX0 tyX0_ok nmX0 hown hK hP hD hS 0 rfl rfl 4 (by decide) (htG _ wd_44) (fun _ h9 => h9) rfl (by decide +kernel) rfl rfl (Nat.le_of_ble_eq_true rfl) dX0_begin_44 (fun H locs hP hD hS => ?_)
          have hP : va_P (dC, dI) vwCl (xW xh0 xh1 xh2 xh3 xc1 xc2 xc3 xk1 xk2 xk3 xf3 p0 xf5 xf6 xf7 xf8 xf9 xf10 xf11 xf12 xf13) H := hP
          have hD : va_D A (xW xh0 xh1 xh2 xh3 xc1 xc2 xc3 xk1 xk2 xk3 xf3 p0 xf5 xf6 xf7 xf8 xf9 xf10 xf11 xf12 xf13) := hD
          refine lv_aload_n hx hb dX0_begin_47 rfl (lv_at hl 0 rfl) ?_
          refine lv_iload hx hb dX0_begin_48 (lv_at hl 4 rfl) ?_
          refine va_put (D := (dC, dI)) (ci := 0) (v := .int p3) (ty := .boolean) (C := RX0) (T := TX0) (N := 14) hx hb htG inX0 tyX0 tyX0_ok nmX0 hown hK hP hD hS 0 rfl rfl 5 (by decide) (htG _ wd_45) (fun _ h9 => h9) rfl (by decide +kernel) (nb_of ho) (fb_of ho) (Nat.le_of_ble_eq_true rfl) dX0_begin_50 (fun H locs hP hD hS => ?_)
          have hP : va_P (dC, dI) vwCl (xW xh0 xh1 xh2 xh3 xc1 xc2 xc3 xk1 xk2 xk3 xf3 p0 p3 xf6 xf7 xf8 xf9 xf10 xf11 xf12 xf13) H := hP
          have hD : va_D A (xW xh0 xh1 xh2 xh3 xc1 xc2 xc3 xk1 xk2 xk3 xf3 p0 p3 xf6 xf7 xf8 xf9 xf10 xf11 xf12 xf13) := hD
          refine lv_aload_n hx hb dX0_begin_53 rfl (lv_at hl 0 rfl) ?_
          refine lv_iconst (v := 0) hx hb dX0_begin_54 (by decide) ?_
          refine va_put (D := (dC, dI)) (ci := 0) (v := .int 0) (ty := .int) (C := RX0) (T := TX0) (N := 14) hx hb htG inX0 tyX0 tyX0_ok nmX0 hown hK hP hD hS 0 rfl rfl 3 (by decide) (htG _ wd_43) (fun _ h9 => h9) rfl (by decide +kernel) rfl rfl (Nat.le_of_ble_eq_true rfl) dX0_begin_55 (fun H locs hP hD hS => ?_)
          have hP : va_P (dC, dI) vwCl (xW xh0 xh1 xh2 xh3 xc1 xc2 xc3 xk1 xk2 xk3 0 p0 p3 xf6 xf7 xf8 xf9 xf10 xf11 xf12 xf13) H := hP
          have hD : va_D A (xW xh0 xh1 xh2 xh3 xc1 xc2 xc3 xk1 xk2 xk3 0 p0 p3 xf6 xf7 xf8 xf9 xf10 xf11 xf12 xf13) := hD
          refine lv_aload_n hx hb dX0_begin_58 rfl (lv_at hl 0 rfl) ?_
          refine lv_iload_n hx hb dX0_begin_59 rfl (lv_at hl 1 rfl) ?_
          refine lv_iconst (v := 3) hx hb dX0_begin_60 (by decide) ?_
          refine lv_icmp_ne (tgt := 68) hx hb dX0_begin_61 (by decide) (fun c_6 => ?_) (fun c_6 => ?_)
          · exact absurd c_3 c_6
          · refine lv_iconst (v := 4) hx hb dX0_begin_64 (by decide) ?_
            refine lv_goto (tgt := 69) hx hb dX0_begin_65 (by decide) ?_
            refine va_put (D := (dC, dI)) (ci := 0) (v := .int 4) (ty := .int) (C := RX0) (T := TX0) (N := 14) hx hb htG inX0 tyX0 tyX0_ok nmX0 hown hK hP hD hS 0 rfl rfl 6 (by decide) (htG _ wd_46) (fun _ h9 => h9) rfl (by decide +kernel) rfl rfl (Nat.le_of_ble_eq_true rfl) dX0_begin_69 (fun H locs hP hD hS => ?_)
            have hP : va_P (dC, dI) vwCl (xW xh0 xh1 xh2 xh3 xc1 xc2 xc3 xk1 xk2 xk3 0 p0 p3 4 xf7 xf8 xf9 xf10 xf11 xf12 xf13) H := hP
            have hD : va_D A (xW xh0 xh1 xh2 xh3 xc1 xc2 xc3 xk1 xk2 xk3 0 p0 p3 4 xf7 xf8 xf9 xf10 xf11 xf12 xf13) := hD
            refine W.widen (k := 1) (n := 6) (Nat.le_of_ble_eq_true rfl) (Nat.le_of_ble_eq_true rfl) ?_
            exact vx_ret (W.vret hx hb hr (fun t ht hW => ⟨⟨(xk1, xk2, xk3, 0, p0, p3, 4, xf7, xf8, xf9, xf10, xf11, xf12, xf13), rfl, (by rw [fX0_begin, if_neg c_1, if_pos c_2, if_pos c_3, if_neg c_5]), by rw [ht]; exact hP, va_K.moved hW.alike hK, hD⟩, hS.F ht⟩) hS.2.2 dX0_begin_72)
        · obtain ⟨sa, hstr⟩ := hZ.2.2.2.2.1
          exact vx_throwS (own := RX0) (cls := "java/lang/IllegalArgumentException") (names := ["java/lang/RuntimeException", "java/lang/Exception"]) hx hb hl9 hown (by decide +kernel) (by decide +kernel) (htG _ wd_110) (htG _ wd_27) hstr (vx_hat (L := vx_atS RX0 58 "java/lang/IllegalArgumentException" ["java/lang/RuntimeException", "java/lang/Exception"]) (B := [.castable "java/lang/IllegalArgumentException" "java/lang/IllegalArgumentException", .declares ⟨"java/lang/RuntimeException", "<init>", "(Ljava/lang/String;)V"⟩, .declares ⟨"java/lang/Exception", "<init>", "(Ljava/lang/String;)V"⟩, .declares ⟨"java/lang/Throwable", "<init>", "(Ljava/lang/String;)V"⟩]) (fun w hw => htG w (xg_58 w hw)) (by decide +kernel) (vx_c (va_Nw.use rfl hZ.2.2.1.1) (vx_c (va_Nw.use rfl hZ.2.2.1.2.1) (vx_c (va_Nw.use rfl hZ.2.2.1.2.2.1) (vx_c (va_Nw.use rfl hZ.2.2.1.2.2.2.1) (vx_n)))))) (by decide +kernel) hZ.1 hZ.2.1 hS (hl.1.trans hml.symm) dX0_begin_32 dX0_begin_35 dX0_begin_36 dX0_begin_38 dX0_begin_41 (fun x hx => (hEx x hx).elim) (Nat.le_of_ble_eq_true rfl) (Nat.le_of_ble_eq_true rfl) (Nat.le_of_ble_eq_true rfl) (Nat.le_of_ble_eq_true rfl) hlocks (fun t ha hsz hk => ⟨(), trivial, ⟨⟨rfl, (by rw [fX0_begin, if_neg c_1, if_pos c_2, if_pos c_3, if_pos c_5])⟩, hP.kept (fun k q hq => hk q.1 (hP k q hq).lt), va_K.moved ha hK, hD⟩, Nat.le_trans hS.1 hsz, fun q h1 h2 => (hk q (Nat.lt_of_lt_of_le h1 hS.1)).trans (hS.2.1 q h1 h2)⟩) hS.2.2 (Nat.le_of_ble_eq_true rfl) (Nat.le_of_ble_eq_true rfl)
    · obtain ⟨sa, hstr⟩ := hZ.2.2.2.1
      exact vx_throwS (own := RX0) (cls := "java/lang/IllegalArgumentException") (names := ["java/lang/RuntimeException", "java/lang/Exception"]) hx hb hl9 hown (by decide +kernel) (by decide +kernel) (htG _ wd_110) (htG _ wd_27) hstr (vx_hat (L := vx_atS RX0 58 "java/lang/IllegalArgumentException" ["java/lang/RuntimeException", "java/lang/Exception"]) (B := [.castable "java/lang/IllegalArgumentException" "java/lang/IllegalArgumentException", .declares ⟨"java/lang/RuntimeException", "<init>", "(Ljava/lang/String;)V"⟩, .declares ⟨"java/lang/Exception", "<init>", "(Ljava/lang/String;)V"⟩, .declares ⟨"java/lang/Throwable", "<init>", "(Ljava/lang/String;)V"⟩]) (fun w hw => htG w (xg_58 w hw)) (by decide +kernel) (vx_c (va_Nw.use rfl hZ.2.2.1.1) (vx_c (va_Nw.use rfl hZ.2.2.1.2.1) (vx_c (va_Nw.use rfl hZ.2.2.1.2.2.1) (vx_c (va_Nw.use rfl hZ.2.2.1.2.2.2.1) (vx_n)))))) (by decide +kernel) hZ.1 hZ.2.1 hS (hl.1.trans hml.symm) dX0_begin_9 dX0_begin_12 dX0_begin_13 dX0_begin_15 dX0_begin_18 (fun x hx => (hEx x hx).elim) (Nat.le_of_ble_eq_true rfl) (Nat.le_of_ble_eq_true rfl) (Nat.le_of_ble_eq_true rfl) (Nat.le_of_ble_eq_true rfl) hlocks (fun t ha hsz hk => ⟨(), trivial, ⟨⟨rfl, (by rw [fX0_begin, if_neg c_1, if_neg c_2])⟩, hP.kept (fun k q hq => hk q.1 (hP k q hq).lt), va_K.moved ha hK, hD⟩, Nat.le_trans hS.1 hsz, fun q h1 h2 => (hk q (Nat.lt_of_lt_of_le h1 hS.1)).trans (hS.2.1 q h1 h2)⟩) hS.2.2 (Nat.le_of_ble_eq_true rfl) (Nat.le_of_ble_eq_true rfl)

theorem xg_95 : ∀ w ∈ (vx_atS RX0 95 "java/lang/IndexOutOfBoundsException" ["java/lang/RuntimeException", "java/lang/Exception"]).filter goodWord, w ∈ wG := by decide +kernel

def fX0_signature (xk1 xk2 xk3 : Nat → Int32) (xf3 xf4 xf5 xf6 xf7 xf8 xf9 xf10 xf11 xf12 xf13 : Int32) (p0 : Int32) : Int32 × Int32 × xWS :=
  if p0 = 0 then (0, (fX0_areaSize xf6), (xk1, xk2, xk3, xf3, xf4, xf5, xf6, xf7, xf8, xf9, xf10, xf11, xf12, xf13))
  else if p0 = 1 then (0, xf3, (xk1, xk2, xk3, xf3, xf4, xf5, xf6, xf7, xf8, xf9, xf10, xf11, xf12, xf13))
    else if p0 = 2 then (0, (fX0_resultPlace xf4), (xk1, xk2, xk3, xf3, xf4, xf5, xf6, xf7, xf8, xf9, xf10, xf11, xf12, xf13))
      else if p0 = 3 then (0, xf6, (xk1, xk2, xk3, xf3, xf4, xf5, xf6, xf7, xf8, xf9, xf10, xf11, xf12, xf13))
        else (1, 0, (xk1, xk2, xk3, xf3, xf4, xf5, xf6, xf7, xf8, xf9, xf10, xf11, xf12, xf13))

abbrev wsX0_signature : List Cond := .code yX0_signature cX0_signature 2 (some .int) :: wG
set_option maxHeartbeats 4000000 in
set_option maxRecDepth 100000 in
theorem mX0_signature (l : Launch) (hl9 : l.stackTraces = false) (dC : Nat → ClassId) (dI : Nat → Nat → Nat) (xh0 xh1 xh2 xh3 : Nat) (sz : Nat) (xc1 xc2 xc3 : ClassId) (xk1 xk2 xk3 : Nat → Int32) (xf3 xf4 xf5 xf6 xf7 xf8 xf9 xf10 xf11 xf12 xf13 : Int32) (p0 : Int32)  : vx_Met l yX0_signature wsX0_signature ({ frames := 6, cells := 1, slots := 6, locals := 82 }) (va_Pc [.ref xh0, .int p0] (fun U => U.heap.size = sz ∧ va_P (dC, dI) vwCl (xW xh0 xh1 xh2 xh3 xc1 xc2 xc3 xk1 xk2 xk3 xf3 xf4 xf5 xf6 xf7 xf8 xf9 xf10 xf11 xf12 xf13) U.heap ∧ va_K (dC, dI) vwCl [(xc1, .int), (xc2, .int), (xc3, .int)] U ∧ va_D (fun _ => True) (xW xh0 xh1 xh2 xh3 xc1 xc2 xc3 xk1 xk2 xk3 xf3 xf4 xf5 xf6 xf7 xf8 xf9 xf10 xf11 xf12 xf13) ∧ xZ (va_A (xW xh0 xh1 xh2 xh3 xc1 xc2 xc3 xk1 xk2 xk3 xf3 xf4 xf5 xf6 xf7 xf8 xf9 xf10 xf11 xf12 xf13) sz) U U.heap)) (va_Qi (fun r u => (0, r, u) = fX0_signature xk1 xk2 xk3 xf3 xf4 xf5 xf6 xf7 xf8 xf9 xf10 xf11 xf12 xf13 p0) (xWB dC dI (va_A (xW xh0 xh1 xh2 xh3 xc1 xc2 xc3 xk1 xk2 xk3 xf3 xf4 xf5 xf6 xf7 xf8 xf9 xf10 xf11 xf12 xf13) sz) xh0 xh1 xh2 xh3 xc1 xc2 xc3) (va_A (xW xh0 xh1 xh2 xh3 xc1 xc2 xc3 xk1 xk2 xk3 xf3 xf4 xf5 xf6 xf7 xf8 xf9 xf10 xf11 xf12 xf13) sz)) (vx_X (fun _ : Unit => True) (fun E _ t => ((E = "java/lang/IndexOutOfBoundsException" ∧ fX0_signature xk1 xk2 xk3 xf3 xf4 xf5 xf6 xf7 xf8 xf9 xf10 xf11 xf12 xf13 p0 = (1, 0, (xk1, xk2, xk3, xf3, xf4, xf5, xf6, xf7, xf8, xf9, xf10, xf11, xf12, xf13)))) ∧ xWB dC dI (va_A (xW xh0 xh1 xh2 xh3 xc1 xc2 xc3 xk1 xk2 xk3 xf3 xf4 xf5 xf6 xf7 xf8 xf9 xf10 xf11 xf12 xf13) sz) xh0 xh1 xh2 xh3 xc1 xc2 xc3 (xk1, xk2, xk3, xf3, xf4, xf5, xf6, xf7, xf8, xf9, xf10, xf11, xf12, xf13) t) (va_A (xW xh0 xh1 xh2 xh3 xc1 xc2 xc3 xk1 xk2 xk3 xf3 xf4 xf5 xf6 xf7 xf8 xf9 xf10 xf11 xf12 xf13) sz)) 1 6 (va_A (xW xh0 xh1 xh2 xh3 xc1 xc2 xc3 xk1 xk2 xk3 xf3 xf4 xf5 xf6 xf7 xf8 xf9 xf10 xf11 xf12 xf13) sz) := by
  refine vx_ofW (cc := cX0_signature) (maxL := 2) (ret := (some .int)) (by decide) rfl ?_
  intro p e s m args below meth c s₁ B hml hEx hv
  obtain ⟨rfl, hsz, hP, hK, hD0, hZ⟩ := hv
  have hx := B.exec
  have hb := B.bytes
  have hr := B.returns
  have hts := atoms_spec (ws := wsX0_signature) B.pre
  have htG := fun (w : Cond) (h : w ∈ wG) => hts w (List.mem_cons_of_mem _ h)
  have hown : s.vm.findClass RX0 = some m.cls := findClass_of_methodNamed B.named
  have hlocks := B.notSynchronized
  subst hsz
  have hD := hD0.self (sz := s.heap.size)
  generalize hAe : va_A (xW xh0 xh1 xh2 xh3 xc1 xc2 xc3 xk1 xk2 xk3 xf3 xf4 xf5 xf6 xf7 xf8 xf9 xf10 xf11 xf12 xf13) s.heap.size = A at hD hZ ⊢
  have hA : ∀ q : Nat, s.heap.size ≤ q → A q := fun q h => by rw [← hAe]; exact Or.inr h
  have hS : va_S A s.heap s.heap [] := va_S.rf
  have hP : va_P (dC, dI) vwCl (xW xh0 xh1 xh2 xh3 xc1 xc2 xc3 xk1 xk2 xk3 xf3 xf4 xf5 xf6 xf7 xf8 xf9 xf10 xf11 xf12 xf13) s.heap := hP
  have hl := lv_entry ([.ref xh0, .int p0]) (n := 2) (Nat.le_of_ble_eq_true rfl)
  rw [lg_entry_eq]
  generalize (lg_sl ([.ref xh0, .int p0]) ++ List.replicate (2 - (lg_sl ([.ref xh0, .int p0])).length) Slot.unset).toArray = ls at hl ⊢
  have hl : lv_has ls 2 [(0, .ref xh0), (1, .int p0)] := hl
  refine lv_iload_n hx hb dX0_signature_0 rfl (lv_at hl 1 rfl) ?_
  -- a switch of p0
  rcases Classical.em (p0 = 0) with c_1 | c_1
  · refine lv_tableIn (tgt := 32) (off := 31) hx hb dX0_signature_1 (by rw [c_1]; decide) (by rw [c_1]; decide) (by rw [c_1]; rfl) (by decide) ?_
    refine lv_aload_n hx hb dX0_signature_32 rfl (lv_at hl 0 rfl) ?_
    refine vp_callSi (va_runV (As := []) (rest := []) ⟨hx, hb, hml, hown, htG⟩ (mX0_areaSize l dC dI xh0 xh1 xh2 xh3 xc1 xc2 xc3 xk1 xk2 xk3 xf3 xf4 xf5 xf6 xf7 xf8 xf9 xf10 xf11 xf12 xf13) (cwV 0 htG (wG_V wd_88 wd_90 wd_0 wd_22 wd_91) rfl rfl rfl (by decide +kernel) ⟨Nat.le_of_ble_eq_true rfl, Nat.le_of_ble_eq_true rfl⟩) ⟨fun a U g mk q => by obtain ⟨q0, qP, qK⟩ := q; exact ⟨q0, qP, va_K.moved (u := U) (U := U.calling g mk a) (Vm.Alike.refl U.vm) qK⟩, va_recv hK hP (ci := 0) (q0 := 0) rfl rfl, fun U hU hW => ⟨rfl, by rw [hU]; exact hP, va_K.moved hW.alike hK⟩⟩ rfl rfl hl.1 rfl (lv_room (Nat.le_of_ble_eq_true rfl)) dX0_signature_33 ⟨Nat.le_of_ble_eq_true rfl, Nat.le_of_ble_eq_true rfl⟩).run (fun r_1 er_1 => ?_)
    subst er_1
    refine W.widen (k := 1) (n := 6) (Nat.le_of_ble_eq_true rfl) (Nat.le_of_ble_eq_true rfl) ?_
    exact vx_ret (W.iret (v := (fX0_areaSize xf6)) hx hb hr (fun t ht hW => ⟨⟨(fX0_areaSize xf6), (xk1, xk2, xk3, xf3, xf4, xf5, xf6, xf7, xf8, xf9, xf10, xf11, xf12, xf13), rfl, (by rw [fX0_signature, if_pos c_1]), by rw [ht]; exact hP, va_K.moved hW.alike hK, hD⟩, hS.F ht⟩) hS.2.2 dX0_signature_36)
  · rcases Classical.em (p0 = 1) with c_2 | c_2
    · refine lv_tableIn (tgt := 37) (off := 36) hx hb dX0_signature_1 (by rw [c_2]; decide) (by rw [c_2]; decide) (by rw [c_2]; rfl) (by decide) ?_
      refine lv_aload_n hx hb dX0_signature_37 rfl (lv_at hl 0 rfl) ?_
      refine va_get (D := (dC, dI)) (ci := 0) (v := .int xf3) (C := RX0) (T := TX0) (N := 14) hx hb htG inX0 hown hK hP 0 rfl rfl 3 (by decide) (htG _ wd_43) (fun _ h9 => h9) rfl dX0_signature_38 ?_
      refine W.widen (k := 1) (n := 6) (Nat.le_of_ble_eq_true rfl) (Nat.le_of_ble_eq_true rfl) ?_
      exact vx_ret (W.iret (v := xf3) hx hb hr (fun t ht hW => ⟨⟨xf3, (xk1, xk2, xk3, xf3, xf4, xf5, xf6, xf7, xf8, xf9, xf10, xf11, xf12, xf13), rfl, (by rw [fX0_signature, if_neg c_1, if_pos c_2]), by rw [ht]; exact hP, va_K.moved hW.alike hK, hD⟩, hS.F ht⟩) hS.2.2 dX0_signature_41)
    · rcases Classical.em (p0 = 2) with c_3 | c_3
      · refine lv_tableIn (tgt := 42) (off := 41) hx hb dX0_signature_1 (by rw [c_3]; decide) (by rw [c_3]; decide) (by rw [c_3]; rfl) (by decide) ?_
        refine lv_aload_n hx hb dX0_signature_42 rfl (lv_at hl 0 rfl) ?_
        refine vp_callSi (va_runV (As := []) (rest := []) ⟨hx, hb, hml, hown, htG⟩ (mX0_resultPlace l dC dI xh0 xh1 xh2 xh3 xc1 xc2 xc3 xk1 xk2 xk3 xf3 xf4 xf5 xf6 xf7 xf8 xf9 xf10 xf11 xf12 xf13) (cwV 0 htG (wG_V wd_291 wd_293 wd_10 wd_22 wd_294) rfl rfl rfl (by decide +kernel) ⟨Nat.le_of_ble_eq_true rfl, Nat.le_of_ble_eq_true rfl⟩) ⟨fun a U g mk q => by obtain ⟨q0, qP, qK⟩ := q; exact ⟨q0, qP, va_K.moved (u := U) (U := U.calling g mk a) (Vm.Alike.refl U.vm) qK⟩, va_recv hK hP (ci := 0) (q0 := 0) rfl rfl, fun U hU hW => ⟨rfl, by rw [hU]; exact hP, va_K.moved hW.alike hK⟩⟩ rfl rfl hl.1 rfl (lv_room (Nat.le_of_ble_eq_true rfl)) dX0_signature_43 ⟨Nat.le_of_ble_eq_true rfl, Nat.le_of_ble_eq_true rfl⟩).run (fun r_2 er_2 => ?_)
        subst er_2
        refine W.widen (k := 1) (n := 6) (Nat.le_of_ble_eq_true rfl) (Nat.le_of_ble_eq_true rfl) ?_
        exact vx_ret (W.iret (v := (fX0_resultPlace xf4)) hx hb hr (fun t ht hW => ⟨⟨(fX0_resultPlace xf4), (xk1, xk2, xk3, xf3, xf4, xf5, xf6, xf7, xf8, xf9, xf10, xf11, xf12, xf13), rfl, (by rw [fX0_signature, if_neg c_1, if_neg c_2, if_pos c_3]), by rw [ht]; exact hP, va_K.moved hW.alike hK, hD⟩, hS.F ht⟩) hS.2.2 dX0_signature_46)
      · rcases Classical.em (p0 = 3) with c_4 | c_4
        · refine lv_tableIn (tgt := 47) (off := 46) hx hb dX0_signature_1 (by rw [c_4]; decide) (by rw [c_4]; decide) (by rw [c_4]; rfl) (by decide) ?_
          refine lv_aload_n hx hb dX0_signature_47 rfl (lv_at hl 0 rfl) ?_
          refine va_get (D := (dC, dI)) (ci := 0) (v := .int xf6) (C := RX0) (T := TX0) (N := 14) hx hb htG inX0 hown hK hP 0 rfl rfl 6 (by decide) (htG _ wd_46) (fun _ h9 => h9) rfl dX0_signature_48 ?_
          refine W.widen (k := 1) (n := 6) (Nat.le_of_ble_eq_true rfl) (Nat.le_of_ble_eq_true rfl) ?_
          exact vx_ret (W.iret (v := xf6) hx hb hr (fun t ht hW => ⟨⟨xf6, (xk1, xk2, xk3, xf3, xf4, xf5, xf6, xf7, xf8, xf9, xf10, xf11, xf12, xf13), rfl, (by rw [fX0_signature, if_neg c_1, if_neg c_2, if_neg c_3, if_pos c_4]), by rw [ht]; exact hP, va_K.moved hW.alike hK, hD⟩, hS.F ht⟩) hS.2.2 dX0_signature_51)
        · refine lv_tableOut (tgt := 52) hx hb dX0_signature_1 (tab_out0_3 c_1 c_2 c_3 c_4) (by decide) ?_
          obtain ⟨sa, hstr⟩ := hZ.2.2.2.2.2.2.2.2.2.2.1
          exact vx_throwS (own := RX0) (cls := "java/lang/IndexOutOfBoundsException") (names := ["java/lang/RuntimeException", "java/lang/Exception"]) hx hb hl9 hown (by decide +kernel) (by decide +kernel) (htG _ wd_232) (htG _ wd_29) hstr (vx_hat (L := vx_atS RX0 95 "java/lang/IndexOutOfBoundsException" ["java/lang/RuntimeException", "java/lang/Exception"]) (B := [.castable "java/lang/IndexOutOfBoundsException" "java/lang/IndexOutOfBoundsException", .declares ⟨"java/lang/RuntimeException", "<init>", "(Ljava/lang/String;)V"⟩, .declares ⟨"java/lang/Exception", "<init>", "(Ljava/lang/String;)V"⟩, .declares ⟨"java/lang/Throwable", "<init>", "(Ljava/lang/String;)V"⟩]) (fun w hw => htG w (xg_95 w hw)) (by decide +kernel) (vx_c (va_Nw.use rfl hZ.2.2.1.2.2.2.2.2) (vx_c (va_Nw.use rfl hZ.2.2.1.2.1) (vx_c (va_Nw.use rfl hZ.2.2.1.2.2.1) (vx_c (va_Nw.use rfl hZ.2.2.1.2.2.2.1) (vx_n)))))) (by decide +kernel) hZ.1 hZ.2.1 hS (hl.1.trans hml.symm) dX0_signature_52 dX0_signature_55 dX0_signature_56 dX0_signature_58 dX0_signature_61 (fun x hx => (hEx x hx).elim) (Nat.le_of_ble_eq_true rfl) (Nat.le_of_ble_eq_true rfl) (Nat.le_of_ble_eq_true rfl) (Nat.le_of_ble_eq_true rfl) hlocks (fun t ha hsz hk => ⟨(), trivial, ⟨⟨rfl, (by rw [fX0_signature, if_neg c_1, if_neg c_2, if_neg c_3, if_neg c_4])⟩, hP.kept (fun k q hq => hk q.1 (hP k q hq).lt), va_K.moved ha hK, hD⟩, Nat.le_trans hS.1 hsz, fun q h1 h2 => (hk q (Nat.lt_of_lt_of_le h1 hS.1)).trans (hS.2.1 q h1 h2)⟩) hS.2.2 (Nat.le_of_ble_eq_true rfl) (Nat.le_of_ble_eq_true rfl)

def fX0_about (xk1 xk2 xk3 : Nat → Int32) (xf3 xf4 xf5 xf6 xf7 xf8 xf9 xf10 xf11 xf12 xf13 : Int32) (p0 p1 : Int32) : Int32 × Int32 × xWS :=
  if (fX0_isArgument xf3 xf4 p0) = 0 then (1, 0, (xk1, xk2, xk3, xf3, xf4, xf5, xf6, xf7, xf8, xf9, xf10, xf11, xf12, xf13))
  else if p1 = 0 then (0, (fX0_homeAt xk2 xf3 p0), (xk1, xk2, xk3, xf3, xf4, xf5, xf6, xf7, xf8, xf9, xf10, xf11, xf12, xf13))
    else if p1 = 1 then (0, (fX0_bytesAt xk3 xf3 p0), (xk1, xk2, xk3, xf3, xf4, xf5, xf6, xf7, xf8, xf9, xf10, xf11, xf12, xf13))
      else if p1 = 2 then (0, (fX0_wordsAt xk3 xf3 p0), (xk1, xk2, xk3, xf3, xf4, xf5, xf6, xf7, xf8, xf9, xf10, xf11, xf12, xf13))
        else (1, 0, (xk1, xk2, xk3, xf3, xf4, xf5, xf6, xf7, xf8, xf9, xf10, xf11, xf12, xf13))

abbrev wsX0_about : List Cond := .code yX0_about cX0_about 3 (some .int) :: wG
set_option maxHeartbeats 4000000 in
set_option maxRecDepth 100000 in
theorem mX0_about (l : Launch) (hl9 : l.stackTraces = false) (dC : Nat → ClassId) (dI : Nat → Nat → Nat) (xh0 xh1 xh2 xh3 : Nat) (sz : Nat) (xc1 xc2 xc3 : ClassId) (xk1 xk2 xk3 : Nat → Int32) (xf3 xf4 xf5 xf6 xf7 xf8 xf9 xf10 xf11 xf12 xf13 : Int32) (p0 p1 : Int32)  : vx_Met l yX0_about wsX0_about ({ frames := 6, cells := 1, slots := 6, locals := 82 }) (va_Pc [.ref xh0, .int p0, .int p1] (fun U => U.heap.size = sz ∧ va_P (dC, dI) vwCl (xW xh0 xh1 xh2 xh3 xc1 xc2 xc3 xk1 xk2 xk3 xf3 xf4 xf5 xf6 xf7 xf8 xf9 xf10 xf11 xf12 xf13) U.heap ∧ va_K (dC, dI) vwCl [(xc1, .int), (xc2, .int), (xc3, .int)] U ∧ va_D (fun _ => True) (xW xh0 xh1 xh2 xh3 xc1 xc2 xc3 xk1 xk2 xk3 xf3 xf4 xf5 xf6 xf7 xf8 xf9 xf10 xf11 xf12 xf13) ∧ xZ (va_A (xW xh0 xh1 xh2 xh3 xc1 xc2 xc3 xk1 xk2 xk3 xf3 xf4 xf5 xf6 xf7 xf8 xf9 xf10 xf11 xf12 xf13) sz) U U.heap)) (va_Qi (fun r u => (0, r, u) = fX0_about xk1 xk2 xk3 xf3 xf4 xf5 xf6 xf7 xf8 xf9 xf10 xf11 xf12 xf13 p0 p1) (xWB dC dI (va_A (xW xh0 xh1 xh2 xh3 xc1 xc2 xc3 xk1 xk2 xk3 xf3 xf4 xf5 xf6 xf7 xf8 xf9 xf10 xf11 xf12 xf13) sz) xh0 xh1 xh2 xh3 xc1 xc2 xc3) (va_A (xW xh0 xh1 xh2 xh3 xc1 xc2 xc3 xk1 xk2 xk3 xf3 xf4 xf5 xf6 xf7 xf8 xf9 xf10 xf11 xf12 xf13) sz)) (vx_X (fun _ : Unit => True) (fun E _ t => ((E = "java/lang/IndexOutOfBoundsException" ∧ fX0_about xk1 xk2 xk3 xf3 xf4 xf5 xf6 xf7 xf8 xf9 xf10 xf11 xf12 xf13 p0 p1 = (1, 0, (xk1, xk2, xk3, xf3, xf4, xf5, xf6, xf7, xf8, xf9, xf10, xf11, xf12, xf13)))) ∧ xWB dC dI (va_A (xW xh0 xh1 xh2 xh3 xc1 xc2 xc3 xk1 xk2 xk3 xf3 xf4 xf5 xf6 xf7 xf8 xf9 xf10 xf11 xf12 xf13) sz) xh0 xh1 xh2 xh3 xc1 xc2 xc3 (xk1, xk2, xk3, xf3, xf4, xf5, xf6, xf7, xf8, xf9, xf10, xf11, xf12, xf13) t) (va_A (xW xh0 xh1 xh2 xh3 xc1 xc2 xc3 xk1 xk2 xk3 xf3 xf4 xf5 xf6 xf7 xf8 xf9 xf10 xf11 xf12 xf13) sz)) 1 6 (va_A (xW xh0 xh1 xh2 xh3 xc1 xc2 xc3 xk1 xk2 xk3 xf3 xf4 xf5 xf6 xf7 xf8 xf9 xf10 xf11 xf12 xf13) sz) := by
  refine vx_ofW (cc := cX0_about) (maxL := 3) (ret := (some .int)) (by decide) rfl ?_
  intro p e s m args below meth c s₁ B hml hEx hv
  obtain ⟨rfl, hsz, hP, hK, hD0, hZ⟩ := hv
  have hx := B.exec
  have hb := B.bytes
  have hr := B.returns
  have hts := atoms_spec (ws := wsX0_about) B.pre
  have htG := fun (w : Cond) (h : w ∈ wG) => hts w (List.mem_cons_of_mem _ h)
  have hown : s.vm.findClass RX0 = some m.cls := findClass_of_methodNamed B.named
  have hlocks := B.notSynchronized
  subst hsz
  have hD := hD0.self (sz := s.heap.size)
  generalize hAe : va_A (xW xh0 xh1 xh2 xh3 xc1 xc2 xc3 xk1 xk2 xk3 xf3 xf4 xf5 xf6 xf7 xf8 xf9 xf10 xf11 xf12 xf13) s.heap.size = A at hD hZ ⊢
  have hA : ∀ q : Nat, s.heap.size ≤ q → A q := fun q h => by rw [← hAe]; exact Or.inr h
  have hS : va_S A s.heap s.heap [] := va_S.rf
  have hP : va_P (dC, dI) vwCl (xW xh0 xh1 xh2 xh3 xc1 xc2 xc3 xk1 xk2 xk3 xf3 xf4 xf5 xf6 xf7 xf8 xf9 xf10 xf11 xf12 xf13) s.heap := hP
  have hl := lv_entry ([.ref xh0, .int p0, .int p1]) (n := 3) (Nat.le_of_ble_eq_true rfl)
  rw [lg_entry_eq]
  generalize (lg_sl ([.ref xh0, .int p0, .int p1]) ++ List.replicate (3 - (lg_sl ([.ref xh0, .int p0, .int p1])).length) Slot.unset).toArray = ls at hl ⊢
  have hl : lv_has ls 3 [(0, .ref xh0), (1, .int p0), (2, .int p1)] := hl
  refine lv_aload_n hx hb dX0_about_0 rfl (lv_at hl 0 rfl) ?_
  refine lv_iload_n hx hb dX0_about_1 rfl (lv_at hl 1 rfl) ?_
  refine vp_callSi (va_runV (As := [.int p0]) (rest := []) ⟨hx, hb, hml, hown, htG⟩ (mX0_isArgument l dC dI xh0 xh1 xh2 xh3 xc1 xc2 xc3 xk1 xk2 xk3 xf3 xf4 xf5 xf6 xf7 xf8 xf9 xf10 xf11 xf12 xf13 p0) (cwV 1 htG (wG_V wd_224 wd_226 wd_2 wd_22 wd_227) rfl rfl rfl (by decide +kernel) ⟨Nat.le_of_ble_eq_true rfl, Nat.le_of_ble_eq_true rfl⟩) ⟨fun a U g mk q => by obtain ⟨q0, qP, qK⟩ := q; exact ⟨q0, qP, va_K.moved (u := U) (U := U.calling g mk a) (Vm.Alike.refl U.vm) qK⟩, va_recv hK hP (ci := 0) (q0 := 0) rfl rfl, fun U hU hW => ⟨rfl, by rw [hU]; exact hP, va_K.moved hW.alike hK⟩⟩ rfl rfl hl.1 rfl (lv_room (Nat.le_of_ble_eq_true rfl)) dX0_about_2 ⟨Nat.le_of_ble_eq_true rfl, Nat.le_of_ble_eq_true rfl⟩).run (fun r_1 er_1 => ?_)
  subst er_1
  refine lv_if_ne (tgt := 18) hx hb dX0_about_5 (by decide) (fun c_1 => ?_) (fun c_1 => ?_)
  · refine lv_iload_n hx hb dX0_about_18 rfl (lv_at hl 2 rfl) ?_
    -- a switch of p1
    rcases Classical.em (p1 = 0) with c_2 | c_2
    · refine lv_tableIn (tgt := 44) (off := 25) hx hb dX0_about_19 (by rw [c_2]; decide) (by rw [c_2]; decide) (by rw [c_2]; rfl) (by decide) ?_
      refine lv_aload_n hx hb dX0_about_44 rfl (lv_at hl 0 rfl) ?_
      refine lv_iload_n hx hb dX0_about_45 rfl (lv_at hl 1 rfl) ?_
      refine vp_callSi (va_runV (As := [.int p0]) (rest := []) ⟨hx, hb, hml, hown, htG⟩ (mX0_homeAt l dC dI xh0 xh1 xh2 xh3 xc1 xc2 xc3 xk1 xk2 xk3 xf3 xf4 xf5 xf6 xf7 xf8 xf9 xf10 xf11 xf12 xf13 p0) (cwV 1 htG (wG_V wd_269 wd_271 wd_9 wd_22 wd_272) rfl rfl rfl (by decide +kernel) ⟨Nat.le_of_ble_eq_true rfl, Nat.le_of_ble_eq_true rfl⟩) ⟨fun a U g mk q => by obtain ⟨q0, qP, qK⟩ := q; exact ⟨q0, qP, va_K.moved (u := U) (U := U.calling g mk a) (Vm.Alike.refl U.vm) qK⟩, va_recv hK hP (ci := 0) (q0 := 0) rfl rfl, fun U hU hW => ⟨rfl, by rw [hU]; exact hP, va_K.moved hW.alike hK⟩⟩ rfl rfl hl.1 rfl (lv_room (Nat.le_of_ble_eq_true rfl)) dX0_about_46 ⟨Nat.le_of_ble_eq_true rfl, Nat.le_of_ble_eq_true rfl⟩).run (fun r_2 er_2 => ?_)
      subst er_2
      refine W.widen (k := 1) (n := 6) (Nat.le_of_ble_eq_true rfl) (Nat.le_of_ble_eq_true rfl) ?_
      exact vx_ret (W.iret (v := (fX0_homeAt xk2 xf3 p0)) hx hb hr (fun t ht hW => ⟨⟨(fX0_homeAt xk2 xf3 p0), (xk1, xk2, xk3, xf3, xf4, xf5, xf6, xf7, xf8, xf9, xf10, xf11, xf12, xf13), rfl, (by rw [fX0_about, if_neg c_1, if_pos c_2]), by rw [ht]; exact hP, va_K.moved hW.alike hK, hD⟩, hS.F ht⟩) hS.2.2 dX0_about_49)
    · rcases Classical.em (p1 = 1) with c_3 | c_3
      · refine lv_tableIn (tgt := 50) (off := 31) hx hb dX0_about_19 (by rw [c_3]; decide) (by rw [c_3]; decide) (by rw [c_3]; rfl) (by decide) ?_
        refine lv_aload_n hx hb dX0_about_50 rfl (lv_at hl 0 rfl) ?_
        refine lv_iload_n hx hb dX0_about_51 rfl (lv_at hl 1 rfl) ?_
        refine vp_callSi (va_runV (As := [.int p0]) (rest := []) ⟨hx, hb, hml, hown, htG⟩ (mX0_bytesAt l dC dI xh0 xh1 xh2 xh3 xc1 xc2 xc3 xk1 xk2 xk3 xf3 xf4 xf5 xf6 xf7 xf8 xf9 xf10 xf11 xf12 xf13 p0) (cwV 1 htG (wG_V wd_252 wd_254 wd_5 wd_22 wd_255) rfl rfl rfl (by decide +kernel) ⟨Nat.le_of_ble_eq_true rfl, Nat.le_of_ble_eq_true rfl⟩) ⟨fun a U g mk q => by obtain ⟨q0, qP, qK⟩ := q; exact ⟨q0, qP, va_K.moved (u := U) (U := U.calling g mk a) (Vm.Alike.refl U.vm) qK⟩, va_recv hK hP (ci := 0) (q0 := 0) rfl rfl, fun U hU hW => ⟨rfl, by rw [hU]; exact hP, va_K.moved hW.alike hK⟩⟩ rfl rfl hl.1 rfl (lv_room (Nat.le_of_ble_eq_true rfl)) dX0_about_52 ⟨Nat.le_of_ble_eq_true rfl, Nat.le_of_ble_eq_true rfl⟩).run (fun r_3 er_3 => ?_)
        subst er_3
        refine W.widen (k := 1) (n := 6) (Nat.le_of_ble_eq_true rfl) (Nat.le_of_ble_eq_true rfl) ?_
        exact vx_ret (W.iret (v := (fX0_bytesAt xk3 xf3 p0)) hx hb hr (fun t ht hW => ⟨⟨(fX0_bytesAt xk3 xf3 p0), (xk1, xk2, xk3, xf3, xf4, xf5, xf6, xf7, xf8, xf9, xf10, xf11, xf12, xf13), rfl, (by rw [fX0_about, if_neg c_1, if_neg c_2, if_pos c_3]), by rw [ht]; exact hP, va_K.moved hW.alike hK, hD⟩, hS.F ht⟩) hS.2.2 dX0_about_55)
      · rcases Classical.em (p1 = 2) with c_4 | c_4
        · refine lv_tableIn (tgt := 56) (off := 37) hx hb dX0_about_19 (by rw [c_4]; decide) (by rw [c_4]; decide) (by rw [c_4]; rfl) (by decide) ?_
          refine lv_aload_n hx hb dX0_about_56 rfl (lv_at hl 0 rfl) ?_
          refine lv_iload_n hx hb dX0_about_57 rfl (lv_at hl 1 rfl) ?_
          refine vp_callSi (va_runV (As := [.int p0]) (rest := []) ⟨hx, hb, hml, hown, htG⟩ (mX0_wordsAt l dC dI xh0 xh1 xh2 xh3 xc1 xc2 xc3 xk1 xk2 xk3 xf3 xf4 xf5 xf6 xf7 xf8 xf9 xf10 xf11 xf12 xf13 p0) (cwV 1 htG (wG_V wd_248 wd_250 wd_4 wd_22 wd_251) rfl rfl rfl (by decide +kernel) ⟨Nat.le_of_ble_eq_true rfl, Nat.le_of_ble_eq_true rfl⟩) ⟨fun a U g mk q => by obtain ⟨q0, qP, qK⟩ := q; exact ⟨q0, qP, va_K.moved (u := U) (U := U.calling g mk a) (Vm.Alike.refl U.vm) qK⟩, va_recv hK hP (ci := 0) (q0 := 0) rfl rfl, fun U hU hW => ⟨rfl, by rw [hU]; exact hP, va_K.moved hW.alike hK⟩⟩ rfl rfl hl.1 rfl (lv_room (Nat.le_of_ble_eq_true rfl)) dX0_about_58 ⟨Nat.le_of_ble_eq_true rfl, Nat.le_of_ble_eq_true rfl⟩).run (fun r_4 er_4 => ?_)
          subst er_4
          refine W.widen (k := 1) (n := 6) (Nat.le_of_ble_eq_true rfl) (Nat.le_of_ble_eq_true rfl) ?_
          exact vx_ret (W.iret (v := (fX0_wordsAt xk3 xf3 p0)) hx hb hr (fun t ht hW => ⟨⟨(fX0_wordsAt xk3 xf3 p0), (xk1, xk2, xk3, xf3, xf4, xf5, xf6, xf7, xf8, xf9, xf10, xf11, xf12, xf13), rfl, (by rw [fX0_about, if_neg c_1, if_neg c_2, if_neg c_3, if_pos c_4]), by rw [ht]; exact hP, va_K.moved hW.alike hK, hD⟩, hS.F ht⟩) hS.2.2 dX0_about_61)
        · refine lv_tableOut (tgt := 62) hx hb dX0_about_19 (tab_out0_2 c_2 c_3 c_4) (by decide) ?_
          obtain ⟨sa, hstr⟩ := hZ.2.2.2.2.2.2.2.2.2.2.1
          exact vx_throwS (own := RX0) (cls := "java/lang/IndexOutOfBoundsException") (names := ["java/lang/RuntimeException", "java/lang/Exception"]) hx hb hl9 hown (by decide +kernel) (by decide +kernel) (htG _ wd_232) (htG _ wd_29) hstr (vx_hat (L := vx_atS RX0 95 "java/lang/IndexOutOfBoundsException" ["java/lang/RuntimeException", "java/lang/Exception"]) (B := [.castable "java/lang/IndexOutOfBoundsException" "java/lang/IndexOutOfBoundsException", .declares ⟨"java/lang/RuntimeException", "<init>", "(Ljava/lang/String;)V"⟩, .declares ⟨"java/lang/Exception", "<init>", "(Ljava/lang/String;)V"⟩, .declares ⟨"java/lang/Throwable", "<init>", "(Ljava/lang/String;)V"⟩]) (fun w hw => htG w (xg_95 w hw)) (by decide +kernel) (vx_c (va_Nw.use rfl hZ.2.2.1.2.2.2.2.2) (vx_c (va_Nw.use rfl hZ.2.2.1.2.1) (vx_c (va_Nw.use rfl hZ.2.2.1.2.2.1) (vx_c (va_Nw.use rfl hZ.2.2.1.2.2.2.1) (vx_n)))))) (by decide +kernel) hZ.1 hZ.2.1 hS (hl.1.trans hml.symm) dX0_about_62 dX0_about_65 dX0_about_66 dX0_about_68 dX0_about_71 (fun x hx => (hEx x hx).elim) (Nat.le_of_ble_eq_true rfl) (Nat.le_of_ble_eq_true rfl) (Nat.le_of_ble_eq_true rfl) (Nat.le_of_ble_eq_true rfl) hlocks (fun t ha hsz hk => ⟨(), trivial, ⟨⟨rfl, (by rw [fX0_about, if_neg c_1, if_neg c_2, if_neg c_3, if_neg c_4])⟩, hP.kept (fun k q hq => hk q.1 (hP k q hq).lt), va_K.moved ha hK, hD⟩, Nat.le_trans hS.1 hsz, fun q h1 h2 => (hk q (Nat.lt_of_lt_of_le h1 hS.1)).trans (hS.2.1 q h1 h2)⟩) hS.2.2 (Nat.le_of_ble_eq_true rfl) (Nat.le_of_ble_eq_true rfl)
  · obtain ⟨sa, hstr⟩ := hZ.2.2.2.2.2.2.2.2.1
    exact vx_throwS (own := RX0) (cls := "java/lang/IndexOutOfBoundsException") (names := ["java/lang/RuntimeException", "java/lang/Exception"]) hx hb hl9 hown (by decide +kernel) (by decide +kernel) (htG _ wd_232) (htG _ wd_29) hstr (vx_hat (L := vx_atS RX0 95 "java/lang/IndexOutOfBoundsException" ["java/lang/RuntimeException", "java/lang/Exception"]) (B := [.castable "java/lang/IndexOutOfBoundsException" "java/lang/IndexOutOfBoundsException", .declares ⟨"java/lang/RuntimeException", "<init>", "(Ljava/lang/String;)V"⟩, .declares ⟨"java/lang/Exception", "<init>", "(Ljava/lang/String;)V"⟩, .declares ⟨"java/lang/Throwable", "<init>", "(Ljava/lang/String;)V"⟩]) (fun w hw => htG w (xg_95 w hw)) (by decide +kernel) (vx_c (va_Nw.use rfl hZ.2.2.1.2.2.2.2.2) (vx_c (va_Nw.use rfl hZ.2.2.1.2.1) (vx_c (va_Nw.use rfl hZ.2.2.1.2.2.1) (vx_c (va_Nw.use rfl hZ.2.2.1.2.2.2.1) (vx_n)))))) (by decide +kernel) hZ.1 hZ.2.1 hS (hl.1.trans hml.symm) dX0_about_8 dX0_about_11 dX0_about_12 dX0_about_14 dX0_about_17 (fun x hx => (hEx x hx).elim) (Nat.le_of_ble_eq_true rfl) (Nat.le_of_ble_eq_true rfl) (Nat.le_of_ble_eq_true rfl) (Nat.le_of_ble_eq_true rfl) hlocks (fun t ha hsz hk => ⟨(), trivial, ⟨⟨rfl, (by rw [fX0_about, if_pos c_1])⟩, hP.kept (fun k q hq => hk q.1 (hP k q hq).lt), va_K.moved ha hK, hD⟩, Nat.le_trans hS.1 hsz, fun q h1 h2 => (hk q (Nat.lt_of_lt_of_le h1 hS.1)).trans (hS.2.1 q h1 h2)⟩) hS.2.2 (Nat.le_of_ble_eq_true rfl) (Nat.le_of_ble_eq_true rfl)

def fX0_place (xk1 xk2 xk3 : Nat → Int32) (xf3 xf4 xf5 xf6 xf7 xf8 xf9 xf10 xf11 xf12 xf13 : Int32) (p0 p1 : Int32) : Int32 × Int32 × xWS :=
  if p1 < 0 then (1, 0, (xk1, xk2, xk3, xf3, xf4, xf5, xf6, xf7, xf8, xf9, xf10, xf11, xf12, xf13))
  else if p1 < 32 then (if p0 = 0 then (0, xf9, (xk1, xk2, xk3, xf3, xf4, xf5, xf6, xf7, xf8, xf9, xf10, xf11, xf12, xf13))
      else if p0 = 1 then (0, (fX0_savedPlace xf12 p1 xf11 4), (xk1, xk2, xk3, xf3, xf4, xf5, xf6, xf7, xf8, xf9, xf10, xf11, xf12, xf13))
        else if p0 = 2 then (0, (fX0_savedPlace xf13 p1 xf10 8), (xk1, xk2, xk3, xf3, xf4, xf5, xf6, xf7, xf8, xf9, xf10, xf11, xf12, xf13))
          else (1, 0, (xk1, xk2, xk3, xf3, xf4, xf5, xf6, xf7, xf8, xf9, xf10, xf11, xf12, xf13)))
    else (1, 0, (xk1, xk2, xk3, xf3, xf4, xf5, xf6, xf7, xf8, xf9, xf10, xf11, xf12, xf13))

abbrev wsX0_place : List Cond := .code yX0_place cX0_place 3 (some .int) :: wG
set_option maxHeartbeats 4000000 in
set_option maxRecDepth 100000 in
theorem mX0_place (l : Launch) (hl9 : l.stackTraces = false) (dC : Nat → ClassId) (dI : Nat → Nat → Nat) (xh0 xh1 xh2 xh3 : Nat) (sz : Nat) (xc1 xc2 xc3 : ClassId) (xk1 xk2 xk3 : Nat → Int32) (xf3 xf4 xf5 xf6 xf7 xf8 xf9 xf10 xf11 xf12 xf13 : Int32) (p0 p1 : Int32)  : vx_Met l yX0_place wsX0_place ({ frames := 6, cells := 1, slots := 6, locals := 82 }) (va_Pc [.ref xh0, .int p0, .int p1] (fun U => U.heap.size = sz ∧ va_P (dC, dI) vwCl (xW xh0 xh1 xh2 xh3 xc1 xc2 xc3 xk1 xk2 xk3 xf3 xf4 xf5 xf6 xf7 xf8 xf9 xf10 xf11 xf12 xf13) U.heap ∧ va_K (dC, dI) vwCl [(xc1, .int), (xc2, .int), (xc3, .int)] U ∧ va_D (fun _ => True) (xW xh0 xh1 xh2 xh3 xc1 xc2 xc3 xk1 xk2 xk3 xf3 xf4 xf5 xf6 xf7 xf8 xf9 xf10 xf11 xf12 xf13) ∧ xZ (va_A (xW xh0 xh1 xh2 xh3 xc1 xc2 xc3 xk1 xk2 xk3 xf3 xf4 xf5 xf6 xf7 xf8 xf9 xf10 xf11 xf12 xf13) sz) U U.heap)) (va_Qi (fun r u => (0, r, u) = fX0_place xk1 xk2 xk3 xf3 xf4 xf5 xf6 xf7 xf8 xf9 xf10 xf11 xf12 xf13 p0 p1) (xWB dC dI (va_A (xW xh0 xh1 xh2 xh3 xc1 xc2 xc3 xk1 xk2 xk3 xf3 xf4 xf5 xf6 xf7 xf8 xf9 xf10 xf11 xf12 xf13) sz) xh0 xh1 xh2 xh3 xc1 xc2 xc3) (va_A (xW xh0 xh1 xh2 xh3 xc1 xc2 xc3 xk1 xk2 xk3 xf3 xf4 xf5 xf6 xf7 xf8 xf9 xf10 xf11 xf12 xf13) sz)) (vx_X (fun _ : Unit => True) (fun E _ t => ((E = "java/lang/IndexOutOfBoundsException" ∧ fX0_place xk1 xk2 xk3 xf3 xf4 xf5 xf6 xf7 xf8 xf9 xf10 xf11 xf12 xf13 p0 p1 = (1, 0, (xk1, xk2, xk3, xf3, xf4, xf5, xf6, xf7, xf8, xf9, xf10, xf11, xf12, xf13)))) ∧ xWB dC dI (va_A (xW xh0 xh1 xh2 xh3 xc1 xc2 xc3 xk1 xk2 xk3 xf3 xf4 xf5 xf6 xf7 xf8 xf9 xf10 xf11 xf12 xf13) sz) xh0 xh1 xh2 xh3 xc1 xc2 xc3 (xk1, xk2, xk3, xf3, xf4, xf5, xf6, xf7, xf8, xf9, xf10, xf11, xf12, xf13) t) (va_A (xW xh0 xh1 xh2 xh3 xc1 xc2 xc3 xk1 xk2 xk3 xf3 xf4 xf5 xf6 xf7 xf8 xf9 xf10 xf11 xf12 xf13) sz)) 1 6 (va_A (xW xh0 xh1 xh2 xh3 xc1 xc2 xc3 xk1 xk2 xk3 xf3 xf4 xf5 xf6 xf7 xf8 xf9 xf10 xf11 xf12 xf13) sz) := by
  refine vx_ofW (cc := cX0_place) (maxL := 3) (ret := (some .int)) (by decide) rfl ?_
  intro p e s m args below meth c s₁ B hml hEx hv
  obtain ⟨rfl, hsz, hP, hK, hD0, hZ⟩ := hv
  have hx := B.exec
  have hb := B.bytes
  have hr := B.returns
  have hts := atoms_spec (ws := wsX0_place) B.pre
  have htG := fun (w : Cond) (h : w ∈ wG) => hts w (List.mem_cons_of_mem _ h)
  have hown : s.vm.findClass RX0 = some m.cls := findClass_of_methodNamed B.named
  have hlocks := B.notSynchronized
  subst hsz
  have hD := hD0.self (sz := s.heap.size)
  generalize hAe : va_A (xW xh0 xh1 xh2 xh3 xc1 xc2 xc3 xk1 xk2 xk3 xf3 xf4 xf5 xf6 xf7 xf8 xf9 xf10 xf11 xf12 xf13) s.heap.size = A at hD hZ ⊢
  have hA : ∀ q : Nat, s.heap.size ≤ q → A q := fun q h => by rw [← hAe]; exact Or.inr h
  have hS : va_S A s.heap s.heap [] := va_S.rf
  have hP : va_P (dC, dI) vwCl (xW xh0 xh1 xh2 xh3 xc1 xc2 xc3 xk1 xk2 xk3 xf3 xf4 xf5 xf6 xf7 xf8 xf9 xf10 xf11 xf12 xf13) s.heap := hP
  have hl := lv_entry ([.ref xh0, .int p0, .int p1]) (n := 3) (Nat.le_of_ble_eq_true rfl)
  rw [lg_entry_eq]
  generalize (lg_sl ([.ref xh0, .int p0, .int p1]) ++ List.replicate (3 - (lg_sl ([.ref xh0, .int p0, .int p1])).length) Slot.unset).toArray = ls at hl ⊢
  have hl : lv_has ls 3 [(0, .ref xh0), (1, .int p0), (2, .int p1)] := hl
  refine lv_iload_n hx hb dX0_place_0 rfl (lv_at hl 2 rfl) ?_
  refine lv_if_lt (tgt := 10) hx hb dX0_place_1 (by decide) (fun c_1 => ?_) (fun c_1 => ?_)
  · obtain ⟨sa, hstr⟩ := hZ.2.2.2.2.2.2.2.2.2.2.2.2.2.2
    exact vx_throwS (own := RX0) (cls := "java/lang/IndexOutOfBoundsException") (names := ["java/lang/RuntimeException", "java/lang/Exception"]) hx hb hl9 hown (by decide +kernel) (by decide +kernel) (htG _ wd_232) (htG _ wd_29) hstr (vx_hat (L := vx_atS RX0 95 "java/lang/IndexOutOfBoundsException" ["java/lang/RuntimeException", "java/lang/Exception"]) (B := [.castable "java/lang/IndexOutOfBoundsException" "java/lang/IndexOutOfBoundsException", .declares ⟨"java/lang/RuntimeException", "<init>", "(Ljava/lang/String;)V"⟩, .declares ⟨"java/lang/Exception", "<init>", "(Ljava/lang/String;)V"⟩, .declares ⟨"java/lang/Throwable", "<init>", "(Ljava/lang/String;)V"⟩]) (fun w hw => htG w (xg_95 w hw)) (by decide +kernel) (vx_c (va_Nw.use rfl hZ.2.2.1.2.2.2.2.2) (vx_c (va_Nw.use rfl hZ.2.2.1.2.1) (vx_c (va_Nw.use rfl hZ.2.2.1.2.2.1) (vx_c (va_Nw.use rfl hZ.2.2.1.2.2.2.1) (vx_n)))))) (by decide +kernel) hZ.1 hZ.2.1 hS (hl.1.trans hml.symm) dX0_place_10 dX0_place_13 dX0_place_14 dX0_place_16 dX0_place_19 (fun x hx => (hEx x hx).elim) (Nat.le_of_ble_eq_true rfl) (Nat.le_of_ble_eq_true rfl) (Nat.le_of_ble_eq_true rfl) (Nat.le_of_ble_eq_true rfl) hlocks (fun t ha hsz hk => ⟨(), trivial, ⟨⟨rfl, (by rw [fX0_place, if_pos c_1])⟩, hP.kept (fun k q hq => hk q.1 (hP k q hq).lt), va_K.moved ha hK, hD⟩, Nat.le_trans hS.1 hsz, fun q h1 h2 => (hk q (Nat.lt_of_lt_of_le h1 hS.1)).trans (hS.2.1 q h1 h2)⟩) hS.2.2 (Nat.le_of_ble_eq_true rfl) (Nat.le_of_ble_eq_true rfl)
  · refine lv_iload_n hx hb dX0_place_4 rfl (lv_at hl 2 rfl) ?_
    refine lv_bipush (v := 32) hx hb dX0_place_5 (by decide) ?_
    refine lv_icmp_lt (tgt := 20) hx hb dX0_place_7 (by decide) (fun c_2 => ?_) (fun c_2 => ?_)
    · refine lv_iload_n hx hb dX0_place_20 rfl (lv_at hl 1 rfl) ?_
      -- a switch of p0
      rcases Classical.em (p0 = 0) with c_3 | c_3
      · refine lv_tableIn (tgt := 48) (off := 27) hx hb dX0_place_21 (by rw [c_3]; decide) (by rw [c_3]; decide) (by rw [c_3]; rfl) (by decide) ?_
        refine lv_aload_n hx hb dX0_place_48 rfl (lv_at hl 0 rfl) ?_
        refine va_get (D := (dC, dI)) (ci := 0) (v := .int xf9) (C := RX0) (T := TX0) (N := 14) hx hb htG inX0 hown hK hP 0 rfl rfl 9 (by decide) (htG _ wd_49) (fun _ h9 => h9) rfl dX0_place_49 ?_
        refine W.widen (k := 1) (n := 6) (Nat.le_of_ble_eq_true rfl) (Nat.le_of_ble_eq_true rfl) ?_
        exact vx_ret (W.iret (v := xf9) hx hb hr (fun t ht hW => ⟨⟨xf9, (xk1, xk2, xk3, xf3, xf4, xf5, xf6, xf7, xf8, xf9, xf10, xf11, xf12, xf13), rfl, (by rw [fX0_place, if_neg c_1, if_pos c_2, if_pos c_3]), by rw [ht]; exact hP, va_K.moved hW.alike hK, hD⟩, hS.F ht⟩) hS.2.2 dX0_place_52)
      · rcases Classical.em (p0 = 1) with c_4 | c_4
        · refine lv_tableIn (tgt := 53) (off := 32) hx hb dX0_place_21 (by rw [c_4]; decide) (by rw [c_4]; decide) (by rw [c_4]; rfl) (by decide) ?_
          refine lv_aload_n hx hb dX0_place_53 rfl (lv_at hl 0 rfl) ?_
          refine va_get (D := (dC, dI)) (ci := 0) (v := .int xf12) (C := RX0) (T := TX0) (N := 14) hx hb htG inX0 hown hK hP 0 rfl rfl 12 (by decide) (htG _ wd_52) (fun _ h9 => h9) rfl dX0_place_54 ?_
          refine lv_iload_n hx hb dX0_place_57 rfl (lv_at hl 2 rfl) ?_
          refine lv_aload_n hx hb dX0_place_58 rfl (lv_at hl 0 rfl) ?_
          refine va_get (D := (dC, dI)) (ci := 0) (v := .int xf11) (C := RX0) (T := TX0) (N := 14) hx hb htG inX0 hown hK hP 0 rfl rfl 11 (by decide) (htG _ wd_51) (fun _ h9 => h9) rfl dX0_place_59 ?_
          refine lv_iconst (v := 4) hx hb dX0_place_62 (by decide) ?_
          refine vp_callSi (va_runS (As := [.int xf12, .int p1, .int xf11, .int 4]) (rest := []) ⟨hx, hb, hml, hown, htG⟩ (mX0_savedPlace l xf12 p1 xf11 4) (va_cwS 4 htG (wG_S wd_322 wd_323 wd_22 wd_324) rfl rfl rfl (by decide +kernel) ⟨Nat.le_of_ble_eq_true rfl, Nat.le_of_ble_eq_true rfl⟩) ⟨fun _ _ _ _ q => q, fun U hU hW => ⟨rfl, trivial⟩⟩ rfl rfl hl.1 rfl (lv_room (Nat.le_of_ble_eq_true rfl)) dX0_place_63 ⟨Nat.le_of_ble_eq_true rfl, Nat.le_of_ble_eq_true rfl⟩).run (fun r_1 er_1 => ?_)
          subst er_1
          refine W.widen (k := 1) (n := 6) (Nat.le_of_ble_eq_true rfl) (Nat.le_of_ble_eq_true rfl) ?_
          exact vx_ret (W.iret (v := (fX0_savedPlace xf12 p1 xf11 4)) hx hb hr (fun t ht hW => ⟨⟨(fX0_savedPlace xf12 p1 xf11 4), (xk1, xk2, xk3, xf3, xf4, xf5, xf6, xf7, xf8, xf9, xf10, xf11, xf12, xf13), rfl, (by rw [fX0_place, if_neg c_1, if_pos c_2, if_neg c_3, if_pos c_4]), by rw [ht]; exact hP, va_K.moved hW.alike hK, hD⟩, hS.F ht⟩) hS.2.2 dX0_place_66)
        · rcases Classical.em (p0 = 2) with c_5 | c_5
          · refine lv_tableIn (tgt := 67) (off := 46) hx hb dX0_place_21 (by rw [c_5]; decide) (by rw [c_5]; decide) (by rw [c_5]; rfl) (by decide) ?_
            refine lv_aload_n hx hb dX0_place_67 rfl (lv_at hl 0 rfl) ?_
            refine va_get (D := (dC, dI)) (ci := 0) (v := .int xf13) (C := RX0) (T := TX0) (N := 14) hx hb htG inX0 hown hK hP 0 rfl rfl 13 (by decide) (htG _ wd_53) (fun _ h9 => h9) rfl dX0_place_68 ?_
            refine lv_iload_n hx hb dX0_place_71 rfl (lv_at hl 2 rfl) ?_
            refine lv_aload_n hx hb dX0_place_72 rfl (lv_at hl 0 rfl) ?_
            refine va_get (D := (dC, dI)) (ci := 0) (v := .int xf10) (C := RX0) (T := TX0) (N := 14) hx hb htG inX0 hown hK hP 0 rfl rfl 10 (by decide) (htG _ wd_50) (fun _ h9 => h9) rfl dX0_place_73 ?_
            refine lv_bipush (v := 8) hx hb dX0_place_76 (by decide) ?_
            refine vp_callSi (va_runS (As := [.int xf13, .int p1, .int xf10, .int 8]) (rest := []) ⟨hx, hb, hml, hown, htG⟩ (mX0_savedPlace l xf13 p1 xf10 8) (va_cwS 4 htG (wG_S wd_322 wd_323 wd_22 wd_324) rfl rfl rfl (by decide +kernel) ⟨Nat.le_of_ble_eq_true rfl, Nat.le_of_ble_eq_true rfl⟩) ⟨fun _ _ _ _ q => q, fun U hU hW => ⟨rfl, trivial⟩⟩ rfl rfl hl.1 rfl (lv_room (Nat.le_of_ble_eq_true rfl)) dX0_place_78 ⟨Nat.le_of_ble_eq_true rfl, Nat.le_of_ble_eq_true rfl⟩).run (fun r_2 er_2 => ?_)
            subst er_2
            refine W.widen (k := 1) (n := 6) (Nat.le_of_ble_eq_true rfl) (Nat.le_of_ble_eq_true rfl) ?_
            exact vx_ret (W.iret (v := (fX0_savedPlace xf13 p1 xf10 8)) hx hb hr (fun t ht hW => ⟨⟨(fX0_savedPlace xf13 p1 xf10 8), (xk1, xk2, xk3, xf3, xf4, xf5, xf6, xf7, xf8, xf9, xf10, xf11, xf12, xf13), rfl, (by rw [fX0_place, if_neg c_1, if_pos c_2, if_neg c_3, if_neg c_4, if_pos c_5]), by rw [ht]; exact hP, va_K.moved hW.alike hK, hD⟩, hS.F ht⟩) hS.2.2 dX0_place_81)
          · refine lv_tableOut (tgt := 82) hx hb dX0_place_21 (tab_out0_2 c_3 c_4 c_5) (by decide) ?_
            obtain ⟨sa, hstr⟩ := hZ.2.2.2.2.2.2.2.2.2.2.1
            exact vx_throwS (own := RX0) (cls := "java/lang/IndexOutOfBoundsException") (names := ["java/lang/RuntimeException", "java/lang/Exception"]) hx hb hl9 hown (by decide +kernel) (by decide +kernel) (htG _ wd_232) (htG _ wd_29) hstr (vx_hat (L := vx_atS RX0 95 "java/lang/IndexOutOfBoundsException" ["java/lang/RuntimeException", "java/lang/Exception"]) (B := [.castable "java/lang/IndexOutOfBoundsException" "java/lang/IndexOutOfBoundsException", .declares ⟨"java/lang/RuntimeException", "<init>", "(Ljava/lang/String;)V"⟩, .declares ⟨"java/lang/Exception", "<init>", "(Ljava/lang/String;)V"⟩, .declares ⟨"java/lang/Throwable", "<init>", "(Ljava/lang/String;)V"⟩]) (fun w hw => htG w (xg_95 w hw)) (by decide +kernel) (vx_c (va_Nw.use rfl hZ.2.2.1.2.2.2.2.2) (vx_c (va_Nw.use rfl hZ.2.2.1.2.1) (vx_c (va_Nw.use rfl hZ.2.2.1.2.2.1) (vx_c (va_Nw.use rfl hZ.2.2.1.2.2.2.1) (vx_n)))))) (by decide +kernel) hZ.1 hZ.2.1 hS (hl.1.trans hml.symm) dX0_place_82 dX0_place_85 dX0_place_86 dX0_place_88 dX0_place_91 (fun x hx => (hEx x hx).elim) (Nat.le_of_ble_eq_true rfl) (Nat.le_of_ble_eq_true rfl) (Nat.le_of_ble_eq_true rfl) (Nat.le_of_ble_eq_true rfl) hlocks (fun t ha hsz hk => ⟨(), trivial, ⟨⟨rfl, (by rw [fX0_place, if_neg c_1, if_pos c_2, if_neg c_3, if_neg c_4, if_neg c_5])⟩, hP.kept (fun k q hq => hk q.1 (hP k q hq).lt), va_K.moved ha hK, hD⟩, Nat.le_trans hS.1 hsz, fun q h1 h2 => (hk q (Nat.lt_of_lt_of_le h1 hS.1)).trans (hS.2.1 q h1 h2)⟩) hS.2.2 (Nat.le_of_ble_eq_true rfl) (Nat.le_of_ble_eq_true rfl)
    · obtain ⟨sa, hstr⟩ := hZ.2.2.2.2.2.2.2.2.2.2.2.2.2.2
      exact vx_throwS (own := RX0) (cls := "java/lang/IndexOutOfBoundsException") (names := ["java/lang/RuntimeException", "java/lang/Exception"]) hx hb hl9 hown (by decide +kernel) (by decide +kernel) (htG _ wd_232) (htG _ wd_29) hstr (vx_hat (L := vx_atS RX0 95 "java/lang/IndexOutOfBoundsException" ["java/lang/RuntimeException", "java/lang/Exception"]) (B := [.castable "java/lang/IndexOutOfBoundsException" "java/lang/IndexOutOfBoundsException", .declares ⟨"java/lang/RuntimeException", "<init>", "(Ljava/lang/String;)V"⟩, .declares ⟨"java/lang/Exception", "<init>", "(Ljava/lang/String;)V"⟩, .declares ⟨"java/lang/Throwable", "<init>", "(Ljava/lang/String;)V"⟩]) (fun w hw => htG w (xg_95 w hw)) (by decide +kernel) (vx_c (va_Nw.use rfl hZ.2.2.1.2.2.2.2.2) (vx_c (va_Nw.use rfl hZ.2.2.1.2.1) (vx_c (va_Nw.use rfl hZ.2.2.1.2.2.1) (vx_c (va_Nw.use rfl hZ.2.2.1.2.2.2.1) (vx_n)))))) (by decide +kernel) hZ.1 hZ.2.1 hS (hl.1.trans hml.symm) dX0_place_10 dX0_place_13 dX0_place_14 dX0_place_16 dX0_place_19 (fun x hx => (hEx x hx).elim) (Nat.le_of_ble_eq_true rfl) (Nat.le_of_ble_eq_true rfl) (Nat.le_of_ble_eq_true rfl) (Nat.le_of_ble_eq_true rfl) hlocks (fun t ha hsz hk => ⟨(), trivial, ⟨⟨rfl, (by rw [fX0_place, if_neg c_1, if_neg c_2])⟩, hP.kept (fun k q hq => hk q.1 (hP k q hq).lt), va_K.moved ha hK, hD⟩, Nat.le_trans hS.1 hsz, fun q h1 h2 => (hk q (Nat.lt_of_lt_of_le h1 hS.1)).trans (hS.2.1 q h1 h2)⟩) hS.2.2 (Nat.le_of_ble_eq_true rfl) (Nat.le_of_ble_eq_true rfl)
end
section
def fX0_where (xk1 xk2 xk3 : Nat → Int32) (xf3 xf4 xf5 xf6 xf7 xf8 xf9 xf10 xf11 xf12 xf13 : Int32) (p0 p1 : Int32) : Int32 × Int32 × xWS :=
  if (fX0_isArgument xf3 xf4 p0) = 0 then (1, 0, (xk1, xk2, xk3, xf3, xf4, xf5, xf6, xf7, xf8, xf9, xf10, xf11, xf12, xf13))
  else if p1 < 0 then (1, 0, (xk1, xk2, xk3, xf3, xf4, xf5, xf6, xf7, xf8, xf9, xf10, xf11, xf12, xf13))
    else if p1 < (fX0_wordsAt xk3 xf3 p0) then (if (fX0_isInFraction xk1 xf3 xf4 xf5 p0) = 0 then (0, (fX0_registerOrMemory ((fX0_homeAt xk2 xf3 p0) + (4 * p1))), (xk1, xk2, xk3, xf3, xf4, xf5, xf6, xf7, xf8, xf9, xf10, xf11, xf12, xf13))
        else (0, (fX0_fractionOf xk3 xf3 p0 p1), (xk1, xk2, xk3, xf3, xf4, xf5, xf6, xf7, xf8, xf9, xf10, xf11, xf12, xf13)))
      else (1, 0, (xk1, xk2, xk3, xf3, xf4, xf5, xf6, xf7, xf8, xf9, xf10, xf11, xf12, xf13))

abbrev wsX0_where : List Cond := .code yX0_where cX0_where 3 (some .int) :: wG
set_option maxHeartbeats 4000000 in
set_option maxRecDepth 100000 in
theorem mX0_where (l : Launch) (hl9 : l.stackTraces = false) (dC : Nat → ClassId) (dI : Nat → Nat → Nat) (xh0 xh1 xh2 xh3 : Nat) (sz : Nat) (xc1 xc2 xc3 : ClassId) (xk1 xk2 xk3 : Nat → Int32) (xf3 xf4 xf5 xf6 xf7 xf8 xf9 xf10 xf11 xf12 xf13 : Int32) (p0 p1 : Int32)  : vx_Met l yX0_where wsX0_where ({ frames := 6, cells := 1, slots := 6, locals := 86 }) (va_Pc [.ref xh0, .int p0, .int p1] (fun U => U.heap.size = sz ∧ va_P (dC, dI) vwCl (xW xh0 xh1 xh2 xh3 xc1 xc2 xc3 xk1 xk2 xk3 xf3 xf4 xf5 xf6 xf7 xf8 xf9 xf10 xf11 xf12 xf13) U.heap ∧ va_K (dC, dI) vwCl [(xc1, .int), (xc2, .int), (xc3, .int)] U ∧ va_D (fun _ => True) (xW xh0 xh1 xh2 xh3 xc1 xc2 xc3 xk1 xk2 xk3 xf3 xf4 xf5 xf6 xf7 xf8 xf9 xf10 xf11 xf12 xf13) ∧ xZ (va_A (xW xh0 xh1 xh2 xh3 xc1 xc2 xc3 xk1 xk2 xk3 xf3 xf4 xf5 xf6 xf7 xf8 xf9 xf10 xf11 xf12 xf13) sz) U U.heap)) (va_Qi (fun r u => (0, r, u) = fX0_where xk1 xk2 xk3 xf3 xf4 xf5 xf6 xf7 xf8 xf9 xf10 xf11 xf12 xf13 p0 p1) (xWB dC dI (va_A (xW xh0 xh1 xh2 xh3 xc1 xc2 xc3 xk1 xk2 xk3 xf3 xf4 xf5 xf6 xf7 xf8 xf9 xf10 xf11 xf12 xf13) sz) xh0 xh1 xh2 xh3 xc1 xc2 xc3) (va_A (xW xh0 xh1 xh2 xh3 xc1 xc2 xc3 xk1 xk2 xk3 xf3 xf4 xf5 xf6 xf7 xf8 xf9 xf10 xf11 xf12 xf13) sz)) (vx_X (fun _ : Unit => True) (fun E _ t => ((E = "java/lang/IndexOutOfBoundsException" ∧ fX0_where xk1 xk2 xk3 xf3 xf4 xf5 xf6 xf7 xf8 xf9 xf10 xf11 xf12 xf13 p0 p1 = (1, 0, (xk1, xk2, xk3, xf3, xf4, xf5, xf6, xf7, xf8, xf9, xf10, xf11, xf12, xf13)))) ∧ xWB dC dI (va_A (xW xh0 xh1 xh2 xh3 xc1 xc2 xc3 xk1 xk2 xk3 xf3 xf4 xf5 xf6 xf7 xf8 xf9 xf10 xf11 xf12 xf13) sz) xh0 xh1 xh2 xh3 xc1 xc2 xc3 (xk1, xk2, xk3, xf3, xf4, xf5, xf6, xf7, xf8, xf9, xf10, xf11, xf12, xf13) t) (va_A (xW xh0 xh1 xh2 xh3 xc1 xc2 xc3 xk1 xk2 xk3 xf3 xf4 xf5 xf6 xf7 xf8 xf9 xf10 xf11 xf12 xf13) sz)) 1 6 (va_A (xW xh0 xh1 xh2 xh3 xc1 xc2 xc3 xk1 xk2 xk3 xf3 xf4 xf5 xf6 xf7 xf8 xf9 xf10 xf11 xf12 xf13) sz) := by
  refine vx_ofW (cc := cX0_where) (maxL := 3) (ret := (some .int)) (by decide) rfl ?_
  intro p e s m args below meth c s₁ B hml hEx hv
  obtain ⟨rfl, hsz, hP, hK, hD0, hZ⟩ := hv
  have hx := B.exec
  have hb := B.bytes
  have hr := B.returns
  have hts := atoms_spec (ws := wsX0_where) B.pre
  have htG := fun (w : Cond) (h : w ∈ wG) => hts w (List.mem_cons_of_mem _ h)
  have hown : s.vm.findClass RX0 = some m.cls := findClass_of_methodNamed B.named
  have hlocks := B.notSynchronized
  subst hsz
  have hD := hD0.self (sz := s.heap.size)
  generalize hAe : va_A (xW xh0 xh1 xh2 xh3 xc1 xc2 xc3 xk1 xk2 xk3 xf3 xf4 xf5 xf6 xf7 xf8 xf9 xf10 xf11 xf12 xf13) s.heap.size = A at hD hZ ⊢
  have hA : ∀ q : Nat, s.heap.size ≤ q → A q := fun q h => by rw [← hAe]; exact Or.inr h
  have hS : va_S A s.heap s.heap [] := va_S.rf
  have hP : va_P (dC, dI) vwCl (xW xh0 xh1 xh2 xh3 xc1 xc2 xc3 xk1 xk2 xk3 xf3 xf4 xf5 xf6 xf7 xf8 xf9 xf10 xf11 xf12 xf13) s.heap := hP
  have hl := lv_entry ([.ref xh0, .int p0, .int p1]) (n := 3) (Nat.le_of_ble_eq_true rfl)
  rw [lg_entry_eq]
  generalize (lg_sl ([.ref xh0, .int p0, .int p1]) ++ List.replicate (3 - (lg_sl ([.ref xh0, .int p0, .int p1])).length) Slot.unset).toArray = ls at hl ⊢
  have hl : lv_has ls 3 [(0, .ref xh0), (1, .int p0), (2, .int p1)] := hl
  refine lv_aload_n hx hb dX0_where_0 rfl (lv_at hl 0 rfl) ?_
  refine lv_iload_n hx hb dX0_where_1 rfl (lv_at hl 1 rfl) ?_
  refine vp_callSi (va_runV (As := [.int p0]) (rest := []) ⟨hx, hb, hml, hown, htG⟩ (mX0_isArgument l dC dI xh0 xh1 xh2 xh3 xc1 xc2 xc3 xk1 xk2 xk3 xf3 xf4 xf5 xf6 xf7 xf8 xf9 xf10 xf11 xf12 xf13 p0) (cwV 1 htG (wG_V wd_224 wd_226 wd_2 wd_22 wd_227) rfl rfl rfl (by decide +kernel) ⟨Nat.le_of_ble_eq_true rfl, Nat.le_of_ble_eq_true rfl⟩) ⟨fun a U g mk q => by obtain ⟨q0, qP, qK⟩ := q; exact ⟨q0, qP, va_K.moved (u := U) (U := U.calling g mk a) (Vm.Alike.refl U.vm) qK⟩, va_recv hK hP (ci := 0) (q0 := 0) rfl rfl, fun U hU hW => ⟨rfl, by rw [hU]; exact hP, va_K.moved hW.alike hK⟩⟩ rfl rfl hl.1 rfl (lv_room (Nat.le_of_ble_eq_true rfl)) dX0_where_2 ⟨Nat.le_of_ble_eq_true rfl, Nat.le_of_ble_eq_true rfl⟩).run (fun r_1 er_1 => ?_)
  subst er_1
  refine lv_if_ne (tgt := 18) hx hb dX0_where_5 (by decide) (fun c_1 => ?_) (fun c_1 => ?_)
  · refine lv_iload_n hx hb dX0_where_18 rfl (lv_at hl 2 rfl) ?_
    refine lv_if_lt (tgt := 31) hx hb dX0_where_19 (by decide) (fun c_2 => ?_) (fun c_2 => ?_)
    · obtain ⟨sa, hstr⟩ := hZ.2.2.2.2.2.2.2.2.2.1
      exact vx_throwS (own := RX0) (cls := "java/lang/IndexOutOfBoundsException") (names := ["java/lang/RuntimeException", "java/lang/Exception"]) hx hb hl9 hown (by decide +kernel) (by decide +kernel) (htG _ wd_232) (htG _ wd_29) hstr (vx_hat (L := vx_atS RX0 95 "java/lang/IndexOutOfBoundsException" ["java/lang/RuntimeException", "java/lang/Exception"]) (B := [.castable "java/lang/IndexOutOfBoundsException" "java/lang/IndexOutOfBoundsException", .declares ⟨"java/lang/RuntimeException", "<init>", "(Ljava/lang/String;)V"⟩, .declares ⟨"java/lang/Exception", "<init>", "(Ljava/lang/String;)V"⟩, .declares ⟨"java/lang/Throwable", "<init>", "(Ljava/lang/String;)V"⟩]) (fun w hw => htG w (xg_95 w hw)) (by decide +kernel) (vx_c (va_Nw.use rfl hZ.2.2.1.2.2.2.2.2) (vx_c (va_Nw.use rfl hZ.2.2.1.2.1) (vx_c (va_Nw.use rfl hZ.2.2.1.2.2.1) (vx_c (va_Nw.use rfl hZ.2.2.1.2.2.2.1) (vx_n)))))) (by decide +kernel) hZ.1 hZ.2.1 hS (hl.1.trans hml.symm) dX0_where_31 dX0_where_34 dX0_where_35 dX0_where_37 dX0_where_40 (fun x hx => (hEx x hx).elim) (Nat.le_of_ble_eq_true rfl) (Nat.le_of_ble_eq_true rfl) (Nat.le_of_ble_eq_true rfl) (Nat.le_of_ble_eq_true rfl) hlocks (fun t ha hsz hk => ⟨(), trivial, ⟨⟨rfl, (by rw [fX0_where, if_neg c_1, if_pos c_2])⟩, hP.kept (fun k q hq => hk q.1 (hP k q hq).lt), va_K.moved ha hK, hD⟩, Nat.le_trans hS.1 hsz, fun q h1 h2 => (hk q (Nat.lt_of_lt_of_le h1 hS.1)).trans (hS.2.1 q h1 h2)⟩) hS.2.2 (Nat.le_of_ble_eq_true rfl) (Nat.le_of_ble_eq_true rfl)
    · refine lv_iload_n hx hb dX0_where_22 rfl (lv_at hl 2 rfl) ?_
      refine lv_aload_n hx hb dX0_where_23 rfl (lv_at hl 0 rfl) ?_
      refine lv_iload_n hx hb dX0_where_24 rfl (lv_at hl 1 rfl) ?_
      refine vp_callSi (va_runV (As := [.int p0]) (rest := [.int p1]) ⟨hx, hb, hml, hown, htG⟩ (mX0_wordsAt l dC dI xh0 xh1 xh2 xh3 xc1 xc2 xc3 xk1 xk2 xk3 xf3 xf4 xf5 xf6 xf7 xf8 xf9 xf10 xf11 xf12 xf13 p0) (cwV 1 htG (wG_V wd_248 wd_250 wd_4 wd_22 wd_251) rfl rfl rfl (by decide +kernel) ⟨Nat.le_of_ble_eq_true rfl, Nat.le_of_ble_eq_true rfl⟩) ⟨fun a U g mk q => by obtain ⟨q0, qP, qK⟩ := q; exact ⟨q0, qP, va_K.moved (u := U) (U := U.calling g mk a) (Vm.Alike.refl U.vm) qK⟩, va_recv hK hP (ci := 0) (q0 := 0) rfl rfl, fun U hU hW => ⟨rfl, by rw [hU]; exact hP, va_K.moved hW.alike hK⟩⟩ rfl rfl hl.1 rfl (lv_room (Nat.le_of_ble_eq_true rfl)) dX0_where_25 ⟨Nat.le_of_ble_eq_true rfl, Nat.le_of_ble_eq_true rfl⟩).run (fun r_2 er_2 => ?_)
      subst er_2
      refine lv_icmp_lt (tgt := 41) hx hb dX0_where_28 (by decide) (fun c_3 => ?_) (fun c_3 => ?_)
      · refine lv_aload_n hx hb dX0_where_41 rfl (lv_at hl 0 rfl) ?_
        refine lv_iload_n hx hb dX0_where_42 rfl (lv_at hl 1 rfl) ?_
        refine vp_callSi (va_runV (As := [.int p0]) (rest := []) ⟨hx, hb, hml, hown, htG⟩ (mX0_isInFraction l dC dI xh0 xh1 xh2 xh3 xc1 xc2 xc3 xk1 xk2 xk3 xf3 xf4 xf5 xf6 xf7 xf8 xf9 xf10 xf11 xf12 xf13 p0) (cwV 1 htG (wG_V wd_257 wd_259 wd_6 wd_22 wd_260) rfl rfl rfl (by decide +kernel) ⟨Nat.le_of_ble_eq_true rfl, Nat.le_of_ble_eq_true rfl⟩) ⟨fun a U g mk q => by obtain ⟨q0, qP, qK⟩ := q; exact ⟨q0, qP, va_K.moved (u := U) (U := U.calling g mk a) (Vm.Alike.refl U.vm) qK⟩, va_recv hK hP (ci := 0) (q0 := 0) rfl rfl, fun U hU hW => ⟨rfl, by rw [hU]; exact hP, va_K.moved hW.alike hK⟩⟩ rfl rfl hl.1 rfl (lv_room (Nat.le_of_ble_eq_true rfl)) dX0_where_43 ⟨Nat.le_of_ble_eq_true rfl, Nat.le_of_ble_eq_true rfl⟩).run (fun r_3 er_3 => ?_)
        subst er_3
        refine lv_if_eq (tgt := 56) hx hb dX0_where_46 (by decide) (fun c_4 => ?_) (fun c_4 => ?_)
        · refine lv_aload_n hx hb dX0_where_56 rfl (lv_at hl 0 rfl) ?_
          refine lv_iload_n hx hb dX0_where_57 rfl (lv_at hl 1 rfl) ?_
          refine vp_callSi (va_runV (As := [.int p0]) (rest := []) ⟨hx, hb, hml, hown, htG⟩ (mX0_homeAt l dC dI xh0 xh1 xh2 xh3 xc1 xc2 xc3 xk1 xk2 xk3 xf3 xf4 xf5 xf6 xf7 xf8 xf9 xf10 xf11 xf12 xf13 p0) (cwV 1 htG (wG_V wd_269 wd_271 wd_9 wd_22 wd_272) rfl rfl rfl (by decide +kernel) ⟨Nat.le_of_ble_eq_true rfl, Nat.le_of_ble_eq_true rfl⟩) ⟨fun a U g mk q => by obtain ⟨q0, qP, qK⟩ := q; exact ⟨q0, qP, va_K.moved (u := U) (U := U.calling g mk a) (Vm.Alike.refl U.vm) qK⟩, va_recv hK hP (ci := 0) (q0 := 0) rfl rfl, fun U hU hW => ⟨rfl, by rw [hU]; exact hP, va_K.moved hW.alike hK⟩⟩ rfl rfl hl.1 rfl (lv_room (Nat.le_of_ble_eq_true rfl)) dX0_where_58 ⟨Nat.le_of_ble_eq_true rfl, Nat.le_of_ble_eq_true rfl⟩).run (fun r_4 er_4 => ?_)
          subst er_4
          refine lv_iconst (v := 4) hx hb dX0_where_61 (by decide) ?_
          refine lv_iload_n hx hb dX0_where_62 rfl (lv_at hl 2 rfl) ?_
          refine lv_imul hx hb dX0_where_63 ?_
          refine lv_iadd hx hb dX0_where_64 ?_
          refine vp_callSi (va_runS (As := [.int ((fX0_homeAt xk2 xf3 p0) + (4 * p1))]) (rest := []) ⟨hx, hb, hml, hown, htG⟩ (mX0_registerOrMemory l ((fX0_homeAt xk2 xf3 p0) + (4 * p1))) (va_cwS 1 htG (wG_S wd_273 wd_274 wd_22 wd_275) rfl rfl rfl (by decide +kernel) ⟨Nat.le_of_ble_eq_true rfl, Nat.le_of_ble_eq_true rfl⟩) ⟨fun _ _ _ _ q => q, fun U hU hW => ⟨rfl, trivial⟩⟩ rfl rfl hl.1 rfl (lv_room (Nat.le_of_ble_eq_true rfl)) dX0_where_65 ⟨Nat.le_of_ble_eq_true rfl, Nat.le_of_ble_eq_true rfl⟩).run (fun r_5 er_5 => ?_)
          subst er_5
          refine W.widen (k := 1) (n := 6) (Nat.le_of_ble_eq_true rfl) (Nat.le_of_ble_eq_true rfl) ?_
          exact vx_ret (W.iret (v := (fX0_registerOrMemory ((fX0_homeAt xk2 xf3 p0) + (4 * p1)))) hx hb hr (fun t ht hW => ⟨⟨(fX0_registerOrMemory ((fX0_homeAt xk2 xf3 p0) + (4 * p1))), (xk1, xk2, xk3, xf3, xf4, xf5, xf6, xf7, xf8, xf9, xf10, xf11, xf12, xf13), rfl, (by rw [fX0_where, if_neg c_1, if_neg c_2, if_pos c_3, if_pos c_4]), by rw [ht]; exact hP, va_K.moved hW.alike hK, hD⟩, hS.F ht⟩) hS.2.2 dX0_where_68)
        · refine lv_aload_n hx hb dX0_where_49 rfl (lv_at hl 0 rfl) ?_
          refine lv_iload_n hx hb dX0_where_50 rfl (lv_at hl 1 rfl) ?_
          refine lv_iload_n hx hb dX0_where_51 rfl (lv_at hl 2 rfl) ?_
          refine vp_callSi (va_runV (As := [.int p0, .int p1]) (rest := []) ⟨hx, hb, hml, hown, htG⟩ (mX0_fractionOf l dC dI xh0 xh1 xh2 xh3 xc1 xc2 xc3 xk1 xk2 xk3 xf3 xf4 xf5 xf6 xf7 xf8 xf9 xf10 xf11 xf12 xf13 p0 p1) (cwV 2 htG (wG_V wd_265 wd_267 wd_8 wd_22 wd_268) rfl rfl rfl (by decide +kernel) ⟨Nat.le_of_ble_eq_true rfl, Nat.le_of_ble_eq_true rfl⟩) ⟨fun a U g mk q => by obtain ⟨q0, qP, qK⟩ := q; exact ⟨q0, qP, va_K.moved (u := U) (U := U.calling g mk a) (Vm.Alike.refl U.vm) qK⟩, va_recv hK hP (ci := 0) (q0 := 0) rfl rfl, fun U hU hW => ⟨rfl, by rw [hU]; exact hP, va_K.moved hW.alike hK⟩⟩ rfl rfl hl.1 rfl (lv_room (Nat.le_of_ble_eq_true rfl)) dX0_where_52 ⟨Nat.le_of_ble_eq_true rfl, Nat.le_of_ble_eq_true rfl⟩).run (fun r_6 er_6 => ?_)
          subst er_6
          refine W.widen (k := 1) (n := 6) (Nat.le_of_ble_eq_true rfl) (Nat.le_of_ble_eq_true rfl) ?_
          exact vx_ret (W.iret (v := (fX0_fractionOf xk3 xf3 p0 p1)) hx hb hr (fun t ht hW => ⟨⟨(fX0_fractionOf xk3 xf3 p0 p1), (xk1, xk2, xk3, xf3, xf4, xf5, xf6, xf7, xf8, xf9, xf10, xf11, xf12, xf13), rfl, (by rw [fX0_where, if_neg c_1, if_neg c_2, if_pos c_3, if_neg c_4]), by rw [ht]; exact hP, va_K.moved hW.alike hK, hD⟩, hS.F ht⟩) hS.2.2 dX0_where_55)
      · obtain ⟨sa, hstr⟩ := hZ.2.2.2.2.2.2.2.2.2.1
        exact vx_throwS (own := RX0) (cls := "java/lang/IndexOutOfBoundsException") (names := ["java/lang/RuntimeException", "java/lang/Exception"]) hx hb hl9 hown (by decide +kernel) (by decide +kernel) (htG _ wd_232) (htG _ wd_29) hstr (vx_hat (L := vx_atS RX0 95 "java/lang/IndexOutOfBoundsException" ["java/lang/RuntimeException", "java/lang/Exception"]) (B := [.castable "java/lang/IndexOutOfBoundsException" "java/lang/IndexOutOfBoundsException", .declares ⟨"java/lang/RuntimeException", "<init>", "(Ljava/lang/String;)V"⟩, .declares ⟨"java/lang/Exception", "<init>", "(Ljava/lang/String;)V"⟩, .declares ⟨"java/lang/Throwable", "<init>", "(Ljava/lang/String;)V"⟩]) (fun w hw => htG w (xg_95 w hw)) (by decide +kernel) (vx_c (va_Nw.use rfl hZ.2.2.1.2.2.2.2.2) (vx_c (va_Nw.use rfl hZ.2.2.1.2.1) (vx_c (va_Nw.use rfl hZ.2.2.1.2.2.1) (vx_c (va_Nw.use rfl hZ.2.2.1.2.2.2.1) (vx_n)))))) (by decide +kernel) hZ.1 hZ.2.1 hS (hl.1.trans hml.symm) dX0_where_31 dX0_where_34 dX0_where_35 dX0_where_37 dX0_where_40 (fun x hx => (hEx x hx).elim) (Nat.le_of_ble_eq_true rfl) (Nat.le_of_ble_eq_true rfl) (Nat.le_of_ble_eq_true rfl) (Nat.le_of_ble_eq_true rfl) hlocks (fun t ha hsz hk => ⟨(), trivial, ⟨⟨rfl, (by rw [fX0_where, if_neg c_1, if_neg c_2, if_neg c_3])⟩, hP.kept (fun k q hq => hk q.1 (hP k q hq).lt), va_K.moved ha hK, hD⟩, Nat.le_trans hS.1 hsz, fun q h1 h2 => (hk q (Nat.lt_of_lt_of_le h1 hS.1)).trans (hS.2.1 q h1 h2)⟩) hS.2.2 (Nat.le_of_ble_eq_true rfl) (Nat.le_of_ble_eq_true rfl)
  · obtain ⟨sa, hstr⟩ := hZ.2.2.2.2.2.2.2.2.1
    exact vx_throwS (own := RX0) (cls := "java/lang/IndexOutOfBoundsException") (names := ["java/lang/RuntimeException", "java/lang/Exception"]) hx hb hl9 hown (by decide +kernel) (by decide +kernel) (htG _ wd_232) (htG _ wd_29) hstr (vx_hat (L := vx_atS RX0 95 "java/lang/IndexOutOfBoundsException" ["java/lang/RuntimeException", "java/lang/Exception"]) (B := [.castable "java/lang/IndexOutOfBoundsException" "java/lang/IndexOutOfBoundsException", .declares ⟨"java/lang/RuntimeException", "<init>", "(Ljava/lang/String;)V"⟩, .declares ⟨"java/lang/Exception", "<init>", "(Ljava/lang/String;)V"⟩, .declares ⟨"java/lang/Throwable", "<init>", "(Ljava/lang/String;)V"⟩]) (fun w hw => htG w (xg_95 w hw)) (by decide +kernel) (vx_c (va_Nw.use rfl hZ.2.2.1.2.2.2.2.2) (vx_c (va_Nw.use rfl hZ.2.2.1.2.1) (vx_c (va_Nw.use rfl hZ.2.2.1.2.2.1) (vx_c (va_Nw.use rfl hZ.2.2.1.2.2.2.1) (vx_n)))))) (by decide +kernel) hZ.1 hZ.2.1 hS (hl.1.trans hml.symm) dX0_where_8 dX0_where_11 dX0_where_12 dX0_where_14 dX0_where_17 (fun x hx => (hEx x hx).elim) (Nat.le_of_ble_eq_true rfl) (Nat.le_of_ble_eq_true rfl) (Nat.le_of_ble_eq_true rfl) (Nat.le_of_ble_eq_true rfl) hlocks (fun t ha hsz hk => ⟨(), trivial, ⟨⟨rfl, (by rw [fX0_where, if_pos c_1])⟩, hP.kept (fun k q hq => hk q.1 (hP k q hq).lt), va_K.moved ha hK, hD⟩, Nat.le_trans hS.1 hsz, fun q h1 h2 => (hk q (Nat.lt_of_lt_of_le h1 hS.1)).trans (hS.2.1 q h1 h2)⟩) hS.2.2 (Nat.le_of_ble_eq_true rfl) (Nat.le_of_ble_eq_true rfl)
end
section
def fX0_frame (xk1 xk2 xk3 : Nat → Int32) (xf3 xf4 xf5 xf6 xf7 xf8 xf9 xf10 xf11 xf12 xf13 : Int32) (p0 p1 p2 : Int32) : Int32 × Int32 × xWS :=
  if p0 < 0 then (1, 0, (xk1, xk2, xk3, xf3, xf4, xf5, xf6, xf7, xf8, xf9, xf10, xf11, xf12, xf13))
  else if p0 ≤ 1000000 then (if (p1 &&& 1057030143) = 0 then (if (p2 &&& (-1431306241)) = 0 then (if xf7 ≤ 0 then (0, (fX0_fill (((fX0_fill ((fX0_fill xf8 8) + p0) 8) + (8 * (fJ0_bitCount p2))) + (4 * (fJ0_bitCount p1))) 8), (xk1, xk2, xk3, xf3, xf4, xf5, xf6, xf7, xf8, (fX0_fill xf8 8), (fX0_fill ((fX0_fill xf8 8) + p0) 8), ((fX0_fill ((fX0_fill xf8 8) + p0) 8) + (8 * (fJ0_bitCount p2))), p1, p2))
          else (0, (fX0_fill (((fX0_fill ((fX0_fill xf8 8) + p0) 8) + (8 * (fJ0_bitCount p2))) + (4 * (fJ0_bitCount (p1 ||| (-2147483648))))) 8), (xk1, xk2, xk3, xf3, xf4, xf5, xf6, xf7, xf8, (fX0_fill xf8 8), (fX0_fill ((fX0_fill xf8 8) + p0) 8), ((fX0_fill ((fX0_fill xf8 8) + p0) 8) + (8 * (fJ0_bitCount p2))), (p1 ||| (-2147483648)), p2)))
        else (1, 0, (xk1, xk2, xk3, xf3, xf4, xf5, xf6, xf7, xf8, xf9, xf10, xf11, xf12, xf13)))
      else (1, 0, (xk1, xk2, xk3, xf3, xf4, xf5, xf6, xf7, xf8, xf9, xf10, xf11, xf12, xf13)))
    else (1, 0, (xk1, xk2, xk3, xf3, xf4, xf5, xf6, xf7, xf8, xf9, xf10, xf11, xf12, xf13))

abbrev wsX0_frame : List Cond := .code yX0_frame cX0_frame 4 (some .int) :: wG
set_option maxHeartbeats 4000000 in
set_option maxRecDepth 100000 in
theorem mX0_frame (l : Launch) (hl9 : l.stackTraces = false) (dC : Nat → ClassId) (dI : Nat → Nat → Nat) (xh0 xh1 xh2 xh3 : Nat) (sz : Nat) (xc1 xc2 xc3 : ClassId) (xk1 xk2 xk3 : Nat → Int32) (xf3 xf4 xf5 xf6 xf7 xf8 xf9 xf10 xf11 xf12 xf13 : Int32) (p0 p1 p2 : Int32)  : vx_Met l yX0_frame wsX0_frame ({ frames := 6, cells := 1, slots := 6, locals := 82 }) (va_Pc [.ref xh0, .int p0, .int p1, .int p2] (fun U => U.heap.size = sz ∧ va_P (dC, dI) vwCl (xW xh0 xh1 xh2 xh3 xc1 xc2 xc3 xk1 xk2 xk3 xf3 xf4 xf5 xf6 xf7 xf8 xf9 xf10 xf11 xf12 xf13) U.heap ∧ va_K (dC, dI) vwCl [(xc1, .int), (xc2, .int), (xc3, .int)] U ∧ va_D (fun _ => True) (xW xh0 xh1 xh2 xh3 xc1 xc2 xc3 xk1 xk2 xk3 xf3 xf4 xf5 xf6 xf7 xf8 xf9 xf10 xf11 xf12 xf13) ∧ xZ (va_A (xW xh0 xh1 xh2 xh3 xc1 xc2 xc3 xk1 xk2 xk3 xf3 xf4 xf5 xf6 xf7 xf8 xf9 xf10 xf11 xf12 xf13) sz) U U.heap)) (va_Qi (fun r u => (0, r, u) = fX0_frame xk1 xk2 xk3 xf3 xf4 xf5 xf6 xf7 xf8 xf9 xf10 xf11 xf12 xf13 p0 p1 p2) (xWB dC dI (va_A (xW xh0 xh1 xh2 xh3 xc1 xc2 xc3 xk1 xk2 xk3 xf3 xf4 xf5 xf6 xf7 xf8 xf9 xf10 xf11 xf12 xf13) sz) xh0 xh1 xh2 xh3 xc1 xc2 xc3) (va_A (xW xh0 xh1 xh2 xh3 xc1 xc2 xc3 xk1 xk2 xk3 xf3 xf4 xf5 xf6 xf7 xf8 xf9 xf10 xf11 xf12 xf13) sz)) (vx_X (fun _ : Unit => True) (fun E _ t => ((E = "java/lang/IllegalArgumentException" ∧ fX0_frame xk1 xk2 xk3 xf3 xf4 xf5 xf6 xf7 xf8 xf9 xf10 xf11 xf12 xf13 p0 p1 p2 = (1, 0, (xk1, xk2, xk3, xf3, xf4, xf5, xf6, xf7, xf8, xf9, xf10, xf11, xf12, xf13)))) ∧ xWB dC dI (va_A (xW xh0 xh1 xh2 xh3 xc1 xc2 xc3 xk1 xk2 xk3 xf3 xf4 xf5 xf6 xf7 xf8 xf9 xf10 xf11 xf12 xf13) sz) xh0 xh1 xh2 xh3 xc1 xc2 xc3 (xk1, xk2, xk3, xf3, xf4, xf5, xf6, xf7, xf8, xf9, xf10, xf11, xf12, xf13) t) (va_A (xW xh0 xh1 xh2 xh3 xc1 xc2 xc3 xk1 xk2 xk3 xf3 xf4 xf5 xf6 xf7 xf8 xf9 xf10 xf11 xf12 xf13) sz)) 1 6 (va_A (xW xh0 xh1 xh2 xh3 xc1 xc2 xc3 xk1 xk2 xk3 xf3 xf4 xf5 xf6 xf7 xf8 xf9 xf10 xf11 xf12 xf13) sz) := by
  refine vx_ofW (cc := cX0_frame) (maxL := 4) (ret := (some .int)) (by decide) rfl ?_
  intro p e s m args below meth c s₁ B hml hEx hv
  obtain ⟨rfl, hsz, hP, hK, hD0, hZ⟩ := hv
  have hx := B.exec
  have hb := B.bytes
  have hr := B.returns
  have hts := atoms_spec (ws := wsX0_frame) B.pre
  have htG := fun (w : Cond) (h : w ∈ wG) => hts w (List.mem_cons_of_mem _ h)
  have hown : s.vm.findClass RX0 = some m.cls := findClass_of_methodNamed B.named
  have hlocks := B.notSynchronized
  subst hsz
  have hD := hD0.self (sz := s.heap.size)
  generalize hAe : va_A (xW xh0 xh1 xh2 xh3 xc1 xc2 xc3 xk1 xk2 xk3 xf3 xf4 xf5 xf6 xf7 xf8 xf9 xf10 xf11 xf12 xf13) s.heap.size = A at hD hZ ⊢
  have hA : ∀ q : Nat, s.heap.size ≤ q → A q := fun q h => by rw [← hAe]; exact Or.inr h
  have hS : va_S A s.heap s.heap [] := va_S.rf
  have hP : va_P (dC, dI) vwCl (xW xh0 xh1 xh2 xh3 xc1 xc2 xc3 xk1 xk2 xk3 xf3 xf4 xf5 xf6 xf7 xf8 xf9 xf10 xf11 xf12 xf13) s.heap := hP
  have hl := lv_entry ([.ref xh0, .int p0, .int p1, .int p2]) (n := 4) (Nat.le_of_ble_eq_true rfl)
  rw [lg_entry_eq]
  generalize (lg_sl ([.ref xh0, .int p0, .int p1, .int p2]) ++ List.replicate (4 - (lg_sl ([.ref xh0, .int p0, .int p1, .int p2])).length) Slot.unset).toArray = ls at hl ⊢
  have hl : lv_has ls 4 [(0, .ref xh0), (1, .int p0), (2, .int p1), (3, .int p2)] := hl
  refine lv_iload_n hx hb dX0_frame_0 rfl (lv_at hl 1 rfl) ?_
  refine lv_if_lt (tgt := 10) hx hb dX0_frame_1 (by decide) (fun c_1 => ?_) (fun c_1 => ?_)
  · obtain ⟨sa, hstr⟩ := hZ.2.2.2.2.2.2.2.2.2.2.2.1
    exact vx_throwS (own := RX0) (cls := "java/lang/IllegalArgumentException") (names := ["java/lang/RuntimeException", "java/lang/Exception"]) hx hb hl9 hown (by decide +kernel) (by decide +kernel) (htG _ wd_110) (htG _ wd_27) hstr (vx_hat (L := vx_atS RX0 58 "java/lang/IllegalArgumentException" ["java/lang/RuntimeException", "java/lang/Exception"]) (B := [.castable "java/lang/IllegalArgumentException" "java/lang/IllegalArgumentException", .declares ⟨"java/lang/RuntimeException", "<init>", "(Ljava/lang/String;)V"⟩, .declares ⟨"java/lang/Exception", "<init>", "(Ljava/lang/String;)V"⟩, .declares ⟨"java/lang/Throwable", "<init>", "(Ljava/lang/String;)V"⟩]) (fun w hw => htG w (xg_58 w hw)) (by decide +kernel) (vx_c (va_Nw.use rfl hZ.2.2.1.1) (vx_c (va_Nw.use rfl hZ.2.2.1.2.1) (vx_c (va_Nw.use rfl hZ.2.2.1.2.2.1) (vx_c (va_Nw.use rfl hZ.2.2.1.2.2.2.1) (vx_n)))))) (by decide +kernel) hZ.1 hZ.2.1 hS (hl.1.trans hml.symm) dX0_frame_10 dX0_frame_13 dX0_frame_14 dX0_frame_16 dX0_frame_19 (fun x hx => (hEx x hx).elim) (Nat.le_of_ble_eq_true rfl) (Nat.le_of_ble_eq_true rfl) (Nat.le_of_ble_eq_true rfl) (Nat.le_of_ble_eq_true rfl) hlocks (fun t ha hsz hk => ⟨(), trivial, ⟨⟨rfl, (by rw [fX0_frame, if_pos c_1])⟩, hP.kept (fun k q hq => hk q.1 (hP k q hq).lt), va_K.moved ha hK, hD⟩, Nat.le_trans hS.1 hsz, fun q h1 h2 => (hk q (Nat.lt_of_lt_of_le h1 hS.1)).trans (hS.2.1 q h1 h2)⟩) hS.2.2 (Nat.le_of_ble_eq_true rfl) (Nat.le_of_ble_eq_true rfl)
  · refine lv_iload_n hx hb dX0_frame_4 rfl (lv_at hl 1 rfl) ?_
    refine lv_ldc (v := 1000000) hx hb hown (htG _ wd_214) dX0_frame_5 ?_
    refine lv_icmp_le (tgt := 20) hx hb dX0_frame_7 (by decide) (fun c_2 => ?_) (fun c_2 => ?_)
    · refine lv_iload_n hx hb dX0_frame_20 rfl (lv_at hl 2 rfl) ?_
      refine lv_ldc (v := 1057030143) hx hb hown (htG _ wd_303) dX0_frame_21 ?_
      refine lv_iand hx hb dX0_frame_23 ?_
      refine lv_if_eq (tgt := 37) hx hb dX0_frame_24 (by decide) (fun c_3 => ?_) (fun c_3 => ?_)
      · refine lv_iload_n hx hb dX0_frame_37 rfl (lv_at hl 3 rfl) ?_
        refine lv_ldc (v := (-1431306241)) hx hb hown (htG _ wd_305) dX0_frame_38 ?_
        refine lv_iand hx hb dX0_frame_40 ?_
        refine lv_if_eq (tgt := 54) hx hb dX0_frame_41 (by decide) (fun c_4 => ?_) (fun c_4 => ?_)
        · refine lv_aload_n hx hb dX0_frame_54 rfl (lv_at hl 0 rfl) ?_
          refine lv_aload_n hx hb dX0_frame_55 rfl (lv_at hl 0 rfl) ?_
          refine va_get (D := (dC, dI)) (ci := 0) (v := .int xf7) (C := RX0) (T := TX0) (N := 14) hx hb htG inX0 hown hK hP 0 rfl rfl 7 (by decide) (htG _ wd_47) (fun _ h9 => h9) rfl dX0_frame_56 ?_
          refine lv_if_le (tgt := 69) hx hb dX0_frame_59 (by decide) (fun c_5 => ?_) (fun c_5 => ?_)
          · refine lv_iload_n hx hb dX0_frame_69 rfl (lv_at hl 2 rfl) ?_
            refine va_put (D := (dC, dI)) (ci := 0) (v := .int p1) (ty := .int) (C := RX0) (T := TX0) (N := 14) hx hb htG inX0 tyX0 tyX0_ok nmX0 hown hK hP hD hS 0 rfl rfl 12 (by decide) (htG _ wd_52) (fun _ h9 => h9) rfl (by decide +kernel) rfl rfl (Nat.le_of_ble_eq_true rfl) dX0_frame_70 (fun H locs hP hD hS => ?_)
            have hP : va_P (dC, dI) vwCl (xW xh0 xh1 xh2 xh3 xc1 xc2 xc3 xk1 xk2 xk3 xf3 xf4 xf5 xf6 xf7 xf8 xf9 xf10 xf11 p1 xf13) H := hP
            have hD : va_D A (xW xh0 xh1 xh2 xh3 xc1 xc2 xc3 xk1 xk2 xk3 xf3 xf4 xf5 xf6 xf7 xf8 xf9 xf10 xf11 p1 xf13) := hD
            refine lv_aload_n hx hb dX0_frame_73 rfl (lv_at hl 0 rfl) ?_
            refine lv_iload_n hx hb dX0_frame_74 rfl (lv_at hl 3 rfl) ?_
            refine va_put (D := (dC, dI)) (ci := 0) (v := .int p2) (ty := .int) (C := RX0) (T := TX0) (N := 14) hx hb htG inX0 tyX0 tyX0_ok nmX0 hown hK hP hD hS 0 rfl rfl 13 (by decide) (htG _ wd_53) (fun _ h9 => h9) rfl (by decide +kernel) rfl rfl (Nat.le_of_ble_eq_true rfl) dX0_frame_75 (fun H locs hP hD hS => ?_)
            have hP : va_P (dC, dI) vwCl (xW xh0 xh1 xh2 xh3 xc1 xc2 xc3 xk1 xk2 xk3 xf3 xf4 xf5 xf6 xf7 xf8 xf9 xf10 xf11 p1 p2) H := hP
            have hD : va_D A (xW xh0 xh1 xh2 xh3 xc1 xc2 xc3 xk1 xk2 xk3 xf3 xf4 xf5 xf6 xf7 xf8 xf9 xf10 xf11 p1 p2) := hD
            refine lv_aload_n hx hb dX0_frame_78 rfl (lv_at hl 0 rfl) ?_
            refine lv_aload_n hx hb dX0_frame_79 rfl (lv_at hl 0 rfl) ?_
            refine va_get (D := (dC, dI)) (ci := 0) (v := .int xf8) (C := RX0) (T := TX0) (N := 14) hx hb htG inX0 hown hK hP 0 rfl rfl 8 (by decide) (htG _ wd_48) (fun _ h9 => h9) rfl dX0_frame_80 ?_
            refine lv_bipush (v := 8) hx hb dX0_frame_83 (by decide) ?_
            refine vp_callSi (va_runS (As := [.int xf8, .int 8]) (rest := [.ref xh0]) ⟨hx, hb, hml, hown, htG⟩ (mX0_fill l xf8 8) (va_cwS 2 htG (wG_S wd_92 wd_93 wd_22 wd_94) rfl rfl rfl (by decide +kernel) ⟨Nat.le_of_ble_eq_true rfl, Nat.le_of_ble_eq_true rfl⟩) ⟨fun _ _ _ _ q => q, fun U hU hW => ⟨rfl, trivial⟩⟩ rfl rfl hl.1 rfl (lv_room (Nat.le_of_ble_eq_true rfl)) dX0_frame_85 ⟨Nat.le_of_ble_eq_true rfl, Nat.le_of_ble_eq_true rfl⟩).run (fun r_1 er_1 => ?_)
            subst er_1
            refine va_put (D := (dC, dI)) (ci := 0) (v := .int (fX0_fill xf8 8)) (ty := .int) (C := RX0) (T := TX0) (N := 14) hx hb htG inX0 tyX0 tyX0_ok nmX0 hown hK hP hD hS 0 rfl rfl 9 (by decide) (htG _ wd_49) (fun _ h9 => h9) rfl (by decide +kernel) rfl rfl (Nat.le_of_ble_eq_true rfl) dX0_frame_88 (fun H locs hP hD hS => ?_)
            have hP : va_P (dC, dI) vwCl (xW xh0 xh1 xh2 xh3 xc1 xc2 xc3 xk1 xk2 xk3 xf3 xf4 xf5 xf6 xf7 xf8 (fX0_fill xf8 8) xf10 xf11 p1 p2) H := hP
            have hD : va_D A (xW xh0 xh1 xh2 xh3 xc1 xc2 xc3 xk1 xk2 xk3 xf3 xf4 xf5 xf6 xf7 xf8 (fX0_fill xf8 8) xf10 xf11 p1 p2) := hD
            refine lv_aload_n hx hb dX0_frame_91 rfl (lv_at hl 0 rfl) ?_
            refine lv_aload_n hx hb dX0_frame_92 rfl (lv_at hl 0 rfl) ?_
            refine va_get (D := (dC, dI)) (ci := 0) (v := .int (fX0_fill xf8 8)) (C := RX0) (T := TX0) (N := 14) hx hb htG inX0 hown hK hP 0 rfl rfl 9 (by decide) (htG _ wd_49) (fun _ h9 => h9) rfl dX0_frame_93 ?_
            refine lv_iload_n hx hb dX0_frame_96 rfl (lv_at hl 1 rfl) ?_
            refine lv_iadd hx hb dX0_frame_97 ?_
            refine lv_bipush (v := 8) hx hb dX0_frame_98 (by decide) ?_
            refine vp_callSi (va_runS (As := [.int ((fX0_fill xf8 8) + p0), .int 8]) (rest := [.ref xh0]) ⟨hx, hb, hml, hown, htG⟩ (mX0_fill l ((fX0_fill xf8 8) + p0) 8) (va_cwS 2 htG (wG_S wd_92 wd_93 wd_22 wd_94) rfl rfl rfl (by decide +kernel) ⟨Nat.le_of_ble_eq_true rfl, Nat.le_of_ble_eq_true rfl⟩) ⟨fun _ _ _ _ q => q, fun U hU hW => ⟨rfl, trivial⟩⟩ rfl rfl hl.1 rfl (lv_room (Nat.le_of_ble_eq_true rfl)) dX0_frame_100 ⟨Nat.le_of_ble_eq_true rfl, Nat.le_of_ble_eq_true rfl⟩).run (fun r_2 er_2 => ?_)
            subst er_2
            refine va_put (D := (dC, dI)) (ci := 0) (v := .int (fX0_fill ((fX0_fill xf8 8) + p0) 8)) (ty := .int) (C := RX0) (T := TX0) (N := 14) hx hb htG inX0 tyX0 tyX0_ok nmX0 hown hK hP hD hS 0 rfl rfl 10 (by decide) (htG _ wd_50) (fun _ h9 => h9) rfl (by decide +kernel) rfl rfl (Nat.le_of_ble_eq_true rfl) dX0_frame_103 (fun H locs hP hD hS => ?_)
            have hP : va_P (dC, dI) vwCl (xW xh0 xh1 xh2 xh3 xc1 xc2 xc3 xk1 xk2 xk3 xf3 xf4 xf5 xf6 xf7 xf8 (fX0_fill xf8 8) (fX0_fill ((fX0_fill xf8 8) + p0) 8) xf11 p1 p2) H := hP
            have hD : va_D A (xW xh0 xh1 xh2 xh3 xc1 xc2 xc3 xk1 xk2 xk3 xf3 xf4 xf5 xf6 xf7 xf8 (fX0_fill xf8 8) (fX0_fill ((fX0_fill xf8 8) + p0) 8) xf11 p1 p2) := hD
            refine lv_aload_n hx hb dX0_frame_106 rfl (lv_at hl 0 rfl) ?_
            refine lv_aload_n hx hb dX0_frame_107 rfl (lv_at hl 0 rfl) ?_
            refine va_get (D := (dC, dI)) (ci := 0) (v := .int (fX0_fill ((fX0_fill xf8 8) + p0) 8)) (C := RX0) (T := TX0) (N := 14) hx hb htG inX0 hown hK hP 0 rfl rfl 10 (by decide) (htG _ wd_50) (fun _ h9 => h9) rfl dX0_frame_108 ?_
            refine lv_bipush (v := 8) hx hb dX0_frame_111 (by decide) ?_
            refine lv_aload_n hx hb dX0_frame_113 rfl (lv_at hl 0 rfl) ?_
            refine va_get (D := (dC, dI)) (ci := 0) (v := .int p2) (C := RX0) (T := TX0) (N := 14) hx hb htG inX0 hown hK hP 0 rfl rfl 13 (by decide) (htG _ wd_53) (fun _ h9 => h9) rfl dX0_frame_114 ?_
            refine vp_callSi (va_runS (As := [.int p2]) (rest := [.int 8, .int (fX0_fill ((fX0_fill xf8 8) + p0) 8), .ref xh0]) ⟨hx, hb, hml, hown, htG⟩ (mJ0_bitCount l p2) (va_cwS 1 htG (wG_S wd_308 wd_309 wd_31 wd_310) rfl rfl rfl (by decide +kernel) ⟨Nat.le_of_ble_eq_true rfl, Nat.le_of_ble_eq_true rfl⟩) ⟨fun _ _ _ _ q => q, fun U hU hW => ⟨rfl, trivial⟩⟩ rfl rfl hl.1 rfl (lv_room (Nat.le_of_ble_eq_true rfl)) dX0_frame_117 ⟨Nat.le_of_ble_eq_true rfl, Nat.le_of_ble_eq_true rfl⟩).run (fun r_3 er_3 => ?_)
            subst er_3
            refine lv_imul hx hb dX0_frame_120 ?_
            refine lv_iadd hx hb dX0_frame_121 ?_
            refine va_put (D := (dC, dI)) (ci := 0) (v := .int ((fX0_fill ((fX0_fill xf8 8) + p0) 8) + (8 * (fJ0_bitCount p2)))) (ty := .int) (C := RX0) (T := TX0) (N := 14) hx hb htG inX0 tyX0 tyX0_ok nmX0 hown hK hP hD hS 0 rfl rfl 11 (by decide) (htG _ wd_51) (fun _ h9 => h9) rfl (by decide +kernel) rfl rfl (Nat.le_of_ble_eq_true rfl) dX0_frame_122 (fun H locs hP hD hS => ?_)
            have hP : va_P (dC, dI) vwCl (xW xh0 xh1 xh2 xh3 xc1 xc2 xc3 xk1 xk2 xk3 xf3 xf4 xf5 xf6 xf7 xf8 (fX0_fill xf8 8) (fX0_fill ((fX0_fill xf8 8) + p0) 8) ((fX0_fill ((fX0_fill xf8 8) + p0) 8) + (8 * (fJ0_bitCount p2))) p1 p2) H := hP
            have hD : va_D A (xW xh0 xh1 xh2 xh3 xc1 xc2 xc3 xk1 xk2 xk3 xf3 xf4 xf5 xf6 xf7 xf8 (fX0_fill xf8 8) (fX0_fill ((fX0_fill xf8 8) + p0) 8) ((fX0_fill ((fX0_fill xf8 8) + p0) 8) + (8 * (fJ0_bitCount p2))) p1 p2) := hD
            refine lv_aload_n hx hb dX0_frame_125 rfl (lv_at hl 0 rfl) ?_
            refine va_get (D := (dC, dI)) (ci := 0) (v := .int ((fX0_fill ((fX0_fill xf8 8) + p0) 8) + (8 * (fJ0_bitCount p2)))) (C := RX0) (T := TX0) (N := 14) hx hb htG inX0 hown hK hP 0 rfl rfl 11 (by decide) (htG _ wd_51) (fun _ h9 => h9) rfl dX0_frame_126 ?_
            refine lv_iconst (v := 4) hx hb dX0_frame_129 (by decide) ?_
            refine lv_aload_n hx hb dX0_frame_130 rfl (lv_at hl 0 rfl) ?_
            refine va_get (D := (dC, dI)) (ci := 0) (v := .int p1) (C := RX0) (T := TX0) (N := 14) hx hb htG inX0 hown hK hP 0 rfl rfl 12 (by decide) (htG _ wd_52) (fun _ h9 => h9) rfl dX0_frame_131 ?_
            refine vp_callSi (va_runS (As := [.int p1]) (rest := [.int 4, .int ((fX0_fill ((fX0_fill xf8 8) + p0) 8) + (8 * (fJ0_bitCount p2)))]) ⟨hx, hb, hml, hown, htG⟩ (mJ0_bitCount l p1) (va_cwS 1 htG (wG_S wd_308 wd_309 wd_31 wd_310) rfl rfl rfl (by decide +kernel) ⟨Nat.le_of_ble_eq_true rfl, Nat.le_of_ble_eq_true rfl⟩) ⟨fun _ _ _ _ q => q, fun U hU hW => ⟨rfl, trivial⟩⟩ rfl rfl hl.1 rfl (lv_room (Nat.le_of_ble_eq_true rfl)) dX0_frame_134 ⟨Nat.le_of_ble_eq_true rfl, Nat.le_of_ble_eq_true rfl⟩).run (fun r_4 er_4 => ?_)
            subst er_4
            refine lv_imul hx hb dX0_frame_137 ?_
            refine lv_iadd hx hb dX0_frame_138 ?_
            refine lv_bipush (v := 8) hx hb dX0_frame_139 (by decide) ?_
            refine vp_callSi (va_runS (As := [.int (((fX0_fill ((fX0_fill xf8 8) + p0) 8) + (8 * (fJ0_bitCount p2))) + (4 * (fJ0_bitCount p1))), .int 8]) (rest := []) ⟨hx, hb, hml, hown, htG⟩ (mX0_fill l (((fX0_fill ((fX0_fill xf8 8) + p0) 8) + (8 * (fJ0_bitCount p2))) + (4 * (fJ0_bitCount p1))) 8) (va_cwS 2 htG (wG_S wd_92 wd_93 wd_22 wd_94) rfl rfl rfl (by decide +kernel) ⟨Nat.le_of_ble_eq_true rfl, Nat.le_of_ble_eq_true rfl⟩) ⟨fun _ _ _ _ q => q, fun U hU hW => ⟨rfl, trivial⟩⟩ rfl rfl hl.1 rfl (lv_room (Nat.le_of_ble_eq_true rfl)) dX0_frame_141 ⟨Nat.le_of_ble_eq_true rfl, Nat.le_of_ble_eq_true rfl⟩).run (fun r_5 er_5 => ?_)
            subst er_5
            refine W.widen (k := 1) (n := 6) (Nat.le_of_ble_eq_true rfl) (Nat.le_of_ble_eq_true rfl) ?_
            exact vx_ret (W.iret (v := (fX0_fill (((fX0_fill ((fX0_fill xf8 8) + p0) 8) + (8 * (fJ0_bitCount p2))) + (4 * (fJ0_bitCount p1))) 8)) hx hb hr (fun t ht hW => ⟨⟨(fX0_fill (((fX0_fill ((fX0_fill xf8 8) + p0) 8) + (8 * (fJ0_bitCount p2))) + (4 * (fJ0_bitCount p1))) 8), (xk1, xk2, xk3, xf3, xf4, xf5, xf6, xf7, xf8, (fX0_fill xf8 8), (fX0_fill ((fX0_fill xf8 8) + p0) 8), ((fX0_fill ((fX0_fill xf8 8) + p0) 8) + (8 * (fJ0_bitCount p2))), p1, p2), rfl, (by rw [fX0_frame, if_neg c_1, if_pos c_2, if_pos c_3, if_pos c_4, if_pos c_5]), by rw [ht]; exact hP, va_K.moved hW.alike hK, hD⟩, hS.F ht⟩) hS.2.2 dX0_frame_144)
          · refine lv_iload_n hx hb dX0_frame_62 rfl (lv_at hl 2 rfl) ?_
            refine lv_ldc (v := (-2147483648)) hx hb hown (htG _ wd_307) dX0_frame_63 ?_
            refine lv_ior hx hb dX0_frame_65 ?_
            refine lv_goto (tgt := 70) hx hb dX0_frame_66 (by decide) ?_
            refine va_put (D := (dC, dI)) (ci := 0) (v := .int (p1 ||| (-2147483648))) (ty := .int) (C := RX0) (T := TX0) (N := 14) hx hb htG inX0 tyX0 tyX0_ok nmX0 hown hK hP hD hS 0 rfl rfl 12 (by decide) (htG _ wd_52) (fun _ h9 => h9) rfl (by decide +kernel) rfl rfl (Nat.le_of_ble_eq_true rfl) dX0_frame_70 (fun H locs hP hD hS => ?_)
            have hP : va_P (dC, dI) vwCl (xW xh0 xh1 xh2 xh3 xc1 xc2 xc3 xk1 xk2 xk3 xf3 xf4 xf5 xf6 xf7 xf8 xf9 xf10 xf11 (p1 ||| (-2147483648)) xf13) H := hP
            have hD : va_D A (xW xh0 xh1 xh2 xh3 xc1 xc2 xc3 xk1 xk2 xk3 xf3 xf4 xf5 xf6 xf7 xf8 xf9 xf10 xf11 (p1 ||| (-2147483648)) xf13) := hD
            refine lv_aload_n hx hb dX0_frame_73 rfl (lv_at hl 0 rfl) ?_
            refine lv_iload_n hx hb dX0_frame_74 rfl (lv_at hl 3 rfl) ?_
            refine va_put (D := (dC, dI)) (ci := 0) (v := .int p2) (ty := .int) (C := RX0) (T := TX0) (N := 14) hx hb htG inX0 tyX0 tyX0_ok nmX0 hown hK hP hD hS 0 rfl rfl 13 (by decide) (htG _ wd_53) (fun _ h9 => h9) rfl (by decide +kernel) rfl rfl (Nat.le_of_ble_eq_true rfl) dX0_frame_75 (fun H locs hP hD hS => ?_)
            have hP : va_P (dC, dI) vwCl (xW xh0 xh1 xh2 xh3 xc1 xc2 xc3 xk1 xk2 xk3 xf3 xf4 xf5 xf6 xf7 xf8 xf9 xf10 xf11 (p1 ||| (-2147483648)) p2) H := hP
            have hD : va_D A (xW xh0 xh1 xh2 xh3 xc1 xc2 xc3 xk1 xk2 xk3 xf3 xf4 xf5 xf6 xf7 xf8 xf9 xf10 xf11 (p1 ||| (-2147483648)) p2) := hD
            refine lv_aload_n hx hb dX0_frame_78 rfl (lv_at hl 0 rfl) ?_
            refine lv_aload_n hx hb dX0_frame_79 rfl (lv_at hl 0 rfl) ?_
            refine va_get (D := (dC, dI)) (ci := 0) (v := .int xf8) (C := RX0) (T := TX0) (N := 14) hx hb htG inX0 hown hK hP 0 rfl rfl 8 (by decide) (htG _ wd_48) (fun _ h9 => h9) rfl dX0_frame_80 ?_
            refine lv_bipush (v := 8) hx hb dX0_frame_83 (by decide) ?_
            refine vp_callSi (va_runS (As := [.int xf8, .int 8]) (rest := [.ref xh0]) ⟨hx, hb, hml, hown, htG⟩ (mX0_fill l xf8 8) (va_cwS 2 htG (wG_S wd_92 wd_93 wd_22 wd_94) rfl rfl rfl (by decide +kernel) ⟨Nat.le_of_ble_eq_true rfl, Nat.le_of_ble_eq_true rfl⟩) ⟨fun _ _ _ _ q => q, fun U hU hW => ⟨rfl, trivial⟩⟩ rfl rfl hl.1 rfl (lv_room (Nat.le_of_ble_eq_true rfl)) dX0_frame_85 ⟨Nat.le_of_ble_eq_true rfl, Nat.le_of_ble_eq_true rfl⟩).run (fun r_6 er_6 => ?_)
            subst er_6
            refine va_put (D := (dC, dI)) (ci := 0) (v := .int (fX0_fill xf8 8)) (ty := .int) (C := RX0) (T := TX0) (N := 14) hx hb htG inX0 tyX0 tyX0_ok nmX0 hown hK hP hD hS 0 rfl rfl 9 (by decide) (htG _ wd_49) (fun _ h9 => h9) rfl (by decide +kernel) rfl rfl (Nat.le_of_ble_eq_true rfl) dX0_frame_88 (fun H locs hP hD hS => ?_)
            have hP : va_P (dC, dI) vwCl (xW xh0 xh1 xh2 xh3 xc1 xc2 xc3 xk1 xk2 xk3 xf3 xf4 xf5 xf6 xf7 xf8 (fX0_fill xf8 8) xf10 xf11 (p1 ||| (-2147483648)) p2) H := hP
            have hD : va_D A (xW xh0 xh1 xh2 xh3 xc1 xc2 xc3 xk1 xk2 xk3 xf3 xf4 xf5 xf6 xf7 xf8 (fX0_fill xf8 8) xf10 xf11 (p1 ||| (-2147483648)) p2) := hD
            refine lv_aload_n hx hb dX0_frame_91 rfl (lv_at hl 0 rfl) ?_
            refine lv_aload_n hx hb dX0_frame_92 rfl (lv_at hl 0 rfl) ?_
            refine va_get (D := (dC, dI)) (ci := 0) (v := .int (fX0_fill xf8 8)) (C := RX0) (T := TX0) (N := 14) hx hb htG inX0 hown hK hP 0 rfl rfl 9 (by decide) (htG _ wd_49) (fun _ h9 => h9) rfl dX0_frame_93 ?_
            refine lv_iload_n hx hb dX0_frame_96 rfl (lv_at hl 1 rfl) ?_
            refine lv_iadd hx hb dX0_frame_97 ?_
            refine lv_bipush (v := 8) hx hb dX0_frame_98 (by decide) ?_
            refine vp_callSi (va_runS (As := [.int ((fX0_fill xf8 8) + p0), .int 8]) (rest := [.ref xh0]) ⟨hx, hb, hml, hown, htG⟩ (mX0_fill l ((fX0_fill xf8 8) + p0) 8) (va_cwS 2 htG (wG_S wd_92 wd_93 wd_22 wd_94) rfl rfl rfl (by decide +kernel) ⟨Nat.le_of_ble_eq_true rfl, Nat.le_of_ble_eq_true rfl⟩) ⟨fun _ _ _ _ q => q, fun U hU hW => ⟨rfl, trivial⟩⟩ rfl rfl hl.1 rfl (lv_room (Nat.le_of_ble_eq_true rfl)) dX0_frame_100 ⟨Nat.le_of_ble_eq_true rfl, Nat.le_of_ble_eq_true rfl⟩).run (fun r_7 er_7 => ?_)
            subst er_7
            refine va_put (D := (dC, dI)) (ci := 0) (v := .int (fX0_fill ((fX0_fill xf8 8) + p0) 8)) (ty := .int) (C := RX0) (T := TX0) (N := 14) hx hb htG inX0 tyX0 tyX0_ok nmX0 hown hK hP hD hS 0 rfl rfl 10 (by decide) (htG _ wd_50) (fun _ h9 => h9) rfl (by decide +kernel) rfl rfl (Nat.le_of_ble_eq_true rfl) dX0_frame_103 (fun H locs hP hD hS => ?_)
            have hP : va_P (dC, dI) vwCl (xW xh0 xh1 xh2 xh3 xc1 xc2 xc3 xk1 xk2 xk3 xf3 xf4 xf5 xf6 xf7 xf8 (fX0_fill xf8 8) (fX0_fill ((fX0_fill xf8 8) + p0) 8) xf11 (p1 ||| (-2147483648)) p2) H := hP
            have hD : va_D A (xW xh0 xh1 xh2 xh3 xc1 xc2 xc3 xk1 xk2 xk3 xf3 xf4 xf5 xf6 xf7 xf8 (fX0_fill xf8 8) (fX0_fill ((fX0_fill xf8 8) + p0) 8) xf11 (p1 ||| (-2147483648)) p2) := hD
            refine lv_aload_n hx hb dX0_frame_106 rfl (lv_at hl 0 rfl) ?_
            refine lv_aload_n hx hb dX0_frame_107 rfl (lv_at hl 0 rfl) ?_
            refine va_get (D := (dC, dI)) (ci := 0) (v := .int (fX0_fill ((fX0_fill xf8 8) + p0) 8)) (C := RX0) (T := TX0) (N := 14) hx hb htG inX0 hown hK hP 0 rfl rfl 10 (by decide) (htG _ wd_50) (fun _ h9 => h9) rfl dX0_frame_108 ?_
            refine lv_bipush (v := 8) hx hb dX0_frame_111 (by decide) ?_
            refine lv_aload_n hx hb dX0_frame_113 rfl (lv_at hl 0 rfl) ?_
            refine va_get (D := (dC, dI)) (ci := 0) (v := .int p2) (C := RX0) (T := TX0) (N := 14) hx hb htG inX0 hown hK hP 0 rfl rfl 13 (by decide) (htG _ wd_53) (fun _ h9 => h9) rfl dX0_frame_114 ?_
            refine vp_callSi (va_runS (As := [.int p2]) (rest := [.int 8, .int (fX0_fill ((fX0_fill xf8 8) + p0) 8), .ref xh0]) ⟨hx, hb, hml, hown, htG⟩ (mJ0_bitCount l p2) (va_cwS 1 htG (wG_S wd_308 wd_309 wd_31 wd_310) rfl rfl rfl (by decide +kernel) ⟨Nat.le_of_ble_eq_true rfl, Nat.le_of_ble_eq_true rfl⟩) ⟨fun _ _ _ _ q => q, fun U hU hW => ⟨rfl, trivial⟩⟩ rfl rfl hl.1 rfl (lv_room (Nat.le_of_ble_eq_true rfl)) dX0_frame_117 ⟨Nat.le_of_ble_eq_true rfl, Nat.le_of_ble_eq_true rfl⟩).run (fun r_8 er_8 => ?_)
            subst er_8
            refine lv_imul hx hb dX0_frame_120 ?_
            refine lv_iadd hx hb dX0_frame_121 ?_
            refine va_put (D := (dC, dI)) (ci := 0) (v := .int ((fX0_fill ((fX0_fill xf8 8) + p0) 8) + (8 * (fJ0_bitCount p2)))) (ty := .int) (C := RX0) (T := TX0) (N := 14) hx hb htG inX0 tyX0 tyX0_ok nmX0 hown hK hP hD hS 0 rfl rfl 11 (by decide) (htG _ wd_51) (fun _ h9 => h9) rfl (by decide +kernel) rfl rfl (Nat.le_of_ble_eq_true rfl) dX0_frame_122 (fun H locs hP hD hS => ?_)
            have hP : va_P (dC, dI) vwCl (xW xh0 xh1 xh2 xh3 xc1 xc2 xc3 xk1 xk2 xk3 xf3 xf4 xf5 xf6 xf7 xf8 (fX0_fill xf8 8) (fX0_fill ((fX0_fill xf8 8) + p0) 8) ((fX0_fill ((fX0_fill xf8 8) + p0) 8) + (8 * (fJ0_bitCount p2))) (p1 ||| (-2147483648)) p2) H := hP
            have hD : va_D A (xW xh0 xh1 xh2 xh3 xc1 xc2 xc3 xk1 xk2 xk3 xf3 xf4 xf5 xf6 xf7 xf8 (fX0_fill xf8 8) (fX0_fill ((fX0_fill xf8 8) + p0) 8) ((fX0_fill ((fX0_fill xf8 8) + p0) 8) + (8 * (fJ0_bitCount p2))) (p1 ||| (-2147483648)) p2) := hD
            refine lv_aload_n hx hb dX0_frame_125 rfl (lv_at hl 0 rfl) ?_
            refine va_get (D := (dC, dI)) (ci := 0) (v := .int ((fX0_fill ((fX0_fill xf8 8) + p0) 8) + (8 * (fJ0_bitCount p2)))) (C := RX0) (T := TX0) (N := 14) hx hb htG inX0 hown hK hP 0 rfl rfl 11 (by decide) (htG _ wd_51) (fun _ h9 => h9) rfl dX0_frame_126 ?_
            refine lv_iconst (v := 4) hx hb dX0_frame_129 (by decide) ?_
            refine lv_aload_n hx hb dX0_frame_130 rfl (lv_at hl 0 rfl) ?_
            refine va_get (D := (dC, dI)) (ci := 0) (v := .int (p1 ||| (-2147483648))) (C := RX0) (T := TX0) (N := 14) hx hb htG inX0 hown hK hP 0 rfl rfl 12 (by decide) (htG _ wd_52) (fun _ h9 => h9) rfl dX0_frame_131 ?_
            refine vp_callSi (va_runS (As := [.int (p1 ||| (-2147483648))]) (rest := [.int 4, .int ((fX0_fill ((fX0_fill xf8 8) + p0) 8) + (8 * (fJ0_bitCount p2)))]) ⟨hx, hb, hml, hown, htG⟩ (mJ0_bitCount l (p1 ||| (-2147483648))) (va_cwS 1 htG (wG_S wd_308 wd_309 wd_31 wd_310) rfl rfl rfl (by decide +kernel) ⟨Nat.le_of_ble_eq_true rfl, Nat.le_of_ble_eq_true rfl⟩) ⟨fun _ _ _ _ q => q, fun U hU hW => ⟨rfl, trivial⟩⟩ rfl rfl hl.1 rfl (lv_room (Nat.le_of_ble_eq_true rfl)) dX0_frame_134 ⟨Nat.le_of_ble_eq_true rfl, Nat.le_of_ble_eq_true rfl⟩).run (fun r_9 er_9 => ?_)
            subst er_9
            refine lv_imul hx hb dX0_frame_137 ?_
            refine lv_iadd hx hb dX0_frame_138 ?_
            refine lv_bipush (v := 8) hx hb dX0_frame_139 (by decide) ?_
            refine vp_callSi (va_runS (As := [.int (((fX0_fill ((fX0_fill xf8 8) + p0) 8) + (8 * (fJ0_bitCount p2))) + (4 * (fJ0_bitCount (p1 ||| (-2147483648))))), .int 8]) (rest := []) ⟨hx, hb, hml, hown, htG⟩ (mX0_fill l (((fX0_fill ((fX0_fill xf8 8) + p0) 8) + (8 * (fJ0_bitCount p2))) + (4 * (fJ0_bitCount (p1 ||| (-2147483648))))) 8) (va_cwS 2 htG (wG_S wd_92 wd_93 wd_22 wd_94) rfl rfl rfl (by decide +kernel) ⟨Nat.le_of_ble_eq_true rfl, Nat.le_of_ble_eq_true rfl⟩) ⟨fun _ _ _ _ q => q, fun U hU hW => ⟨rfl, trivial⟩⟩ rfl rfl hl.1 rfl (lv_room (Nat.le_of_ble_eq_true rfl)) dX0_frame_141 ⟨Nat.le_of_ble_eq_true rfl, Nat.le_of_ble_eq_true rfl⟩).run (fun r_10 er_10 => ?_)
            subst er_10
            refine W.widen (k := 1) (n := 6) (Nat.le_of_ble_eq_true rfl) (Nat.le_of_ble_eq_true rfl) ?_
            exact vx_ret (W.iret (v := (fX0_fill (((fX0_fill ((fX0_fill xf8 8) + p0) 8) + (8 * (fJ0_bitCount p2))) + (4 * (fJ0_bitCount (p1 ||| (-2147483648))))) 8)) hx hb hr (fun t ht hW => ⟨⟨(fX0_fill (((fX0_fill ((fX0_fill xf8 8) + p0) 8) + (8 * (fJ0_bitCount p2))) + (4 * (fJ0_bitCount (p1 ||| (-2147483648))))) 8), (xk1, xk2, xk3, xf3, xf4, xf5, xf6, xf7, xf8, (fX0_fill xf8 8), (fX0_fill ((fX0_fill xf8 8) + p0) 8), ((fX0_fill ((fX0_fill xf8 8) + p0) 8) + (8 * (fJ0_bitCount p2))), (p1 ||| (-2147483648)), p2), rfl, (by rw [fX0_frame, if_neg c_1, if_pos c_2, if_pos c_3, if_pos c_4, if_neg c_5]), by rw [ht]; exact hP, va_K.moved hW.alike hK, hD⟩, hS.F ht⟩) hS.2.2 dX0_frame_144)
        · obtain ⟨sa, hstr⟩ := hZ.2.2.2.2.2.2.2.2.2.2.2.2.2.1
          exact vx_throwS (own := RX0) (cls := "java/lang/IllegalArgumentException") (names := ["java/lang/RuntimeException", "java/lang/Exception"]) hx hb hl9 hown (by decide +kernel) (by decide +kernel) (htG _ wd_110) (htG _ wd_27) hstr (vx_hat (L := vx_atS RX0 58 "java/lang/IllegalArgumentException" ["java/lang/RuntimeException", "java/lang/Exception"]) (B := [.castable "java/lang/IllegalArgumentException" "java/lang/IllegalArgumentException", .declares ⟨"java/lang/RuntimeException", "<init>", "(Ljava/lang/String;)V"⟩, .declares ⟨"java/lang/Exception", "<init>", "(Ljava/lang/String;)V"⟩, .declares ⟨"java/lang/Throwable", "<init>", "(Ljava/lang/String;)V"⟩]) (fun w hw => htG w (xg_58 w hw)) (by decide +kernel) (vx_c (va_Nw.use rfl hZ.2.2.1.1) (vx_c (va_Nw.use rfl hZ.2.2.1.2.1) (vx_c (va_Nw.use rfl hZ.2.2.1.2.2.1) (vx_c (va_Nw.use rfl hZ.2.2.1.2.2.2.1) (vx_n)))))) (by decide +kernel) hZ.1 hZ.2.1 hS (hl.1.trans hml.symm) dX0_frame_44 dX0_frame_47 dX0_frame_48 dX0_frame_50 dX0_frame_53 (fun x hx => (hEx x hx).elim) (Nat.le_of_ble_eq_true rfl) (Nat.le_of_ble_eq_true rfl) (Nat.le_of_ble_eq_true rfl) (Nat.le_of_ble_eq_true rfl) hlocks (fun t ha hsz hk => ⟨(), trivial, ⟨⟨rfl, (by rw [fX0_frame, if_neg c_1, if_pos c_2, if_pos c_3, if_neg c_4])⟩, hP.kept (fun k q hq => hk q.1 (hP k q hq).lt), va_K.moved ha hK, hD⟩, Nat.le_trans hS.1 hsz, fun q h1 h2 => (hk q (Nat.lt_of_lt_of_le h1 hS.1)).trans (hS.2.1 q h1 h2)⟩) hS.2.2 (Nat.le_of_ble_eq_true rfl) (Nat.le_of_ble_eq_true rfl)
      · obtain ⟨sa, hstr⟩ := hZ.2.2.2.2.2.2.2.2.2.2.2.2.1
        exact vx_throwS (own := RX0) (cls := "java/lang/IllegalArgumentException") (names := ["java/lang/RuntimeException", "java/lang/Exception"]) hx hb hl9 hown (by decide +kernel) (by decide +kernel) (htG _ wd_110) (htG _ wd_27) hstr (vx_hat (L := vx_atS RX0 58 "java/lang/IllegalArgumentException" ["java/lang/RuntimeException", "java/lang/Exception"]) (B := [.castable "java/lang/IllegalArgumentException" "java/lang/IllegalArgumentException", .declares ⟨"java/lang/RuntimeException", "<init>", "(Ljava/lang/String;)V"⟩, .declares ⟨"java/lang/Exception", "<init>", "(Ljava/lang/String;)V"⟩, .declares ⟨"java/lang/Throwable", "<init>", "(Ljava/lang/String;)V"⟩]) (fun w hw => htG w (xg_58 w hw)) (by decide +kernel) (vx_c (va_Nw.use rfl hZ.2.2.1.1) (vx_c (va_Nw.use rfl hZ.2.2.1.2.1) (vx_c (va_Nw.use rfl hZ.2.2.1.2.2.1) (vx_c (va_Nw.use rfl hZ.2.2.1.2.2.2.1) (vx_n)))))) (by decide +kernel) hZ.1 hZ.2.1 hS (hl.1.trans hml.symm) dX0_frame_27 dX0_frame_30 dX0_frame_31 dX0_frame_33 dX0_frame_36 (fun x hx => (hEx x hx).elim) (Nat.le_of_ble_eq_true rfl) (Nat.le_of_ble_eq_true rfl) (Nat.le_of_ble_eq_true rfl) (Nat.le_of_ble_eq_true rfl) hlocks (fun t ha hsz hk => ⟨(), trivial, ⟨⟨rfl, (by rw [fX0_frame, if_neg c_1, if_pos c_2, if_neg c_3])⟩, hP.kept (fun k q hq => hk q.1 (hP k q hq).lt), va_K.moved ha hK, hD⟩, Nat.le_trans hS.1 hsz, fun q h1 h2 => (hk q (Nat.lt_of_lt_of_le h1 hS.1)).trans (hS.2.1 q h1 h2)⟩) hS.2.2 (Nat.le_of_ble_eq_true rfl) (Nat.le_of_ble_eq_true rfl)
    · obtain ⟨sa, hstr⟩ := hZ.2.2.2.2.2.2.2.2.2.2.2.1
      exact vx_throwS (own := RX0) (cls := "java/lang/IllegalArgumentException") (names := ["java/lang/RuntimeException", "java/lang/Exception"]) hx hb hl9 hown (by decide +kernel) (by decide +kernel) (htG _ wd_110) (htG _ wd_27) hstr (vx_hat (L := vx_atS RX0 58 "java/lang/IllegalArgumentException" ["java/lang/RuntimeException", "java/lang/Exception"]) (B := [.castable "java/lang/IllegalArgumentException" "java/lang/IllegalArgumentException", .declares ⟨"java/lang/RuntimeException", "<init>", "(Ljava/lang/String;)V"⟩, .declares ⟨"java/lang/Exception", "<init>", "(Ljava/lang/String;)V"⟩, .declares ⟨"java/lang/Throwable", "<init>", "(Ljava/lang/String;)V"⟩]) (fun w hw => htG w (xg_58 w hw)) (by decide +kernel) (vx_c (va_Nw.use rfl hZ.2.2.1.1) (vx_c (va_Nw.use rfl hZ.2.2.1.2.1) (vx_c (va_Nw.use rfl hZ.2.2.1.2.2.1) (vx_c (va_Nw.use rfl hZ.2.2.1.2.2.2.1) (vx_n)))))) (by decide +kernel) hZ.1 hZ.2.1 hS (hl.1.trans hml.symm) dX0_frame_10 dX0_frame_13 dX0_frame_14 dX0_frame_16 dX0_frame_19 (fun x hx => (hEx x hx).elim) (Nat.le_of_ble_eq_true rfl) (Nat.le_of_ble_eq_true rfl) (Nat.le_of_ble_eq_true rfl) (Nat.le_of_ble_eq_true rfl) hlocks (fun t ha hsz hk => ⟨(), trivial, ⟨⟨rfl, (by rw [fX0_frame, if_neg c_1, if_neg c_2])⟩, hP.kept (fun k q hq => hk q.1 (hP k q hq).lt), va_K.moved ha hK, hD⟩, Nat.le_trans hS.1 hsz, fun q h1 h2 => (hk q (Nat.lt_of_lt_of_le h1 hS.1)).trans (hS.2.1 q h1 h2)⟩) hS.2.2 (Nat.le_of_ble_eq_true rfl) (Nat.le_of_ble_eq_true rfl)
end
section
theorem xg_73 : ∀ w ∈ (vx_atS RX0 73 "java/lang/IllegalStateException" ["java/lang/RuntimeException", "java/lang/Exception"]).filter goodWord, w ∈ wG := by decide +kernel

def fX0_add (xk1 xk2 xk3 : Nat → Int32) (xf3 xf4 xf5 xf6 xf7 xf8 xf9 xf10 xf11 xf12 xf13 : Int32) (p0 p1 p2 : Int32) : Int32 × Int32 × xWS :=
  if p0 < 0 then (1, 0, (xk1, xk2, xk3, xf3, xf4, xf5, xf6, xf7, xf8, xf9, xf10, xf11, xf12, xf13))
  else if p0 ≤ 3 then (if p0 = 3 then (if (fX0_isRecord p1 p2) = 0 then (1, 0, (xk1, xk2, xk3, xf3, xf4, xf5, xf6, xf7, xf8, xf9, xf10, xf11, xf12, xf13))
        else if xf3 < 0 then (2, 0, (xk1, xk2, xk3, xf3, xf4, xf5, xf6, xf7, xf8, xf9, xf10, xf11, xf12, xf13))
          else if xf3 < 60 then (if ((fX0_fill xf6 (fX0_homeAlignment p0 p2)) + (fX0_fill (fX0_bytesOf p0 p1) 4)) ≤ 1000000 then (0, (fX0_fill xf6 (fX0_homeAlignment p0 p2)), ((upd xk1 (xf3 : Int32).toNatClampNeg p0), (upd xk2 (xf3 : Int32).toNatClampNeg (fX0_fill xf6 (fX0_homeAlignment p0 p2))), (upd xk3 (xf3 : Int32).toNatClampNeg (fX0_bytesOf p0 p1)), (xf3 + 1), xf4, xf5, ((fX0_fill xf6 (fX0_homeAlignment p0 p2)) + (fX0_fill (fX0_bytesOf p0 p1) 4)), xf7, xf8, xf9, xf10, xf11, xf12, xf13))
              else (2, 0, (xk1, xk2, xk3, xf3, xf4, xf5, xf6, xf7, xf8, xf9, xf10, xf11, xf12, xf13)))
            else (2, 0, (xk1, xk2, xk3, xf3, xf4, xf5, xf6, xf7, xf8, xf9, xf10, xf11, xf12, xf13)))
      else if xf3 < 0 then (2, 0, (xk1, xk2, xk3, xf3, xf4, xf5, xf6, xf7, xf8, xf9, xf10, xf11, xf12, xf13))
        else if xf3 < 60 then (if ((fX0_fill xf6 (fX0_homeAlignment p0 p2)) + (fX0_fill (fX0_bytesOf p0 p1) 4)) ≤ 1000000 then (0, (fX0_fill xf6 (fX0_homeAlignment p0 p2)), ((upd xk1 (xf3 : Int32).toNatClampNeg p0), (upd xk2 (xf3 : Int32).toNatClampNeg (fX0_fill xf6 (fX0_homeAlignment p0 p2))), (upd xk3 (xf3 : Int32).toNatClampNeg (fX0_bytesOf p0 p1)), (xf3 + 1), xf4, xf5, ((fX0_fill xf6 (fX0_homeAlignment p0 p2)) + (fX0_fill (fX0_bytesOf p0 p1) 4)), xf7, xf8, xf9, xf10, xf11, xf12, xf13))
            else (2, 0, (xk1, xk2, xk3, xf3, xf4, xf5, xf6, xf7, xf8, xf9, xf10, xf11, xf12, xf13)))
          else (2, 0, (xk1, xk2, xk3, xf3, xf4, xf5, xf6, xf7, xf8, xf9, xf10, xf11, xf12, xf13)))
    else (1, 0, (xk1, xk2, xk3, xf3, xf4, xf5, xf6, xf7, xf8, xf9, xf10, xf11, xf12, xf13))

abbrev wsX0_add : List Cond := .code yX0_add cX0_add 7 (some .int) :: wG
set_option maxHeartbeats 4000000 in
set_option maxRecDepth 100000 in
theorem mX0_add (l : Launch) (hl9 : l.stackTraces = false) (dC : Nat → ClassId) (dI : Nat → Nat → Nat) (xh0 xh1 xh2 xh3 : Nat) (sz : Nat) (xc1 xc2 xc3 : ClassId) (xk1 xk2 xk3 : Nat → Int32) (xf3 xf4 xf5 xf6 xf7 xf8 xf9 xf10 xf11 xf12 xf13 : Int32) (p0 p1 p2 : Int32)  : vx_Met l yX0_add wsX0_add ({ frames := 6, cells := 1, slots := 6, locals := 82 }) (va_Pc [.ref xh0, .int p0, .int p1, .int p2] (fun U => U.heap.size = sz ∧ va_P (dC, dI) vwCl (xW xh0 xh1 xh2 xh3 xc1 xc2 xc3 xk1 xk2 xk3 xf3 xf4 xf5 xf6 xf7 xf8 xf9 xf10 xf11 xf12 xf13) U.heap ∧ va_K (dC, dI) vwCl [(xc1, .int), (xc2, .int), (xc3, .int)] U ∧ va_D (fun _ => True) (xW xh0 xh1 xh2 xh3 xc1 xc2 xc3 xk1 xk2 xk3 xf3 xf4 xf5 xf6 xf7 xf8 xf9 xf10 xf11 xf12 xf13) ∧ xZ (va_A (xW xh0 xh1 xh2 xh3 xc1 xc2 xc3 xk1 xk2 xk3 xf3 xf4 xf5 xf6 xf7 xf8 xf9 xf10 xf11 xf12 xf13) sz) U U.heap)) (va_Qi (fun r u => (0, r, u) = fX0_add xk1 xk2 xk3 xf3 xf4 xf5 xf6 xf7 xf8 xf9 xf10 xf11 xf12 xf13 p0 p1 p2) (xWB dC dI (va_A (xW xh0 xh1 xh2 xh3 xc1 xc2 xc3 xk1 xk2 xk3 xf3 xf4 xf5 xf6 xf7 xf8 xf9 xf10 xf11 xf12 xf13) sz) xh0 xh1 xh2 xh3 xc1 xc2 xc3) (va_A (xW xh0 xh1 xh2 xh3 xc1 xc2 xc3 xk1 xk2 xk3 xf3 xf4 xf5 xf6 xf7 xf8 xf9 xf10 xf11 xf12 xf13) sz)) (vx_X (fun _ : Unit => True) (fun E _ t => ((E = "java/lang/IllegalArgumentException" ∧ fX0_add xk1 xk2 xk3 xf3 xf4 xf5 xf6 xf7 xf8 xf9 xf10 xf11 xf12 xf13 p0 p1 p2 = (1, 0, (xk1, xk2, xk3, xf3, xf4, xf5, xf6, xf7, xf8, xf9, xf10, xf11, xf12, xf13))) ∨ (E = "java/lang/IllegalStateException" ∧ fX0_add xk1 xk2 xk3 xf3 xf4 xf5 xf6 xf7 xf8 xf9 xf10 xf11 xf12 xf13 p0 p1 p2 = (2, 0, (xk1, xk2, xk3, xf3, xf4, xf5, xf6, xf7, xf8, xf9, xf10, xf11, xf12, xf13)))) ∧ xWB dC dI (va_A (xW xh0 xh1 xh2 xh3 xc1 xc2 xc3 xk1 xk2 xk3 xf3 xf4 xf5 xf6 xf7 xf8 xf9 xf10 xf11 xf12 xf13) sz) xh0 xh1 xh2 xh3 xc1 xc2 xc3 (xk1, xk2, xk3, xf3, xf4, xf5, xf6, xf7, xf8, xf9, xf10, xf11, xf12, xf13) t) (va_A (xW xh0 xh1 xh2 xh3 xc1 xc2 xc3 xk1 xk2 xk3 xf3 xf4 xf5 xf6 xf7 xf8 xf9 xf10 xf11 xf12 xf13) sz)) 1 6 (va_A (xW xh0 xh1 xh2 xh3 xc1 xc2 xc3 xk1 xk2 xk3 xf3 xf4 xf5 xf6 xf7 xf8 xf9 xf10 xf11 xf12 xf13) sz) := by
  refine vx_ofW (cc := cX0_add) (maxL := 7) (ret := (some .int)) (by decide) rfl ?_
  intro p e s m args below meth c s₁ B hml hEx hv
  obtain ⟨rfl, hsz, hP, hK, hD0, hZ⟩ := hv
  have hx := B.exec
  have hb := B.bytes
  have hr := B.returns
  have hts := atoms_spec (ws := wsX0_add) B.pre
  have htG := fun (w : Cond) (h : w ∈ wG) => hts w (List.mem_cons_of_mem _ h)
  have hown : s.vm.findClass RX0 = some m.cls := findClass_of_methodNamed B.named
  have hlocks := B.notSynchronized
  subst hsz
  have hD := hD0.self (sz := s.heap.size)
  generalize hAe : va_A (xW xh0 xh1 xh2 xh3 xc1 xc2 xc3 xk1 xk2 xk3 xf3 xf4 xf5 xf6 xf7 xf8 xf9 xf10 xf11 xf12 xf13) s.heap.size = A at hD hZ ⊢
  have hA : ∀ q : Nat, s.heap.size ≤ q → A q := fun q h => by rw [← hAe]; exact Or.inr h
  have hS : va_S A s.heap s.heap [] := va_S.rf
  have hP : va_P (dC, dI) vwCl (xW xh0 xh1 xh2 xh3 xc1 xc2 xc3 xk1 xk2 xk3 xf3 xf4 xf5 xf6 xf7 xf8 xf9 xf10 xf11 xf12 xf13) s.heap := hP
  have hl := lv_entry ([.ref xh0, .int p0, .int p1, .int p2]) (n := 7) (Nat.le_of_ble_eq_true rfl)
  rw [lg_entry_eq]
  generalize (lg_sl ([.ref xh0, .int p0, .int p1, .int p2]) ++ List.replicate (7 - (lg_sl ([.ref xh0, .int p0, .int p1, .int p2])).length) Slot.unset).toArray = ls at hl ⊢
  have hl : lv_has ls 7 [(0, .ref xh0), (1, .int p0), (2, .int p1), (3, .int p2)] := hl
  refine lv_iload_n hx hb dX0_add_0 rfl (lv_at hl 1 rfl) ?_
  refine lv_if_lt (tgt := 9) hx hb dX0_add_1 (by decide) (fun c_1 => ?_) (fun c_1 => ?_)
  · obtain ⟨sa, hstr⟩ := hZ.2.2.2.2.2.1
    exact vx_throwS (own := RX0) (cls := "java/lang/IllegalArgumentException") (names := ["java/lang/RuntimeException", "java/lang/Exception"]) hx hb hl9 hown (by decide +kernel) (by decide +kernel) (htG _ wd_110) (htG _ wd_27) hstr (vx_hat (L := vx_atS RX0 58 "java/lang/IllegalArgumentException" ["java/lang/RuntimeException", "java/lang/Exception"]) (B := [.castable "java/lang/IllegalArgumentException" "java/lang/IllegalArgumentException", .declares ⟨"java/lang/RuntimeException", "<init>", "(Ljava/lang/String;)V"⟩, .declares ⟨"java/lang/Exception", "<init>", "(Ljava/lang/String;)V"⟩, .declares ⟨"java/lang/Throwable", "<init>", "(Ljava/lang/String;)V"⟩]) (fun w hw => htG w (xg_58 w hw)) (by decide +kernel) (vx_c (va_Nw.use rfl hZ.2.2.1.1) (vx_c (va_Nw.use rfl hZ.2.2.1.2.1) (vx_c (va_Nw.use rfl hZ.2.2.1.2.2.1) (vx_c (va_Nw.use rfl hZ.2.2.1.2.2.2.1) (vx_n)))))) (by decide +kernel) hZ.1 hZ.2.1 hS (hl.1.trans hml.symm) dX0_add_9 dX0_add_12 dX0_add_13 dX0_add_15 dX0_add_18 (fun x hx => (hEx x hx).elim) (Nat.le_of_ble_eq_true rfl) (Nat.le_of_ble_eq_true rfl) (Nat.le_of_ble_eq_true rfl) (Nat.le_of_ble_eq_true rfl) hlocks (fun t ha hsz hk => ⟨(), trivial, ⟨Or.inl ⟨rfl, (by rw [fX0_add, if_pos c_1])⟩, hP.kept (fun k q hq => hk q.1 (hP k q hq).lt), va_K.moved ha hK, hD⟩, Nat.le_trans hS.1 hsz, fun q h1 h2 => (hk q (Nat.lt_of_lt_of_le h1 hS.1)).trans (hS.2.1 q h1 h2)⟩) hS.2.2 (Nat.le_of_ble_eq_true rfl) (Nat.le_of_ble_eq_true rfl)
  · refine lv_iload_n hx hb dX0_add_4 rfl (lv_at hl 1 rfl) ?_
    refine lv_iconst (v := 3) hx hb dX0_add_5 (by decide) ?_
    refine lv_icmp_le (tgt := 19) hx hb dX0_add_6 (by decide) (fun c_2 => ?_) (fun c_2 => ?_)
    · refine lv_iload_n hx hb dX0_add_19 rfl (lv_at hl 1 rfl) ?_
      refine lv_iconst (v := 3) hx hb dX0_add_20 (by decide) ?_
      refine lv_icmp_ne (tgt := 42) hx hb dX0_add_21 (by decide) (fun c_3 => ?_) (fun c_3 => ?_)
      · refine lv_aload_n hx hb dX0_add_42 rfl (lv_at hl 0 rfl) ?_
        refine va_get (D := (dC, dI)) (ci := 0) (v := .int xf3) (C := RX0) (T := TX0) (N := 14) hx hb htG inX0 hown hK hP 0 rfl rfl 3 (by decide) (htG _ wd_43) (fun _ h9 => h9) rfl dX0_add_43 ?_
        refine lv_if_lt (tgt := 58) hx hb dX0_add_46 (by decide) (fun c_4 => ?_) (fun c_4 => ?_)
        · obtain ⟨sa, hstr⟩ := hZ.2.2.2.2.2.2.1
          exact vx_throwS (own := RX0) (cls := "java/lang/IllegalStateException") (names := ["java/lang/RuntimeException", "java/lang/Exception"]) hx hb hl9 hown (by decide +kernel) (by decide +kernel) (htG _ wd_192) (htG _ wd_28) hstr (vx_hat (L := vx_atS RX0 73 "java/lang/IllegalStateException" ["java/lang/RuntimeException", "java/lang/Exception"]) (B := [.castable "java/lang/IllegalStateException" "java/lang/IllegalStateException", .declares ⟨"java/lang/RuntimeException", "<init>", "(Ljava/lang/String;)V"⟩, .declares ⟨"java/lang/Exception", "<init>", "(Ljava/lang/String;)V"⟩, .declares ⟨"java/lang/Throwable", "<init>", "(Ljava/lang/String;)V"⟩]) (fun w hw => htG w (xg_73 w hw)) (by decide +kernel) (vx_c (va_Nw.use rfl hZ.2.2.1.2.2.2.2.1) (vx_c (va_Nw.use rfl hZ.2.2.1.2.1) (vx_c (va_Nw.use rfl hZ.2.2.1.2.2.1) (vx_c (va_Nw.use rfl hZ.2.2.1.2.2.2.1) (vx_n)))))) (by decide +kernel) hZ.1 hZ.2.1 hS (hl.1.trans hml.symm) dX0_add_58 dX0_add_61 dX0_add_62 dX0_add_64 dX0_add_67 (fun x hx => (hEx x hx).elim) (Nat.le_of_ble_eq_true rfl) (Nat.le_of_ble_eq_true rfl) (Nat.le_of_ble_eq_true rfl) (Nat.le_of_ble_eq_true rfl) hlocks (fun t ha hsz hk => ⟨(), trivial, ⟨Or.inr ⟨rfl, (by rw [fX0_add, if_neg c_1, if_pos c_2, if_neg c_3, if_pos c_4])⟩, hP.kept (fun k q hq => hk q.1 (hP k q hq).lt), va_K.moved ha hK, hD⟩, Nat.le_trans hS.1 hsz, fun q h1 h2 => (hk q (Nat.lt_of_lt_of_le h1 hS.1)).trans (hS.2.1 q h1 h2)⟩) hS.2.2 (Nat.le_of_ble_eq_true rfl) (Nat.le_of_ble_eq_true rfl)
        · refine lv_aload_n hx hb dX0_add_49 rfl (lv_at hl 0 rfl) ?_
          refine va_get (D := (dC, dI)) (ci := 0) (v := .int xf3) (C := RX0) (T := TX0) (N := 14) hx hb htG inX0 hown hK hP 0 rfl rfl 3 (by decide) (htG _ wd_43) (fun _ h9 => h9) rfl dX0_add_50 ?_
          refine lv_bipush (v := 60) hx hb dX0_add_53 (by decide) ?_
          refine lv_icmp_lt (tgt := 68) hx hb dX0_add_55 (by decide) (fun c_5 => ?_) (fun c_5 => ?_)
          · refine lv_iload_n hx hb dX0_add_68 rfl (lv_at hl 1 rfl) ?_
            refine lv_iload_n hx hb dX0_add_69 rfl (lv_at hl 2 rfl) ?_
            refine vp_callSi (va_runS (As := [.int p0, .int p1]) (rest := []) ⟨hx, hb, hml, hown, htG⟩ (mX0_bytesOf l p0 p1) (va_cwS 2 htG (wG_S wd_208 wd_209 wd_22 wd_210) rfl rfl rfl (by decide +kernel) ⟨Nat.le_of_ble_eq_true rfl, Nat.le_of_ble_eq_true rfl⟩) ⟨fun _ _ _ _ q => q, fun U hU hW => ⟨rfl, trivial⟩⟩ rfl rfl hl.1 rfl (lv_room (Nat.le_of_ble_eq_true rfl)) dX0_add_70 ⟨Nat.le_of_ble_eq_true rfl, Nat.le_of_ble_eq_true rfl⟩).run (fun r_1 er_1 => ?_)
            subst er_1
            refine lv_istore (lv' := [(4, .int (fX0_bytesOf p0 p1)), (0, .ref xh0), (1, .int p0), (2, .int p1), (3, .int p2)]) hx hb dX0_add_73 hl (by decide) rfl (fun ls hl => ?_)
            refine lv_aload_n hx hb dX0_add_75 rfl (lv_at hl 1 rfl) ?_
            refine va_get (D := (dC, dI)) (ci := 0) (v := .int xf6) (C := RX0) (T := TX0) (N := 14) hx hb htG inX0 hown hK hP 0 rfl rfl 6 (by decide) (htG _ wd_46) (fun _ h9 => h9) rfl dX0_add_76 ?_
            refine lv_iload_n hx hb dX0_add_79 rfl (lv_at hl 2 rfl) ?_
            refine lv_iload_n hx hb dX0_add_80 rfl (lv_at hl 4 rfl) ?_
            refine vp_callSi (va_runS (As := [.int p0, .int p2]) (rest := [.int xf6]) ⟨hx, hb, hml, hown, htG⟩ (mX0_homeAlignment l p0 p2) (va_cwS 2 htG (wG_S wd_211 wd_212 wd_22 wd_213) rfl rfl rfl (by decide +kernel) ⟨Nat.le_of_ble_eq_true rfl, Nat.le_of_ble_eq_true rfl⟩) ⟨fun _ _ _ _ q => q, fun U hU hW => ⟨rfl, trivial⟩⟩ rfl rfl hl.1 rfl (lv_room (Nat.le_of_ble_eq_true rfl)) dX0_add_81 ⟨Nat.le_of_ble_eq_true rfl, Nat.le_of_ble_eq_true rfl⟩).run (fun r_2 er_2 => ?_)
            subst er_2
            refine vp_callSi (va_runS (As := [.int xf6, .int (fX0_homeAlignment p0 p2)]) (rest := []) ⟨hx, hb, hml, hown, htG⟩ (mX0_fill l xf6 (fX0_homeAlignment p0 p2)) (va_cwS 2 htG (wG_S wd_92 wd_93 wd_22 wd_94) rfl rfl rfl (by decide +kernel) ⟨Nat.le_of_ble_eq_true rfl, Nat.le_of_ble_eq_true rfl⟩) ⟨fun _ _ _ _ q => q, fun U hU hW => ⟨rfl, trivial⟩⟩ rfl rfl hl.1 rfl (lv_room (Nat.le_of_ble_eq_true rfl)) dX0_add_84 ⟨Nat.le_of_ble_eq_true rfl, Nat.le_of_ble_eq_true rfl⟩).run (fun r_3 er_3 => ?_)
            subst er_3
            refine lv_istore (lv' := [(5, .int (fX0_fill xf6 (fX0_homeAlignment p0 p2))), (4, .int (fX0_bytesOf p0 p1)), (0, .ref xh0), (1, .int p0), (2, .int p1), (3, .int p2)]) hx hb dX0_add_87 hl (by decide) rfl (fun ls hl => ?_)
            refine lv_iload hx hb dX0_add_89 (lv_at hl 0 rfl) ?_
            refine lv_iload hx hb dX0_add_91 (lv_at hl 1 rfl) ?_
            refine lv_iconst (v := 4) hx hb dX0_add_93 (by decide) ?_
            refine vp_callSi (va_runS (As := [.int (fX0_bytesOf p0 p1), .int 4]) (rest := [.int (fX0_fill xf6 (fX0_homeAlignment p0 p2))]) ⟨hx, hb, hml, hown, htG⟩ (mX0_fill l (fX0_bytesOf p0 p1) 4) (va_cwS 2 htG (wG_S wd_92 wd_93 wd_22 wd_94) rfl rfl rfl (by decide +kernel) ⟨Nat.le_of_ble_eq_true rfl, Nat.le_of_ble_eq_true rfl⟩) ⟨fun _ _ _ _ q => q, fun U hU hW => ⟨rfl, trivial⟩⟩ rfl rfl hl.1 rfl (lv_room (Nat.le_of_ble_eq_true rfl)) dX0_add_94 ⟨Nat.le_of_ble_eq_true rfl, Nat.le_of_ble_eq_true rfl⟩).run (fun r_4 er_4 => ?_)
            subst er_4
            refine lv_iadd hx hb dX0_add_97 ?_
            refine lv_istore (lv' := [(6, .int ((fX0_fill xf6 (fX0_homeAlignment p0 p2)) + (fX0_fill (fX0_bytesOf p0 p1) 4))), (5, .int (fX0_fill xf6 (fX0_homeAlignment p0 p2))), (4, .int (fX0_bytesOf p0 p1)), (0, .ref xh0), (1, .int p0), (2, .int p1), (3, .int p2)]) hx hb dX0_add_98 hl (by decide) rfl (fun ls hl => ?_)
            refine lv_iload hx hb dX0_add_100 (lv_at hl 0 rfl) ?_
            refine lv_ldc (v := 1000000) hx hb hown (htG _ wd_214) dX0_add_102 ?_
            refine lv_icmp_le (tgt := 117) hx hb dX0_add_104 (by decide) (fun c_6 => ?_) (fun c_6 => ?_)
            · refine lv_aload_n hx hb dX0_add_117 rfl (lv_at hl 3 rfl) ?_
              refine va_get (D := (dC, dI)) (ci := 0) (v := .ref xh1) (C := RX0) (T := TX0) (N := 14) hx hb htG inX0 hown hK hP 0 rfl rfl 0 (by decide) (htG _ wd_40) (fun _ h9 => h9) rfl dX0_add_118 ?_
              refine lv_aload_n hx hb dX0_add_121 rfl (lv_at hl 3 rfl) ?_
              refine va_get (D := (dC, dI)) (ci := 0) (v := .int xf3) (C := RX0) (T := TX0) (N := 14) hx hb htG inX0 hown hK hP 0 rfl rfl 3 (by decide) (htG _ wd_43) (fun _ h9 => h9) rfl dX0_add_122 ?_
              refine lv_iload_n hx hb dX0_add_125 rfl (lv_at hl 4 rfl) ?_
              refine va_iast hx hb hK hP hD hS 1 0 rfl rfl (in_lt (M := 60) (by decide) c_4 c_5) dX0_add_126 (fun H locs hP hD hS => ?_)
              have hP : va_P (dC, dI) vwCl (xW xh0 xh1 xh2 xh3 xc1 xc2 xc3 (upd xk1 (xf3 : Int32).toNatClampNeg p0) xk2 xk3 xf3 xf4 xf5 xf6 xf7 xf8 xf9 xf10 xf11 xf12 xf13) H := hP
              have hD : va_D A (xW xh0 xh1 xh2 xh3 xc1 xc2 xc3 (upd xk1 (xf3 : Int32).toNatClampNeg p0) xk2 xk3 xf3 xf4 xf5 xf6 xf7 xf8 xf9 xf10 xf11 xf12 xf13) := hD
              refine lv_aload_n hx hb dX0_add_127 rfl (lv_at hl 3 rfl) ?_
              refine va_get (D := (dC, dI)) (ci := 0) (v := .ref xh2) (C := RX0) (T := TX0) (N := 14) hx hb htG inX0 hown hK hP 0 rfl rfl 1 (by decide) (htG _ wd_41) (fun _ h9 => h9) rfl dX0_add_128 ?_
              refine lv_aload_n hx hb dX0_add_131 rfl (lv_at hl 3 rfl) ?_
              refine va_get (D := (dC, dI)) (ci := 0) (v := .int xf3) (C := RX0) (T := TX0) (N := 14) hx hb htG inX0 hown hK hP 0 rfl rfl 3 (by decide) (htG _ wd_43) (fun _ h9 => h9) rfl dX0_add_132 ?_
              refine lv_iload hx hb dX0_add_135 (lv_at hl 1 rfl) ?_
              refine va_iast hx hb hK hP hD hS 2 1 rfl rfl (in_lt (M := 60) (by decide) c_4 c_5) dX0_add_137 (fun H locs hP hD hS => ?_)
              have hP : va_P (dC, dI) vwCl (xW xh0 xh1 xh2 xh3 xc1 xc2 xc3 (upd xk1 (xf3 : Int32).toNatClampNeg p0) (upd xk2 (xf3 : Int32).toNatClampNeg (fX0_fill xf6 (fX0_homeAlignment p0 p2))) xk3 xf3 xf4 xf5 xf6 xf7 xf8 xf9 xf10 xf11 xf12 xf13) H := hP
              have hD : va_D A (xW xh0 xh1 xh2 xh3 xc1 xc2 xc3 (upd xk1 (xf3 : Int32).toNatClampNeg p0) (upd xk2 (xf3 : Int32).toNatClampNeg (fX0_fill xf6 (fX0_homeAlignment p0 p2))) xk3 xf3 xf4 xf5 xf6 xf7 xf8 xf9 xf10 xf11 xf12 xf13) := hD
              refine lv_aload_n hx hb dX0_add_138 rfl (lv_at hl 3 rfl) ?_
              refine va_get (D := (dC, dI)) (ci := 0) (v := .ref xh3) (C := RX0) (T := TX0) (N := 14) hx hb htG inX0 hown hK hP 0 rfl rfl 2 (by decide) (htG _ wd_42) (fun _ h9 => h9) rfl dX0_add_139 ?_
              refine lv_aload_n hx hb dX0_add_142 rfl (lv_at hl 3 rfl) ?_
              refine va_get (D := (dC, dI)) (ci := 0) (v := .int xf3) (C := RX0) (T := TX0) (N := 14) hx hb htG inX0 hown hK hP 0 rfl rfl 3 (by decide) (htG _ wd_43) (fun _ h9 => h9) rfl dX0_add_143 ?_
              refine lv_iload hx hb dX0_add_146 (lv_at hl 2 rfl) ?_
              refine va_iast hx hb hK hP hD hS 3 2 rfl rfl (in_lt (M := 60) (by decide) c_4 c_5) dX0_add_148 (fun H locs hP hD hS => ?_)
              have hP : va_P (dC, dI) vwCl (xW xh0 xh1 xh2 xh3 xc1 xc2 xc3 (upd xk1 (xf3 : Int32).toNatClampNeg p0) (upd xk2 (xf3 : Int32).toNatClampNeg (fX0_fill xf6 (fX0_homeAlignment p0 p2))) (upd xk3 (xf3 : Int32).toNatClampNeg (fX0_bytesOf p0 p1)) xf3 xf4 xf5 xf6 xf7 xf8 xf9 xf10 xf11 xf12 xf13) H := hP
              have hD : va_D A (xW xh0 xh1 xh2 xh3 xc1 xc2 xc3 (upd xk1 (xf3 : Int32).toNatClampNeg p0) (upd xk2 (xf3 : Int32).toNatClampNeg (fX0_fill xf6 (fX0_homeAlignment p0 p2))) (upd xk3 (xf3 : Int32).toNatClampNeg (fX0_bytesOf p0 p1)) xf3 xf4 xf5 xf6 xf7 xf8 xf9 xf10 xf11 xf12 xf13) := hD
              refine lv_aload_n hx hb dX0_add_149 rfl (lv_at hl 3 rfl) ?_
              refine lv_dup hx hb dX0_add_150 rfl ?_
              refine va_get (D := (dC, dI)) (ci := 0) (v := .int xf3) (C := RX0) (T := TX0) (N := 14) hx hb htG inX0 hown hK hP 0 rfl rfl 3 (by decide) (htG _ wd_43) (fun _ h9 => h9) rfl dX0_add_151 ?_
              refine lv_iconst (v := 1) hx hb dX0_add_154 (by decide) ?_
              refine lv_iadd hx hb dX0_add_155 ?_
              refine va_put (D := (dC, dI)) (ci := 0) (v := .int (xf3 + 1)) (ty := .int) (C := RX0) (T := TX0) (N := 14) hx hb htG inX0 tyX0 tyX0_ok nmX0 hown hK hP hD hS 0 rfl rfl 3 (by decide) (htG _ wd_43) (fun _ h9 => h9) rfl (by decide +kernel) rfl rfl (Nat.le_of_ble_eq_true rfl) dX0_add_156 (fun H locs hP hD hS => ?_)
              have hP : va_P (dC, dI) vwCl (xW xh0 xh1 xh2 xh3 xc1 xc2 xc3 (upd xk1 (xf3 : Int32).toNatClampNeg p0) (upd xk2 (xf3 : Int32).toNatClampNeg (fX0_fill xf6 (fX0_homeAlignment p0 p2))) (upd xk3 (xf3 : Int32).toNatClampNeg (fX0_bytesOf p0 p1)) (xf3 + 1) xf4 xf5 xf6 xf7 xf8 xf9 xf10 xf11 xf12 xf13) H := hP
              have hD : va_D A (xW xh0 xh1 xh2 xh3 xc1 xc2 xc3 (upd xk1 (xf3 : Int32).toNatClampNeg p0) (upd xk2 (xf3 : Int32).toNatClampNeg (fX0_fill xf6 (fX0_homeAlignment p0 p2))) (upd xk3 (xf3 : Int32).toNatClampNeg (fX0_bytesOf p0 p1)) (xf3 + 1) xf4 xf5 xf6 xf7 xf8 xf9 xf10 xf11 xf12 xf13) := hD
              refine lv_aload_n hx hb dX0_add_159 rfl (lv_at hl 3 rfl) ?_
              refine lv_iload hx hb dX0_add_160 (lv_at hl 0 rfl) ?_
              refine va_put (D := (dC, dI)) (ci := 0) (v := .int ((fX0_fill xf6 (fX0_homeAlignment p0 p2)) + (fX0_fill (fX0_bytesOf p0 p1) 4))) (ty := .int) (C := RX0) (T := TX0) (N := 14) hx hb htG inX0 tyX0 tyX0_ok nmX0 hown hK hP hD hS 0 rfl rfl 6 (by decide) (htG _ wd_46) (fun _ h9 => h9) rfl (by decide +kernel) rfl rfl (Nat.le_of_ble_eq_true rfl) dX0_add_162 (fun H locs hP hD hS => ?_)
              have hP : va_P (dC, dI) vwCl (xW xh0 xh1 xh2 xh3 xc1 xc2 xc3 (upd xk1 (xf3 : Int32).toNatClampNeg p0) (upd xk2 (xf3 : Int32).toNatClampNeg (fX0_fill xf6 (fX0_homeAlignment p0 p2))) (upd xk3 (xf3 : Int32).toNatClampNeg (fX0_bytesOf p0 p1)) (xf3 + 1) xf4 xf5 ((fX0_fill xf6 (fX0_homeAlignment p0 p2)) + (fX0_fill (fX0_bytesOf p0 p1) 4)) xf7 xf8 xf9 xf10 xf11 xf12 xf13) H := hP
              have hD : va_D A (xW xh0 xh1 xh2 xh3 xc1 xc2 xc3 (upd xk1 (xf3 : Int32).toNatClampNeg p0) (upd xk2 (xf3 : Int32).toNatClampNeg (fX0_fill xf6 (fX0_homeAlignment p0 p2))) (upd xk3 (xf3 : Int32).toNatClampNeg (fX0_bytesOf p0 p1)) (xf3 + 1) xf4 xf5 ((fX0_fill xf6 (fX0_homeAlignment p0 p2)) + (fX0_fill (fX0_bytesOf p0 p1) 4)) xf7 xf8 xf9 xf10 xf11 xf12 xf13) := hD
              refine lv_iload hx hb dX0_add_165 (lv_at hl 1 rfl) ?_
              refine W.widen (k := 1) (n := 6) (Nat.le_of_ble_eq_true rfl) (Nat.le_of_ble_eq_true rfl) ?_
              exact vx_ret (W.iret (v := (fX0_fill xf6 (fX0_homeAlignment p0 p2))) hx hb hr (fun t ht hW => ⟨⟨(fX0_fill xf6 (fX0_homeAlignment p0 p2)), ((upd xk1 (xf3 : Int32).toNatClampNeg p0), (upd xk2 (xf3 : Int32).toNatClampNeg (fX0_fill xf6 (fX0_homeAlignment p0 p2))), (upd xk3 (xf3 : Int32).toNatClampNeg (fX0_bytesOf p0 p1)), (xf3 + 1), xf4, xf5, ((fX0_fill xf6 (fX0_homeAlignment p0 p2)) + (fX0_fill (fX0_bytesOf p0 p1) 4)), xf7, xf8, xf9, xf10, xf11, xf12, xf13), rfl, (by rw [fX0_add, if_neg c_1, if_pos c_2, if_neg c_3, if_neg c_4, if_pos c_5, if_pos c_6]), by rw [ht]; exact hP, va_K.moved hW.alike hK, hD⟩, hS.F ht⟩) hS.2.2 dX0_add_167)
            · obtain ⟨sa, hstr⟩ := hZ.2.2.2.2.2.2.2.1
              exact vx_throwS (own := RX0) (cls := "java/lang/IllegalStateException") (names := ["java/lang/RuntimeException", "java/lang/Exception"]) hx hb hl9 hown (by decide +kernel) (by decide +kernel) (htG _ wd_192) (htG _ wd_28) hstr (vx_hat (L := vx_atS RX0 73 "java/lang/IllegalStateException" ["java/lang/RuntimeException", "java/lang/Exception"]) (B := [.castable "java/lang/IllegalStateException" "java/lang/IllegalStateException", .declares ⟨"java/lang/RuntimeException", "<init>", "(Ljava/lang/String;)V"⟩, .declares ⟨"java/lang/Exception", "<init>", "(Ljava/lang/String;)V"⟩, .declares ⟨"java/lang/Throwable", "<init>", "(Ljava/lang/String;)V"⟩]) (fun w hw => htG w (xg_73 w hw)) (by decide +kernel) (vx_c (va_Nw.use rfl hZ.2.2.1.2.2.2.2.1) (vx_c (va_Nw.use rfl hZ.2.2.1.2.1) (vx_c (va_Nw.use rfl hZ.2.2.1.2.2.1) (vx_c (va_Nw.use rfl hZ.2.2.1.2.2.2.1) (vx_n)))))) (by decide +kernel) hZ.1 hZ.2.1 hS (hl.1.trans hml.symm) dX0_add_107 dX0_add_110 dX0_add_111 dX0_add_113 dX0_add_116 (fun x hx => (hEx x hx).elim) (Nat.le_of_ble_eq_true rfl) (Nat.le_of_ble_eq_true rfl) (Nat.le_of_ble_eq_true rfl) (Nat.le_of_ble_eq_true rfl) hlocks (fun t ha hsz hk => ⟨(), trivial, ⟨Or.inr ⟨rfl, (by rw [fX0_add, if_neg c_1, if_pos c_2, if_neg c_3, if_neg c_4, if_pos c_5, if_neg c_6])⟩, hP.kept (fun k q hq => hk q.1 (hP k q hq).lt), va_K.moved ha hK, hD⟩, Nat.le_trans hS.1 hsz, fun q h1 h2 => (hk q (Nat.lt_of_lt_of_le h1 hS.1)).trans (hS.2.1 q h1 h2)⟩) hS.2.2 (Nat.le_of_ble_eq_true rfl) (Nat.le_of_ble_eq_true rfl)
          · obtain ⟨sa, hstr⟩ := hZ.2.2.2.2.2.2.1
            exact vx_throwS (own := RX0) (cls := "java/lang/IllegalStateException") (names := ["java/lang/RuntimeException", "java/lang/Exception"]) hx hb hl9 hown (by decide +kernel) (by decide +kernel) (htG _ wd_192) (htG _ wd_28) hstr (vx_hat (L := vx_atS RX0 73 "java/lang/IllegalStateException" ["java/lang/RuntimeException", "java/lang/Exception"]) (B := [.castable "java/lang/IllegalStateException" "java/lang/IllegalStateException", .declares ⟨"java/lang/RuntimeException", "<init>", "(Ljava/lang/String;)V"⟩, .declares ⟨"java/lang/Exception", "<init>", "(Ljava/lang/String;)V"⟩, .declares ⟨"java/lang/Throwable", "<init>", "(Ljava/lang/String;)V"⟩]) (fun w hw => htG w (xg_73 w hw)) (by decide +kernel) (vx_c (va_Nw.use rfl hZ.2.2.1.2.2.2.2.1) (vx_c (va_Nw.use rfl hZ.2.2.1.2.1) (vx_c (va_Nw.use rfl hZ.2.2.1.2.2.1) (vx_c (va_Nw.use rfl hZ.2.2.1.2.2.2.1) (vx_n)))))) (by decide +kernel) hZ.1 hZ.2.1 hS (hl.1.trans hml.symm) dX0_add_58 dX0_add_61 dX0_add_62 dX0_add_64 dX0_add_67 (fun x hx => (hEx x hx).elim) (Nat.le_of_ble_eq_true rfl) (Nat.le_of_ble_eq_true rfl) (Nat.le_of_ble_eq_true rfl) (Nat.le_of_ble_eq_true rfl) hlocks (fun t ha hsz hk => ⟨(), trivial, ⟨Or.inr ⟨rfl, (by rw [fX0_add, if_neg c_1, if_pos c_2, if_neg c_3, if_neg c_4, if_neg c_5])⟩, hP.kept (fun k q hq => hk q.1 (hP k q hq).lt), va_K.moved ha hK, hD⟩, Nat.le_trans hS.1 hsz, fun q h1 h2 => (hk q (Nat.lt_of_lt_of_le h1 hS.1)).trans (hS.2.1 q h1 h2)⟩) hS.2.2 (Nat.le_of_ble_eq_true rfl) (Nat.le_of_ble_eq_true rfl)
      · refine lv_iload_n hx hb dX0_add_24 rfl (lv_at hl 2 rfl) ?_
        refine lv_iload_n hx hb dX0_add_25 rfl (lv_at hl 3 rfl) ?_
        refine vp_callSi (va_runS (As := [.int p1, .int p2]) (rest := []) ⟨hx, hb, hml, hown, htG⟩ (mX0_isRecord l p1 p2) (va_cwS 2 htG (wG_S wd_178 wd_179 wd_22 wd_180) rfl rfl rfl (by decide +kernel) ⟨Nat.le_of_ble_eq_true rfl, Nat.le_of_ble_eq_true rfl⟩) ⟨fun _ _ _ _ q => q, fun U hU hW => ⟨rfl, trivial⟩⟩ rfl rfl hl.1 rfl (lv_room (Nat.le_of_ble_eq_true rfl)) dX0_add_26 ⟨Nat.le_of_ble_eq_true rfl, Nat.le_of_ble_eq_true rfl⟩).run (fun r_5 er_5 => ?_)
        subst er_5
        refine lv_if_ne (tgt := 42) hx hb dX0_add_29 (by decide) (fun c_7 => ?_) (fun c_7 => ?_)
        · refine lv_aload_n hx hb dX0_add_42 rfl (lv_at hl 0 rfl) ?_
          refine va_get (D := (dC, dI)) (ci := 0) (v := .int xf3) (C := RX0) (T := TX0) (N := 14) hx hb htG inX0 hown hK hP 0 rfl rfl 3 (by decide) (htG _ wd_43) (fun _ h9 => h9) rfl dX0_add_43 ?_
          refine lv_if_lt (tgt := 58) hx hb dX0_add_46 (by decide) (fun c_8 => ?_) (fun c_8 => ?_)
          · obtain ⟨sa, hstr⟩ := hZ.2.2.2.2.2.2.1
            exact vx_throwS (own := RX0) (cls := "java/lang/IllegalStateException") (names := ["java/lang/RuntimeException", "java/lang/Exception"]) hx hb hl9 hown (by decide +kernel) (by decide +kernel) (htG _ wd_192) (htG _ wd_28) hstr (vx_hat (L := vx_atS RX0 73 "java/lang/IllegalStateException" ["java/lang/RuntimeException", "java/lang/Exception"]) (B := [.castable "java/lang/IllegalStateException" "java/lang/IllegalStateException", .declares ⟨"java/lang/RuntimeException", "<init>", "(Ljava/lang/String;)V"⟩, .declares ⟨"java/lang/Exception", "<init>", "(Ljava/lang/String;)V"⟩, .declares ⟨"java/lang/Throwable", "<init>", "(Ljava/lang/String;)V"⟩]) (fun w hw => htG w (xg_73 w hw)) (by decide +kernel) (vx_c (va_Nw.use rfl hZ.2.2.1.2.2.2.2.1) (vx_c (va_Nw.use rfl hZ.2.2.1.2.1) (vx_c (va_Nw.use rfl hZ.2.2.1.2.2.1) (vx_c (va_Nw.use rfl hZ.2.2.1.2.2.2.1) (vx_n)))))) (by decide +kernel) hZ.1 hZ.2.1 hS (hl.1.trans hml.symm) dX0_add_58 dX0_add_61 dX0_add_62 dX0_add_64 dX0_add_67 (fun x hx => (hEx x hx).elim) (Nat.le_of_ble_eq_true rfl) (Nat.le_of_ble_eq_true rfl) (Nat.le_of_ble_eq_true rfl) (Nat.le_of_ble_eq_true rfl) hlocks (fun t ha hsz hk => ⟨(), trivial, ⟨Or.inr ⟨rfl, (by rw [fX0_add, if_neg c_1, if_pos c_2, if_pos c_3, if_neg c_7, if_pos c_8])⟩, hP.kept (fun k q hq => hk q.1 (hP k q hq).lt), va_K.moved ha hK, hD⟩, Nat.le_trans hS.1 hsz, fun q h1 h2 => (hk q (Nat.lt_of_lt_of_le h1 hS.1)).trans (hS.2.1 q h1 h2)⟩) hS.2.2 (Nat.le_of_ble_eq_true rfl) (Nat.le_of_ble_eq_true rfl)
          · refine lv_aload_n hx hb dX0_add_49 rfl (lv_at hl 0 rfl) ?_
            refine va_get (D := (dC, dI)) (ci := 0) (v := .int xf3) (C := RX0) (T := TX0) (N := 14) hx hb htG inX0 hown hK hP 0 rfl rfl 3 (by decide) (htG _ wd_43) (fun _ h9 => h9) rfl dX0_add_50 ?_
            refine lv_bipush (v := 60) hx hb dX0_add_53 (by decide) ?_
            refine lv_icmp_lt (tgt := 68) hx hb dX0_add_55 (by decide) (fun c_9 => ?_) (fun c_9 => ?_)
            · refine lv_iload_n hx hb dX0_add_68 rfl (lv_at hl 1 rfl) ?_
              refine lv_iload_n hx hb dX0_add_69 rfl (lv_at hl 2 rfl) ?_
              refine vp_callSi (va_runS (As := [.int p0, .int p1]) (rest := []) ⟨hx, hb, hml, hown, htG⟩ (mX0_bytesOf l p0 p1) (va_cwS 2 htG (wG_S wd_208 wd_209 wd_22 wd_210) rfl rfl rfl (by decide +kernel) ⟨Nat.le_of_ble_eq_true rfl, Nat.le_of_ble_eq_true rfl⟩) ⟨fun _ _ _ _ q => q, fun U hU hW => ⟨rfl, trivial⟩⟩ rfl rfl hl.1 rfl (lv_room (Nat.le_of_ble_eq_true rfl)) dX0_add_70 ⟨Nat.le_of_ble_eq_true rfl, Nat.le_of_ble_eq_true rfl⟩).run (fun r_6 er_6 => ?_)
              subst er_6
              refine lv_istore (lv' := [(4, .int (fX0_bytesOf p0 p1)), (0, .ref xh0), (1, .int p0), (2, .int p1), (3, .int p2)]) hx hb dX0_add_73 hl (by decide) rfl (fun ls hl => ?_)
              refine lv_aload_n hx hb dX0_add_75 rfl (lv_at hl 1 rfl) ?_
              refine va_get (D := (dC, dI)) (ci := 0) (v := .int xf6) (C := RX0) (T := TX0) (N := 14) hx hb htG inX0 hown hK hP 0 rfl rfl 6 (by decide) (htG _ wd_46) (fun _ h9 => h9) rfl dX0_add_76 ?_
              refine lv_iload_n hx hb dX0_add_79 rfl (lv_at hl 2 rfl) ?_
              refine lv_iload_n hx hb dX0_add_80 rfl (lv_at hl 4 rfl) ?_
              refine vp_callSi (va_runS (As := [.int p0, .int p2]) (rest := [.int xf6]) ⟨hx, hb, hml, hown, htG⟩ (mX0_homeAlignment l p0 p2) (va_cwS 2 htG (wG_S wd_211 wd_212 wd_22 wd_213) rfl rfl rfl (by decide +kernel) ⟨Nat.le_of_ble_eq_true rfl, Nat.le_of_ble_eq_true rfl⟩) ⟨fun _ _ _ _ q => q, fun U hU hW => ⟨rfl, trivial⟩⟩ rfl rfl hl.1 rfl (lv_room (Nat.le_of_ble_eq_true rfl)) dX0_add_81 ⟨Nat.le_of_ble_eq_true rfl, Nat.le_of_ble_eq_true rfl⟩).run (fun r_7 er_7 => ?_)
              subst er_7
              refine vp_callSi (va_runS (As := [.int xf6, .int (fX0_homeAlignment p0 p2)]) (rest := []) ⟨hx, hb, hml, hown, htG⟩ (mX0_fill l xf6 (fX0_homeAlignment p0 p2)) (va_cwS 2 htG (wG_S wd_92 wd_93 wd_22 wd_94) rfl rfl rfl (by decide +kernel) ⟨Nat.le_of_ble_eq_true rfl, Nat.le_of_ble_eq_true rfl⟩) ⟨fun _ _ _ _ q => q, fun U hU hW => ⟨rfl, trivial⟩⟩ rfl rfl hl.1 rfl (lv_room (Nat.le_of_ble_eq_true rfl)) dX0_add_84 ⟨Nat.le_of_ble_eq_true rfl, Nat.le_of_ble_eq_true rfl⟩).run (fun r_8 er_8 => ?_)
              subst er_8
              refine lv_istore (lv' := [(5, .int (fX0_fill xf6 (fX0_homeAlignment p0 p2))), (4, .int (fX0_bytesOf p0 p1)), (0, .ref xh0), (1, .int p0), (2, .int p1), (3, .int p2)]) hx hb dX0_add_87 hl (by decide) rfl (fun ls hl => ?_)
              refine lv_iload hx hb dX0_add_89 (lv_at hl 0 rfl) ?_
              refine lv_iload hx hb dX0_add_91 (lv_at hl 1 rfl) ?_
              refine lv_iconst (v := 4) hx hb dX0_add_93 (by decide) ?_
              refine vp_callSi (va_runS (As := [.int (fX0_bytesOf p0 p1), .int 4]) (rest := [.int (fX0_fill xf6 (fX0_homeAlignment p0 p2))]) ⟨hx, hb, hml, hown, htG⟩ (mX0_fill l (fX0_bytesOf p0 p1) 4) (va_cwS 2 htG (wG_S wd_92 wd_93 wd_22 wd_94) rfl rfl rfl (by decide +kernel) ⟨Nat.le_of_ble_eq_true rfl, Nat.le_of_ble_eq_true rfl⟩) ⟨fun _ _ _ _ q => q, fun U hU hW => ⟨rfl, trivial⟩⟩ rfl rfl hl.1 rfl (lv_room (Nat.le_of_ble_eq_true rfl)) dX0_add_94 ⟨Nat.le_of_ble_eq_true rfl, Nat.le_of_ble_eq_true rfl⟩).run (fun r_9 er_9 => ?_)
              subst er_9
              refine lv_iadd hx hb dX0_add_97 ?_
              refine lv_istore (lv' := [(6, .int ((fX0_fill xf6 (fX0_homeAlignment p0 p2)) + (fX0_fill (fX0_bytesOf p0 p1) 4))), (5, .int (fX0_fill xf6 (fX0_homeAlignment p0 p2))), (4, .int (fX0_bytesOf p0 p1)), (0, .ref xh0), (1, .int p0), (2, .int p1), (3, .int p2)]) hx hb dX0_add_98 hl (by decide) rfl (fun ls hl => ?_)
              refine lv_iload hx hb dX0_add_100 (lv_at hl 0 rfl) ?_
              refine lv_ldc (v := 1000000) hx hb hown (htG _ wd_214) dX0_add_102 ?_
              refine lv_icmp_le (tgt := 117) hx hb dX0_add_104 (by decide) (fun c_10 => ?_) (fun c_10 => ?_)
              · refine lv_aload_n hx hb dX0_add_117 rfl (lv_at hl 3 rfl) ?_
                refine va_get (D := (dC, dI)) (ci := 0) (v := .ref xh1) (C := RX0) (T := TX0) (N := 14) hx hb htG inX0 hown hK hP 0 rfl rfl 0 (by decide) (htG _ wd_40) (fun _ h9 => h9) rfl dX0_add_118 ?_
                refine lv_aload_n hx hb dX0_add_121 rfl (lv_at hl 3 rfl) ?_
                refine va_get (D := (dC, dI)) (ci := 0) (v := .int xf3) (C := RX0) (T := TX0) (N := 14) hx hb htG inX0 hown hK hP 0 rfl rfl 3 (by decide) (htG _ wd_43) (fun _ h9 => h9) rfl dX0_add_122 ?_
                refine lv_iload_n hx hb dX0_add_125 rfl (lv_at hl 4 rfl) ?_
                refine va_iast hx hb hK hP hD hS 1 0 rfl rfl (in_lt (M := 60) (by decide) c_8 c_9) dX0_add_126 (fun H locs hP hD hS => ?_)
                have hP : va_P (dC, dI) vwCl (xW xh0 xh1 xh2 xh3 xc1 xc2 xc3 (upd xk1 (xf3 : Int32).toNatClampNeg p0) xk2 xk3 xf3 xf4 xf5 xf6 xf7 xf8 xf9 xf10 xf11 xf12 xf13) H := hP
                have hD : va_D A (xW xh0 xh1 xh2 xh3 xc1 xc2 xc3 (upd xk1 (xf3 : Int32).toNatClampNeg p0) xk2 xk3 xf3 xf4 xf5 xf6 xf7 xf8 xf9 xf10 xf11 xf12 xf13) := hD
                refine lv_aload_n hx hb dX0_add_127 rfl (lv_at hl 3 rfl) ?_
                refine va_get (D := (dC, dI)) (ci := 0) (v := .ref xh2) (C := RX0) (T := TX0) (N := 14) hx hb htG inX0 hown hK hP 0 rfl rfl 1 (by decide) (htG _ wd_41) (fun _ h9 => h9) rfl dX0_add_128 ?_
                refine lv_aload_n hx hb dX0_add_131 rfl (lv_at hl 3 rfl) ?_
                refine va_get (D := (dC, dI)) (ci := 0) (v := .int xf3) (C := RX0) (T := TX0) (N := 14) hx hb htG inX0 hown hK hP 0 rfl rfl 3 (by decide) (htG _ wd_43) (fun _ h9 => h9) rfl dX0_add_132 ?_
                refine lv_iload hx hb dX0_add_135 (lv_at hl 1 rfl) ?_
                refine va_iast hx hb hK hP hD hS 2 1 rfl rfl (in_lt (M := 60) (by decide) c_8 c_9) dX0_add_137 (fun H locs hP hD hS => ?_)
                have hP : va_P (dC, dI) vwCl (xW xh0 xh1 xh2 xh3 xc1 xc2 xc3 (upd xk1 (xf3 : Int32).toNatClampNeg p0) (upd xk2 (xf3 : Int32).toNatClampNeg (fX0_fill xf6 (fX0_homeAlignment p0 p2))) xk3 xf3 xf4 xf5 xf6 xf7 xf8 xf9 xf10 xf11 xf12 xf13) H := hP
                have hD : va_D A (xW xh0 xh1 xh2 xh3 xc1 xc2 xc3 (upd xk1 (xf3 : Int32).toNatClampNeg p0) (upd xk2 (xf3 : Int32).toNatClampNeg (fX0_fill xf6 (fX0_homeAlignment p0 p2))) xk3 xf3 xf4 xf5 xf6 xf7 xf8 xf9 xf10 xf11 xf12 xf13) := hD
                refine lv_aload_n hx hb dX0_add_138 rfl (lv_at hl 3 rfl) ?_
                refine va_get (D := (dC, dI)) (ci := 0) (v := .ref xh3) (C := RX0) (T := TX0) (N := 14) hx hb htG inX0 hown hK hP 0 rfl rfl 2 (by decide) (htG _ wd_42) (fun _ h9 => h9) rfl dX0_add_139 ?_
                refine lv_aload_n hx hb dX0_add_142 rfl (lv_at hl 3 rfl) ?_
                refine va_get (D := (dC, dI)) (ci := 0) (v := .int xf3) (C := RX0) (T := TX0) (N := 14) hx hb htG inX0 hown hK hP 0 rfl rfl 3 (by decide) (htG _ wd_43) (fun _ h9 => h9) rfl dX0_add_143 ?_
                refine lv_iload hx hb dX0_add_146 (lv_at hl 2 rfl) ?_
                refine va_iast hx hb hK hP hD hS 3 2 rfl rfl (in_lt (M := 60) (by decide) c_8 c_9) dX0_add_148 (fun H locs hP hD hS => ?_)
                have hP : va_P (dC, dI) vwCl (xW xh0 xh1 xh2 xh3 xc1 xc2 xc3 (upd xk1 (xf3 : Int32).toNatClampNeg p0) (upd xk2 (xf3 : Int32).toNatClampNeg (fX0_fill xf6 (fX0_homeAlignment p0 p2))) (upd xk3 (xf3 : Int32).toNatClampNeg (fX0_bytesOf p0 p1)) xf3 xf4 xf5 xf6 xf7 xf8 xf9 xf10 xf11 xf12 xf13) H := hP
                have hD : va_D A (xW xh0 xh1 xh2 xh3 xc1 xc2 xc3 (upd xk1 (xf3 : Int32).toNatClampNeg p0) (upd xk2 (xf3 : Int32).toNatClampNeg (fX0_fill xf6 (fX0_homeAlignment p0 p2))) (upd xk3 (xf3 : Int32).toNatClampNeg (fX0_bytesOf p0 p1)) xf3 xf4 xf5 xf6 xf7 xf8 xf9 xf10 xf11 xf12 xf13) := hD
                refine lv_aload_n hx hb dX0_add_149 rfl (lv_at hl 3 rfl) ?_
                refine lv_dup hx hb dX0_add_150 rfl ?_
                refine va_get (D := (dC, dI)) (ci := 0) (v := .int xf3) (C := RX0) (T := TX0) (N := 14) hx hb htG inX0 hown hK hP 0 rfl rfl 3 (by decide) (htG _ wd_43) (fun _ h9 => h9) rfl dX0_add_151 ?_
                refine lv_iconst (v := 1) hx hb dX0_add_154 (by decide) ?_
                refine lv_iadd hx hb dX0_add_155 ?_
                refine va_put (D := (dC, dI)) (ci := 0) (v := .int (xf3 + 1)) (ty := .int) (C := RX0) (T := TX0) (N := 14) hx hb htG inX0 tyX0 tyX0_ok nmX0 hown hK hP hD hS 0 rfl rfl 3 (by decide) (htG _ wd_43) (fun _ h9 => h9) rfl (by decide +kernel) rfl rfl (Nat.le_of_ble_eq_true rfl) dX0_add_156 (fun H locs hP hD hS => ?_)
                have hP : va_P (dC, dI) vwCl (xW xh0 xh1 xh2 xh3 xc1 xc2 xc3 (upd xk1 (xf3 : Int32).toNatClampNeg p0) (upd xk2 (xf3 : Int32).toNatClampNeg (fX0_fill xf6 (fX0_homeAlignment p0 p2))) (upd xk3 (xf3 : Int32).toNatClampNeg (fX0_bytesOf p0 p1)) (xf3 + 1) xf4 xf5 xf6 xf7 xf8 xf9 xf10 xf11 xf12 xf13) H := hP
                have hD : va_D A (xW xh0 xh1 xh2 xh3 xc1 xc2 xc3 (upd xk1 (xf3 : Int32).toNatClampNeg p0) (upd xk2 (xf3 : Int32).toNatClampNeg (fX0_fill xf6 (fX0_homeAlignment p0 p2))) (upd xk3 (xf3 : Int32).toNatClampNeg (fX0_bytesOf p0 p1)) (xf3 + 1) xf4 xf5 xf6 xf7 xf8 xf9 xf10 xf11 xf12 xf13) := hD
                refine lv_aload_n hx hb dX0_add_159 rfl (lv_at hl 3 rfl) ?_
                refine lv_iload hx hb dX0_add_160 (lv_at hl 0 rfl) ?_
                refine va_put (D := (dC, dI)) (ci := 0) (v := .int ((fX0_fill xf6 (fX0_homeAlignment p0 p2)) + (fX0_fill (fX0_bytesOf p0 p1) 4))) (ty := .int) (C := RX0) (T := TX0) (N := 14) hx hb htG inX0 tyX0 tyX0_ok nmX0 hown hK hP hD hS 0 rfl rfl 6 (by decide) (htG _ wd_46) (fun _ h9 => h9) rfl (by decide +kernel) rfl rfl (Nat.le_of_ble_eq_true rfl) dX0_add_162 (fun H locs hP hD hS => ?_)
                have hP : va_P (dC, dI) vwCl (xW xh0 xh1 xh2 xh3 xc1 xc2 xc3 (upd xk1 (xf3 : Int32).toNatClampNeg p0) (upd xk2 (xf3 : Int32).toNatClampNeg (fX0_fill xf6 (fX0_homeAlignment p0 p2))) (upd xk3 (xf3 : Int32).toNatClampNeg (fX0_bytesOf p0 p1)) (xf3 + 1) xf4 xf5 ((fX0_fill xf6 (fX0_homeAlignment p0 p2)) + (fX0_fill (fX0_bytesOf p0 p1) 4)) xf7 xf8 xf9 xf10 xf11 xf12 xf13) H := hP
                have hD : va_D A (xW xh0 xh1 xh2 xh3 xc1 xc2 xc3 (upd xk1 (xf3 : Int32).toNatClampNeg p0) (upd xk2 (xf3 : Int32).toNatClampNeg (fX0_fill xf6 (fX0_homeAlignment p0 p2))) (upd xk3 (xf3 : Int32).toNatClampNeg (fX0_bytesOf p0 p1)) (xf3 + 1) xf4 xf5 ((fX0_fill xf6 (fX0_homeAlignment p0 p2)) + (fX0_fill (fX0_bytesOf p0 p1) 4)) xf7 xf8 xf9 xf10 xf11 xf12 xf13) := hD
                refine lv_iload hx hb dX0_add_165 (lv_at hl 1 rfl) ?_
                refine W.widen (k := 1) (n := 6) (Nat.le_of_ble_eq_true rfl) (Nat.le_of_ble_eq_true rfl) ?_
                exact vx_ret (W.iret (v := (fX0_fill xf6 (fX0_homeAlignment p0 p2))) hx hb hr (fun t ht hW => ⟨⟨(fX0_fill xf6 (fX0_homeAlignment p0 p2)), ((upd xk1 (xf3 : Int32).toNatClampNeg p0), (upd xk2 (xf3 : Int32).toNatClampNeg (fX0_fill xf6 (fX0_homeAlignment p0 p2))), (upd xk3 (xf3 : Int32).toNatClampNeg (fX0_bytesOf p0 p1)), (xf3 + 1), xf4, xf5, ((fX0_fill xf6 (fX0_homeAlignment p0 p2)) + (fX0_fill (fX0_bytesOf p0 p1) 4)), xf7, xf8, xf9, xf10, xf11, xf12, xf13), rfl, (by rw [fX0_add, if_neg c_1, if_pos c_2, if_pos c_3, if_neg c_7, if_neg c_8, if_pos c_9, if_pos c_10]), by rw [ht]; exact hP, va_K.moved hW.alike hK, hD⟩, hS.F ht⟩) hS.2.2 dX0_add_167)
              · obtain ⟨sa, hstr⟩ := hZ.2.2.2.2.2.2.2.1
                exact vx_throwS (own := RX0) (cls := "java/lang/IllegalStateException") (names := ["java/lang/RuntimeException", "java/lang/Exception"]) hx hb hl9 hown (by decide +kernel) (by decide +kernel) (htG _ wd_192) (htG _ wd_28) hstr (vx_hat (L := vx_atS RX0 73 "java/lang/IllegalStateException" ["java/lang/RuntimeException", "java/lang/Exception"]) (B := [.castable "java/lang/IllegalStateException" "java/lang/IllegalStateException", .declares ⟨"java/lang/RuntimeException", "<init>", "(Ljava/lang/String;)V"⟩, .declares ⟨"java/lang/Exception", "<init>", "(Ljava/lang/String;)V"⟩, .declares ⟨"java/lang/Throwable", "<init>", "(Ljava/lang/String;)V"⟩]) (fun w hw => htG w (xg_73 w hw)) (by decide +kernel) (vx_c (va_Nw.use rfl hZ.2.2.1.2.2.2.2.1) (vx_c (va_Nw.use rfl hZ.2.2.1.2.1) (vx_c (va_Nw.use rfl hZ.2.2.1.2.2.1) (vx_c (va_Nw.use rfl hZ.2.2.1.2.2.2.1) (vx_n)))))) (by decide +kernel) hZ.1 hZ.2.1 hS (hl.1.trans hml.symm) dX0_add_107 dX0_add_110 dX0_add_111 dX0_add_113 dX0_add_116 (fun x hx => (hEx x hx).elim) (Nat.le_of_ble_eq_true rfl) (Nat.le_of_ble_eq_true rfl) (Nat.le_of_ble_eq_true rfl) (Nat.le_of_ble_eq_true rfl) hlocks (fun t ha hsz hk => ⟨(), trivial, ⟨Or.inr ⟨rfl, (by rw [fX0_add, if_neg c_1, if_pos c_2, if_pos c_3, if_neg c_7, if_neg c_8, if_pos c_9, if_neg c_10])⟩, hP.kept (fun k q hq => hk q.1 (hP k q hq).lt), va_K.moved ha hK, hD⟩, Nat.le_trans hS.1 hsz, fun q h1 h2 => (hk q (Nat.lt_of_lt_of_le h1 hS.1)).trans (hS.2.1 q h1 h2)⟩) hS.2.2 (Nat.le_of_ble_eq_true rfl) (Nat.le_of_ble_eq_true rfl)
            · obtain ⟨sa, hstr⟩ := hZ.2.2.2.2.2.2.1
              exact vx_throwS (own := RX0) (cls := "java/lang/IllegalStateException") (names := ["java/lang/RuntimeException", "java/lang/Exception"]) hx hb hl9 hown (by decide +kernel) (by decide +kernel) (htG _ wd_192) (htG _ wd_28) hstr (vx_hat (L := vx_atS RX0 73 "java/lang/IllegalStateException" ["java/lang/RuntimeException", "java/lang/Exception"]) (B := [.castable "java/lang/IllegalStateException" "java/lang/IllegalStateException", .declares ⟨"java/lang/RuntimeException", "<init>", "(Ljava/lang/String;)V"⟩, .declares ⟨"java/lang/Exception", "<init>", "(Ljava/lang/String;)V"⟩, .declares ⟨"java/lang/Throwable", "<init>", "(Ljava/lang/String;)V"⟩]) (fun w hw => htG w (xg_73 w hw)) (by decide +kernel) (vx_c (va_Nw.use rfl hZ.2.2.1.2.2.2.2.1) (vx_c (va_Nw.use rfl hZ.2.2.1.2.1) (vx_c (va_Nw.use rfl hZ.2.2.1.2.2.1) (vx_c (va_Nw.use rfl hZ.2.2.1.2.2.2.1) (vx_n)))))) (by decide +kernel) hZ.1 hZ.2.1 hS (hl.1.trans hml.symm) dX0_add_58 dX0_add_61 dX0_add_62 dX0_add_64 dX0_add_67 (fun x hx => (hEx x hx).elim) (Nat.le_of_ble_eq_true rfl) (Nat.le_of_ble_eq_true rfl) (Nat.le_of_ble_eq_true rfl) (Nat.le_of_ble_eq_true rfl) hlocks (fun t ha hsz hk => ⟨(), trivial, ⟨Or.inr ⟨rfl, (by rw [fX0_add, if_neg c_1, if_pos c_2, if_pos c_3, if_neg c_7, if_neg c_8, if_neg c_9])⟩, hP.kept (fun k q hq => hk q.1 (hP k q hq).lt), va_K.moved ha hK, hD⟩, Nat.le_trans hS.1 hsz, fun q h1 h2 => (hk q (Nat.lt_of_lt_of_le h1 hS.1)).trans (hS.2.1 q h1 h2)⟩) hS.2.2 (Nat.le_of_ble_eq_true rfl) (Nat.le_of_ble_eq_true rfl)
        · obtain ⟨sa, hstr⟩ := hZ.2.2.2.2.1
          exact vx_throwS (own := RX0) (cls := "java/lang/IllegalArgumentException") (names := ["java/lang/RuntimeException", "java/lang/Exception"]) hx hb hl9 hown (by decide +kernel) (by decide +kernel) (htG _ wd_110) (htG _ wd_27) hstr (vx_hat (L := vx_atS RX0 58 "java/lang/IllegalArgumentException" ["java/lang/RuntimeException", "java/lang/Exception"]) (B := [.castable "java/lang/IllegalArgumentException" "java/lang/IllegalArgumentException", .declares ⟨"java/lang/RuntimeException", "<init>", "(Ljava/lang/String;)V"⟩, .declares ⟨"java/lang/Exception", "<init>", "(Ljava/lang/String;)V"⟩, .declares ⟨"java/lang/Throwable", "<init>", "(Ljava/lang/String;)V"⟩]) (fun w hw => htG w (xg_58 w hw)) (by decide +kernel) (vx_c (va_Nw.use rfl hZ.2.2.1.1) (vx_c (va_Nw.use rfl hZ.2.2.1.2.1) (vx_c (va_Nw.use rfl hZ.2.2.1.2.2.1) (vx_c (va_Nw.use rfl hZ.2.2.1.2.2.2.1) (vx_n)))))) (by decide +kernel) hZ.1 hZ.2.1 hS (hl.1.trans hml.symm) dX0_add_32 dX0_add_35 dX0_add_36 dX0_add_38 dX0_add_41 (fun x hx => (hEx x hx).elim) (Nat.le_of_ble_eq_true rfl) (Nat.le_of_ble_eq_true rfl) (Nat.le_of_ble_eq_true rfl) (Nat.le_of_ble_eq_true rfl) hlocks (fun t ha hsz hk => ⟨(), trivial, ⟨Or.inl ⟨rfl, (by rw [fX0_add, if_neg c_1, if_pos c_2, if_pos c_3, if_pos c_7])⟩, hP.kept (fun k q hq => hk q.1 (hP k q hq).lt), va_K.moved ha hK, hD⟩, Nat.le_trans hS.1 hsz, fun q h1 h2 => (hk q (Nat.lt_of_lt_of_le h1 hS.1)).trans (hS.2.1 q h1 h2)⟩) hS.2.2 (Nat.le_of_ble_eq_true rfl) (Nat.le_of_ble_eq_true rfl)
    · obtain ⟨sa, hstr⟩ := hZ.2.2.2.2.2.1
      exact vx_throwS (own := RX0) (cls := "java/lang/IllegalArgumentException") (names := ["java/lang/RuntimeException", "java/lang/Exception"]) hx hb hl9 hown (by decide +kernel) (by decide +kernel) (htG _ wd_110) (htG _ wd_27) hstr (vx_hat (L := vx_atS RX0 58 "java/lang/IllegalArgumentException" ["java/lang/RuntimeException", "java/lang/Exception"]) (B := [.castable "java/lang/IllegalArgumentException" "java/lang/IllegalArgumentException", .declares ⟨"java/lang/RuntimeException", "<init>", "(Ljava/lang/String;)V"⟩, .declares ⟨"java/lang/Exception", "<init>", "(Ljava/lang/String;)V"⟩, .declares ⟨"java/lang/Throwable", "<init>", "(Ljava/lang/String;)V"⟩]) (fun w hw => htG w (xg_58 w hw)) (by decide +kernel) (vx_c (va_Nw.use rfl hZ.2.2.1.1) (vx_c (va_Nw.use rfl hZ.2.2.1.2.1) (vx_c (va_Nw.use rfl hZ.2.2.1.2.2.1) (vx_c (va_Nw.use rfl hZ.2.2.1.2.2.2.1) (vx_n)))))) (by decide +kernel) hZ.1 hZ.2.1 hS (hl.1.trans hml.symm) dX0_add_9 dX0_add_12 dX0_add_13 dX0_add_15 dX0_add_18 (fun x hx => (hEx x hx).elim) (Nat.le_of_ble_eq_true rfl) (Nat.le_of_ble_eq_true rfl) (Nat.le_of_ble_eq_true rfl) (Nat.le_of_ble_eq_true rfl) hlocks (fun t ha hsz hk => ⟨(), trivial, ⟨Or.inl ⟨rfl, (by rw [fX0_add, if_neg c_1, if_neg c_2])⟩, hP.kept (fun k q hq => hk q.1 (hP k q hq).lt), va_K.moved ha hK, hD⟩, Nat.le_trans hS.1 hsz, fun q h1 h2 => (hk q (Nat.lt_of_lt_of_le h1 hS.1)).trans (hS.2.1 q h1 h2)⟩) hS.2.2 (Nat.le_of_ble_eq_true rfl) (Nat.le_of_ble_eq_true rfl)
end
section
def fX1_thrown (mf0 : Int32) : Int32 :=
  mf0

abbrev wsX1_thrown : List Cond := .code yX1_thrown cX1_thrown 1 (some .int) :: wG
set_option maxHeartbeats 4000000 in
set_option maxRecDepth 100000 in
theorem mX1_thrown (l : Launch) (dC : Nat → ClassId) (dI : Nat → Nat → Nat) (mh0 mh1 mh2 mh3 : Nat) (mc1 mc2 mc3 : ClassId) (mk1 mk2 mk3 : Nat → Int32) (mf0 mf1 mf2 mf3 mf4 mf5 mf6 mf7 mf8 mf9 : Int32)   : Met l yX1_thrown wsX1_thrown ({ frames := 0, cells := 0, slots := 0, locals := 0 }) (va_Pc [.ref mh0] (fun U => va_P (dC, dI) vwCl (mW mh0 mh1 mh2 mh3 mc1 mc2 mc3 mk1 mk2 mk3 mf0 mf1 mf2 mf3 mf4 mf5 mf6 mf7 mf8 mf9) U.heap ∧ va_K (dC, dI) vwCl [(mc1, .int), (mc2, .int), (mc3, .int)] U)) (vp_Si (fun r => r = fX1_thrown mf0)) 0 0 (fun _ => False) := by
  refine Met.ofW (cc := cX1_thrown) (maxL := 1) (ret := (some .int)) (by decide) rfl ?_
  intro p e s m args below meth c s₁ B hml hv
  obtain ⟨rfl, hP, hK⟩ := hv
  have hx := B.exec
  have hb := B.bytes
  have hr := B.returns
  have hts := atoms_spec (ws := wsX1_thrown) B.pre
  have htG := fun (w : Cond) (h : w ∈ wG) => hts w (List.mem_cons_of_mem _ h)
  have hown : s.vm.findClass RX1 = some m.cls := findClass_of_methodNamed B.named
  have hlocks := B.notSynchronized
  have hl := lv_entry ([.ref mh0]) (n := 1) (Nat.le_of_ble_eq_true rfl)
  rw [lg_entry_eq]
  generalize (lg_sl ([.ref mh0]) ++ List.replicate (1 - (lg_sl ([.ref mh0])).length) Slot.unset).toArray = ls at hl ⊢
  have hl : lv_has ls 1 [(0, .ref mh0)] := hl
  refine lv_aload_n hx hb dX1_thrown_0 rfl (lv_at hl 0 rfl) ?_
  refine va_get (D := (dC, dI)) (ci := 1) (v := .int mf0) (C := RX1) (T := TX1) (N := 13) hx hb htG inX1 hown hK hP 0 rfl rfl 0 (by decide) (htG _ wd_331) (fun _ h9 => h9) rfl dX1_thrown_1 ?_
  exact W.iret (v := mf0) hx hb hr (fun t ht hW => ⟨mf0, rfl, (by rw [fX1_thrown]), ht⟩) (fun q h => nomatch h) dX1_thrown_4

def fX1_isGood (p0 p1 p2 p3 : Int32) : Int32 :=
  if p0 < 0 then 0
  else if p0 ≤ p1 then (if p0 = 3 then (if p3 = 1 then (if p2 ≤ 0 then 0
          else if 65536 < p2 then 0
            else if (p2 - p2 / p3 * p3) = 0 then 1
              else 0)
        else if p3 = 2 then (if p2 ≤ 0 then 0
            else if 65536 < p2 then 0
              else if (p2 - p2 / p3 * p3) = 0 then 1
                else 0)
          else if p3 = 4 then (if p2 ≤ 0 then 0
              else if 65536 < p2 then 0
                else if (p2 - p2 / p3 * p3) = 0 then 1
                  else 0)
            else if p3 = 8 then (if p2 ≤ 0 then 0
                else if 65536 < p2 then 0
                  else if (p2 - p2 / p3 * p3) = 0 then 1
                    else 0)
              else 0)
      else 1)
    else 0
theorem bbX1_isGood {p0 p1 p2 p3 : Int32} : fX1_isGood p0 p1 p2 p3 = 0 ∨ fX1_isGood p0 p1 p2 p3 = 1 := by
  unfold fX1_isGood
  repeat' split
  all_goals first | exact Or.inl rfl | exact Or.inr rfl | exact bbX0_isRecord | exact bbX0_isAdded | exact bbX0_isArgument | exact bbX0_isFractional | exact bbX0_isInFraction
theorem nbX1_isGood {p0 p1 p2 p3 : Int32} : narrow .boolean (.int (fX1_isGood p0 p1 p2 p3)) = .int (fX1_isGood p0 p1 p2 p3) := nb_of bbX1_isGood

abbrev wsX1_isGood : List Cond := .code yX1_isGood cX1_isGood 5 (some .boolean) :: wG
set_option maxHeartbeats 4000000 in
set_option maxRecDepth 100000 in
theorem mX1_isGood (l : Launch) (p0 p1 p2 p3 : Int32)  : Met l yX1_isGood wsX1_isGood ({ frames := 0, cells := 0, slots := 0, locals := 0 }) (va_Pc [.int p0, .int p1, .int p2, .int p3] (fun _ => True)) (vp_Si (fun r => r = fX1_isGood p0 p1 p2 p3)) 0 0 (fun _ => False) := by
  refine Met.ofW (cc := cX1_isGood) (maxL := 5) (ret := (some .boolean)) (by decide) rfl ?_
  intro p e s m args below meth c s₁ B hml hv
  obtain ⟨rfl, -⟩ := hv
  have hx := B.exec
  have hb := B.bytes
  have hr := B.returns
  have hts := atoms_spec (ws := wsX1_isGood) B.pre
  have htG := fun (w : Cond) (h : w ∈ wG) => hts w (List.mem_cons_of_mem _ h)
  have hown : s.vm.findClass RX1 = some m.cls := findClass_of_methodNamed B.named
  have hlocks := B.notSynchronized
  have hl := lv_entry ([.int p0, .int p1, .int p2, .int p3]) (n := 5) (Nat.le_of_ble_eq_true rfl)
  rw [lg_entry_eq]
  generalize (lg_sl ([.int p0, .int p1, .int p2, .int p3]) ++ List.replicate (5 - (lg_sl ([.int p0, .int p1, .int p2, .int p3])).length) Slot.unset).toArray = ls at hl ⊢
  have hl : lv_has ls 5 [(0, .int p0), (1, .int p1), (2, .int p2), (3, .int p3)] := hl
  refine lv_iload_n hx hb dX1_isGood_0 rfl (lv_at hl 0 rfl) ?_
  refine lv_if_lt (tgt := 9) hx hb dX1_isGood_1 (by decide) (fun c_1 => ?_) (fun c_1 => ?_)
  · refine lv_iconst (v := 0) hx hb dX1_isGood_9 (by decide) ?_
    exact W.zret (v := 0) hx hb hr rfl (fun t ht hW => ⟨0, rfl, (by rw [fX1_isGood, if_pos c_1]), ht⟩) (fun q h => nomatch h) dX1_isGood_10
  · refine lv_iload_n hx hb dX1_isGood_4 rfl (lv_at hl 0 rfl) ?_
    refine lv_iload_n hx hb dX1_isGood_5 rfl (lv_at hl 1 rfl) ?_
    refine lv_icmp_le (tgt := 11) hx hb dX1_isGood_6 (by decide) (fun c_2 => ?_) (fun c_2 => ?_)
    · refine lv_iload_n hx hb dX1_isGood_11 rfl (lv_at hl 0 rfl) ?_
      refine lv_iconst (v := 3) hx hb dX1_isGood_12 (by decide) ?_
      refine lv_icmp_eq (tgt := 18) hx hb dX1_isGood_13 (by decide) (fun c_3 => ?_) (fun c_3 => ?_)
      · refine lv_iload_n hx hb dX1_isGood_18 rfl (lv_at hl 3 rfl) ?_
        refine lv_iconst (v := 1) hx hb dX1_isGood_19 (by decide) ?_
        refine lv_icmp_eq (tgt := 39) hx hb dX1_isGood_20 (by decide) (fun c_4 => ?_) (fun c_4 => ?_)
        · refine lv_iconst (v := 1) hx hb dX1_isGood_39 (by decide) ?_
          refine lv_goto (tgt := 44) hx hb dX1_isGood_40 (by decide) ?_
          refine lv_istore (lv' := [(4, .int 1), (0, .int p0), (1, .int p1), (2, .int p2), (3, .int p3)]) hx hb dX1_isGood_44 hl (by decide) rfl (fun ls hl => ?_)
          refine lv_iload hx hb dX1_isGood_46 (lv_at hl 0 rfl) ?_
          refine lv_if_eq (tgt := 71) hx hb dX1_isGood_48 (by decide) (fun c_5 => ?_) (fun c_5 => ?_)
          · exact absurd c_5 (by decide)
          · refine lv_iload_n hx hb dX1_isGood_51 rfl (lv_at hl 3 rfl) ?_
            refine lv_if_le (tgt := 71) hx hb dX1_isGood_52 (by decide) (fun c_6 => ?_) (fun c_6 => ?_)
            · refine lv_iconst (v := 0) hx hb dX1_isGood_71 (by decide) ?_
              exact W.zret (v := 0) hx hb hr rfl (fun t ht hW => ⟨0, rfl, (by rw [fX1_isGood, if_neg c_1, if_pos c_2, if_pos c_3, if_pos c_4, if_pos c_6]), ht⟩) (fun q h => nomatch h) dX1_isGood_72
            · refine lv_iload_n hx hb dX1_isGood_55 rfl (lv_at hl 3 rfl) ?_
              refine lv_ldc (v := 65536) hx hb hown (htG _ wd_382) dX1_isGood_56 ?_
              refine lv_icmp_gt (tgt := 71) hx hb dX1_isGood_58 (by decide) (fun c_7 => ?_) (fun c_7 => ?_)
              · refine lv_iconst (v := 0) hx hb dX1_isGood_71 (by decide) ?_
                exact W.zret (v := 0) hx hb hr rfl (fun t ht hW => ⟨0, rfl, (by rw [fX1_isGood, if_neg c_1, if_pos c_2, if_pos c_3, if_pos c_4, if_neg c_6, if_pos c_7]), ht⟩) (fun q h => nomatch h) dX1_isGood_72
              · refine lv_iload_n hx hb dX1_isGood_61 rfl (lv_at hl 3 rfl) ?_
                refine lv_iload_n hx hb dX1_isGood_62 rfl (lv_at hl 4 rfl) ?_
                refine lv_irem hx hb dX1_isGood_63 (by rw [c_4]; decide) ?_
                refine lv_if_ne (tgt := 71) hx hb dX1_isGood_64 (by decide) (fun c_8 => ?_) (fun c_8 => ?_)
                · refine lv_iconst (v := 0) hx hb dX1_isGood_71 (by decide) ?_
                  exact W.zret (v := 0) hx hb hr rfl (fun t ht hW => ⟨0, rfl, (by rw [fX1_isGood, if_neg c_1, if_pos c_2, if_pos c_3, if_pos c_4, if_neg c_6, if_neg c_7, if_neg c_8]), ht⟩) (fun q h => nomatch h) dX1_isGood_72
                · refine lv_iconst (v := 1) hx hb dX1_isGood_67 (by decide) ?_
                  refine lv_goto (tgt := 72) hx hb dX1_isGood_68 (by decide) ?_
                  exact W.zret (v := 1) hx hb hr rfl (fun t ht hW => ⟨1, rfl, (by rw [fX1_isGood, if_neg c_1, if_pos c_2, if_pos c_3, if_pos c_4, if_neg c_6, if_neg c_7, if_pos c_8]), ht⟩) (fun q h => nomatch h) dX1_isGood_72
        · refine lv_iload_n hx hb dX1_isGood_23 rfl (lv_at hl 3 rfl) ?_
          refine lv_iconst (v := 2) hx hb dX1_isGood_24 (by decide) ?_
          refine lv_icmp_eq (tgt := 39) hx hb dX1_isGood_25 (by decide) (fun c_9 => ?_) (fun c_9 => ?_)
          · refine lv_iconst (v := 1) hx hb dX1_isGood_39 (by decide) ?_
            refine lv_goto (tgt := 44) hx hb dX1_isGood_40 (by decide) ?_
            refine lv_istore (lv' := [(4, .int 1), (0, .int p0), (1, .int p1), (2, .int p2), (3, .int p3)]) hx hb dX1_isGood_44 hl (by decide) rfl (fun ls hl => ?_)
            refine lv_iload hx hb dX1_isGood_46 (lv_at hl 0 rfl) ?_
            refine lv_if_eq (tgt := 71) hx hb dX1_isGood_48 (by decide) (fun c_10 => ?_) (fun c_10 => ?_)
            · exact absurd c_10 (by decide)
            · refine lv_iload_n hx hb dX1_isGood_51 rfl (lv_at hl 3 rfl) ?_
              refine lv_if_le (tgt := 71) hx hb dX1_isGood_52 (by decide) (fun c_11 => ?_) (fun c_11 => ?_)
              · refine lv_iconst (v := 0) hx hb dX1_isGood_71 (by decide) ?_
                exact W.zret (v := 0) hx hb hr rfl (fun t ht hW => ⟨0, rfl, (by rw [fX1_isGood, if_neg c_1, if_pos c_2, if_pos c_3, if_neg c_4, if_pos c_9, if_pos c_11]), ht⟩) (fun q h => nomatch h) dX1_isGood_72
              · refine lv_iload_n hx hb dX1_isGood_55 rfl (lv_at hl 3 rfl) ?_
                refine lv_ldc (v := 65536) hx hb hown (htG _ wd_382) dX1_isGood_56 ?_
                refine lv_icmp_gt (tgt := 71) hx hb dX1_isGood_58 (by decide) (fun c_12 => ?_) (fun c_12 => ?_)
                · refine lv_iconst (v := 0) hx hb dX1_isGood_71 (by decide) ?_
                  exact W.zret (v := 0) hx hb hr rfl (fun t ht hW => ⟨0, rfl, (by rw [fX1_isGood, if_neg c_1, if_pos c_2, if_pos c_3, if_neg c_4, if_pos c_9, if_neg c_11, if_pos c_12]), ht⟩) (fun q h => nomatch h) dX1_isGood_72
                · refine lv_iload_n hx hb dX1_isGood_61 rfl (lv_at hl 3 rfl) ?_
                  refine lv_iload_n hx hb dX1_isGood_62 rfl (lv_at hl 4 rfl) ?_
                  refine lv_irem hx hb dX1_isGood_63 (by rw [c_9]; decide) ?_
                  refine lv_if_ne (tgt := 71) hx hb dX1_isGood_64 (by decide) (fun c_13 => ?_) (fun c_13 => ?_)
                  · refine lv_iconst (v := 0) hx hb dX1_isGood_71 (by decide) ?_
                    exact W.zret (v := 0) hx hb hr rfl (fun t ht hW => ⟨0, rfl, (by rw [fX1_isGood, if_neg c_1, if_pos c_2, if_pos c_3, if_neg c_4, if_pos c_9, if_neg c_11, if_neg c_12, if_neg c_13]), ht⟩) (fun q h => nomatch h) dX1_isGood_72
                  · refine lv_iconst (v := 1) hx hb dX1_isGood_67 (by decide) ?_
                    refine lv_goto (tgt := 72) hx hb dX1_isGood_68 (by decide) ?_
                    exact W.zret (v := 1) hx hb hr rfl (fun t ht hW => ⟨1, rfl, (by rw [fX1_isGood, if_neg c_1, if_pos c_2, if_pos c_3, if_neg c_4, if_pos c_9, if_neg c_11, if_neg c_12, if_pos c_13]), ht⟩) (fun q h => nomatch h) dX1_isGood_72
          · refine lv_iload_n hx hb dX1_isGood_28 rfl (lv_at hl 3 rfl) ?_
            refine lv_iconst (v := 4) hx hb dX1_isGood_29 (by decide) ?_
            refine lv_icmp_eq (tgt := 39) hx hb dX1_isGood_30 (by decide) (fun c_14 => ?_) (fun c_14 => ?_)
            · refine lv_iconst (v := 1) hx hb dX1_isGood_39 (by decide) ?_
              refine lv_goto (tgt := 44) hx hb dX1_isGood_40 (by decide) ?_
              refine lv_istore (lv' := [(4, .int 1), (0, .int p0), (1, .int p1), (2, .int p2), (3, .int p3)]) hx hb dX1_isGood_44 hl (by decide) rfl (fun ls hl => ?_)
              refine lv_iload hx hb dX1_isGood_46 (lv_at hl 0 rfl) ?_
              refine lv_if_eq (tgt := 71) hx hb dX1_isGood_48 (by decide) (fun c_15 => ?_) (fun c_15 => ?_)
              · exact absurd c_15 (by decide)
              · refine lv_iload_n hx hb dX1_isGood_51 rfl (lv_at hl 3 rfl) ?_
                refine lv_if_le (tgt := 71) hx hb dX1_isGood_52 (by decide) (fun c_16 => ?_) (fun c_16 => ?_)
                · refine lv_iconst (v := 0) hx hb dX1_isGood_71 (by decide) ?_
                  exact W.zret (v := 0) hx hb hr rfl (fun t ht hW => ⟨0, rfl, (by rw [fX1_isGood, if_neg c_1, if_pos c_2, if_pos c_3, if_neg c_4, if_neg c_9, if_pos c_14, if_pos c_16]), ht⟩) (fun q h => nomatch h) dX1_isGood_72
                · refine lv_iload_n hx hb dX1_isGood_55 rfl (lv_at hl 3 rfl) ?_
                  refine lv_ldc (v := 65536) hx hb hown (htG _ wd_382) dX1_isGood_56 ?_
                  refine lv_icmp_gt (tgt := 71) hx hb dX1_isGood_58 (by decide) (fun c_17 => ?_) (fun c_17 => ?_)
                  · refine lv_iconst (v := 0) hx hb dX1_isGood_71 (by decide) ?_
                    exact W.zret (v := 0) hx hb hr rfl (fun t ht hW => ⟨0, rfl, (by rw [fX1_isGood, if_neg c_1, if_pos c_2, if_pos c_3, if_neg c_4, if_neg c_9, if_pos c_14, if_neg c_16, if_pos c_17]), ht⟩) (fun q h => nomatch h) dX1_isGood_72
                  · refine lv_iload_n hx hb dX1_isGood_61 rfl (lv_at hl 3 rfl) ?_
                    refine lv_iload_n hx hb dX1_isGood_62 rfl (lv_at hl 4 rfl) ?_
                    refine lv_irem hx hb dX1_isGood_63 (by rw [c_14]; decide) ?_
                    refine lv_if_ne (tgt := 71) hx hb dX1_isGood_64 (by decide) (fun c_18 => ?_) (fun c_18 => ?_)
                    · refine lv_iconst (v := 0) hx hb dX1_isGood_71 (by decide) ?_
                      exact W.zret (v := 0) hx hb hr rfl (fun t ht hW => ⟨0, rfl, (by rw [fX1_isGood, if_neg c_1, if_pos c_2, if_pos c_3, if_neg c_4, if_neg c_9, if_pos c_14, if_neg c_16, if_neg c_17, if_neg c_18]), ht⟩) (fun q h => nomatch h) dX1_isGood_72
                    · refine lv_iconst (v := 1) hx hb dX1_isGood_67 (by decide) ?_
                      refine lv_goto (tgt := 72) hx hb dX1_isGood_68 (by decide) ?_
                      exact W.zret (v := 1) hx hb hr rfl (fun t ht hW => ⟨1, rfl, (by rw [fX1_isGood, if_neg c_1, if_pos c_2, if_pos c_3, if_neg c_4, if_neg c_9, if_pos c_14, if_neg c_16, if_neg c_17, if_pos c_18]), ht⟩) (fun q h => nomatch h) dX1_isGood_72
            · refine lv_iload_n hx hb dX1_isGood_33 rfl (lv_at hl 3 rfl) ?_
              refine lv_bipush (v := 8) hx hb dX1_isGood_34 (by decide) ?_
              refine lv_icmp_ne (tgt := 43) hx hb dX1_isGood_36 (by decide) (fun c_19 => ?_) (fun c_19 => ?_)
              · refine lv_iconst (v := 0) hx hb dX1_isGood_43 (by decide) ?_
                refine lv_istore (lv' := [(4, .int 0), (0, .int p0), (1, .int p1), (2, .int p2), (3, .int p3)]) hx hb dX1_isGood_44 hl (by decide) rfl (fun ls hl => ?_)
                refine lv_iload hx hb dX1_isGood_46 (lv_at hl 0 rfl) ?_
                refine lv_if_eq (tgt := 71) hx hb dX1_isGood_48 (by decide) (fun c_20 => ?_) (fun c_20 => ?_)
                · refine lv_iconst (v := 0) hx hb dX1_isGood_71 (by decide) ?_
                  exact W.zret (v := 0) hx hb hr rfl (fun t ht hW => ⟨0, rfl, (by rw [fX1_isGood, if_neg c_1, if_pos c_2, if_pos c_3, if_neg c_4, if_neg c_9, if_neg c_14, if_neg c_19]), ht⟩) (fun q h => nomatch h) dX1_isGood_72
                · exact absurd c_20 (by decide)
              · refine lv_iconst (v := 1) hx hb dX1_isGood_39 (by decide) ?_
                refine lv_goto (tgt := 44) hx hb dX1_isGood_40 (by decide) ?_
                refine lv_istore (lv' := [(4, .int 1), (0, .int p0), (1, .int p1), (2, .int p2), (3, .int p3)]) hx hb dX1_isGood_44 hl (by decide) rfl (fun ls hl => ?_)
                refine lv_iload hx hb dX1_isGood_46 (lv_at hl 0 rfl) ?_
                refine lv_if_eq (tgt := 71) hx hb dX1_isGood_48 (by decide) (fun c_21 => ?_) (fun c_21 => ?_)
                · exact absurd c_21 (by decide)
                · refine lv_iload_n hx hb dX1_isGood_51 rfl (lv_at hl 3 rfl) ?_
                  refine lv_if_le (tgt := 71) hx hb dX1_isGood_52 (by decide) (fun c_22 => ?_) (fun c_22 => ?_)
                  · refine lv_iconst (v := 0) hx hb dX1_isGood_71 (by decide) ?_
                    exact W.zret (v := 0) hx hb hr rfl (fun t ht hW => ⟨0, rfl, (by rw [fX1_isGood, if_neg c_1, if_pos c_2, if_pos c_3, if_neg c_4, if_neg c_9, if_neg c_14, if_pos c_19, if_pos c_22]), ht⟩) (fun q h => nomatch h) dX1_isGood_72
                  · refine lv_iload_n hx hb dX1_isGood_55 rfl (lv_at hl 3 rfl) ?_
                    refine lv_ldc (v := 65536) hx hb hown (htG _ wd_382) dX1_isGood_56 ?_
                    refine lv_icmp_gt (tgt := 71) hx hb dX1_isGood_58 (by decide) (fun c_23 => ?_) (fun c_23 => ?_)
                    · refine lv_iconst (v := 0) hx hb dX1_isGood_71 (by decide) ?_
                      exact W.zret (v := 0) hx hb hr rfl (fun t ht hW => ⟨0, rfl, (by rw [fX1_isGood, if_neg c_1, if_pos c_2, if_pos c_3, if_neg c_4, if_neg c_9, if_neg c_14, if_pos c_19, if_neg c_22, if_pos c_23]), ht⟩) (fun q h => nomatch h) dX1_isGood_72
                    · refine lv_iload_n hx hb dX1_isGood_61 rfl (lv_at hl 3 rfl) ?_
                      refine lv_iload_n hx hb dX1_isGood_62 rfl (lv_at hl 4 rfl) ?_
                      refine lv_irem hx hb dX1_isGood_63 (by rw [c_19]; decide) ?_
                      refine lv_if_ne (tgt := 71) hx hb dX1_isGood_64 (by decide) (fun c_24 => ?_) (fun c_24 => ?_)
                      · refine lv_iconst (v := 0) hx hb dX1_isGood_71 (by decide) ?_
                        exact W.zret (v := 0) hx hb hr rfl (fun t ht hW => ⟨0, rfl, (by rw [fX1_isGood, if_neg c_1, if_pos c_2, if_pos c_3, if_neg c_4, if_neg c_9, if_neg c_14, if_pos c_19, if_neg c_22, if_neg c_23, if_neg c_24]), ht⟩) (fun q h => nomatch h) dX1_isGood_72
                      · refine lv_iconst (v := 1) hx hb dX1_isGood_67 (by decide) ?_
                        refine lv_goto (tgt := 72) hx hb dX1_isGood_68 (by decide) ?_
                        exact W.zret (v := 1) hx hb hr rfl (fun t ht hW => ⟨1, rfl, (by rw [fX1_isGood, if_neg c_1, if_pos c_2, if_pos c_3, if_neg c_4, if_neg c_9, if_neg c_14, if_pos c_19, if_neg c_22, if_neg c_23, if_pos c_24]), ht⟩) (fun q h => nomatch h) dX1_isGood_72
      · refine lv_iconst (v := 1) hx hb dX1_isGood_16 (by decide) ?_
        exact W.zret (v := 1) hx hb hr rfl (fun t ht hW => ⟨1, rfl, (by rw [fX1_isGood, if_neg c_1, if_pos c_2, if_neg c_3]), ht⟩) (fun q h => nomatch h) dX1_isGood_17
    · refine lv_iconst (v := 0) hx hb dX1_isGood_9 (by decide) ?_
      exact W.zret (v := 0) hx hb hr rfl (fun t ht hW => ⟨0, rfl, (by rw [fX1_isGood, if_neg c_1, if_neg c_2]), ht⟩) (fun q h => nomatch h) dX1_isGood_10

def fX1_filled (p0 p1 : Int32) : Int32 :=
  ((((p0 + p1) - 1) / p1) * p1)

abbrev wsX1_filled : List Cond := .code yX1_filled cX1_filled 2 (some .int) :: wG
set_option maxHeartbeats 4000000 in
set_option maxRecDepth 100000 in
theorem mX1_filled (l : Launch) (p0 p1 : Int32) (hp : ¬ p1 = 0) : Met l yX1_filled wsX1_filled ({ frames := 0, cells := 0, slots := 0, locals := 0 }) (va_Pc [.int p0, .int p1] (fun _ => True)) (vp_Si (fun r => r = fX1_filled p0 p1)) 0 0 (fun _ => False) := by
  refine Met.ofW (cc := cX1_filled) (maxL := 2) (ret := (some .int)) (by decide) rfl ?_
  intro p e s m args below meth c s₁ B hml hv
  obtain ⟨rfl, -⟩ := hv
  have hx := B.exec
  have hb := B.bytes
  have hr := B.returns
  have hts := atoms_spec (ws := wsX1_filled) B.pre
  have htG := fun (w : Cond) (h : w ∈ wG) => hts w (List.mem_cons_of_mem _ h)
  have hown : s.vm.findClass RX1 = some m.cls := findClass_of_methodNamed B.named
  have hlocks := B.notSynchronized
  have hl := lv_entry ([.int p0, .int p1]) (n := 2) (Nat.le_of_ble_eq_true rfl)
  rw [lg_entry_eq]
  generalize (lg_sl ([.int p0, .int p1]) ++ List.replicate (2 - (lg_sl ([.int p0, .int p1])).length) Slot.unset).toArray = ls at hl ⊢
  have hl : lv_has ls 2 [(0, .int p0), (1, .int p1)] := hl
  refine lv_iload_n hx hb dX1_filled_0 rfl (lv_at hl 0 rfl) ?_
  refine lv_iload_n hx hb dX1_filled_1 rfl (lv_at hl 1 rfl) ?_
  refine lv_iadd hx hb dX1_filled_2 ?_
  refine lv_iconst (v := 1) hx hb dX1_filled_3 (by decide) ?_
  refine lv_isub hx hb dX1_filled_4 ?_
  refine lv_iload_n hx hb dX1_filled_5 rfl (lv_at hl 1 rfl) ?_
  refine lv_idiv hx hb dX1_filled_6 hp ?_
  refine lv_iload_n hx hb dX1_filled_7 rfl (lv_at hl 1 rfl) ?_
  refine lv_imul hx hb dX1_filled_8 ?_
  exact W.iret (v := ((((p0 + p1) - 1) / p1) * p1)) hx hb hr (fun t ht hW => ⟨((((p0 + p1) - 1) / p1) * p1), rfl, (by rw [fX1_filled]), ht⟩) (fun q h => nomatch h) dX1_filled_9

def fX1_bytes (mk1 mk2 : Nat → Int32) (p0 : Int32) : Int32 :=
  if (mk1 (p0 : Int32).toNatClampNeg) = 2 then 8
  else if (mk1 (p0 : Int32).toNatClampNeg) = 3 then (mk2 (p0 : Int32).toNatClampNeg)
    else 4

abbrev wsX1_bytes : List Cond := .code yX1_bytes cX1_bytes 2 (some .int) :: wG
set_option maxHeartbeats 4000000 in
set_option maxRecDepth 100000 in
theorem mX1_bytes (l : Launch) (dC : Nat → ClassId) (dI : Nat → Nat → Nat) (mh0 mh1 mh2 mh3 : Nat) (mc1 mc2 mc3 : ClassId) (mk1 mk2 mk3 : Nat → Int32) (mf0 mf1 mf2 mf3 mf4 mf5 mf6 mf7 mf8 mf9 : Int32) (p0 : Int32) (hp : vp_in p0 60) : Met l yX1_bytes wsX1_bytes ({ frames := 0, cells := 0, slots := 0, locals := 0 }) (va_Pc [.ref mh0, .int p0] (fun U => va_P (dC, dI) vwCl (mW mh0 mh1 mh2 mh3 mc1 mc2 mc3 mk1 mk2 mk3 mf0 mf1 mf2 mf3 mf4 mf5 mf6 mf7 mf8 mf9) U.heap ∧ va_K (dC, dI) vwCl [(mc1, .int), (mc2, .int), (mc3, .int)] U)) (vp_Si (fun r => r = fX1_bytes mk1 mk2 p0)) 0 0 (fun _ => False) := by
  refine Met.ofW (cc := cX1_bytes) (maxL := 2) (ret := (some .int)) (by decide) rfl ?_
  intro p e s m args below meth c s₁ B hml hv
  obtain ⟨rfl, hP, hK⟩ := hv
  have hx := B.exec
  have hb := B.bytes
  have hr := B.returns
  have hts := atoms_spec (ws := wsX1_bytes) B.pre
  have htG := fun (w : Cond) (h : w ∈ wG) => hts w (List.mem_cons_of_mem _ h)
  have hown : s.vm.findClass RX1 = some m.cls := findClass_of_methodNamed B.named
  have hlocks := B.notSynchronized
  have hl := lv_entry ([.ref mh0, .int p0]) (n := 2) (Nat.le_of_ble_eq_true rfl)
  rw [lg_entry_eq]
  generalize (lg_sl ([.ref mh0, .int p0]) ++ List.replicate (2 - (lg_sl ([.ref mh0, .int p0])).length) Slot.unset).toArray = ls at hl ⊢
  have hl : lv_has ls 2 [(0, .ref mh0), (1, .int p0)] := hl
  refine lv_aload_n hx hb dX1_bytes_0 rfl (lv_at hl 0 rfl) ?_
  refine va_get (D := (dC, dI)) (ci := 1) (v := .ref mh1) (C := RX1) (T := TX1) (N := 13) hx hb htG inX1 hown hK hP 0 rfl rfl 10 (by decide) (htG _ wd_341) (fun _ h9 => h9) rfl dX1_bytes_1 ?_
  refine lv_iload_n hx hb dX1_bytes_4 rfl (lv_at hl 1 rfl) ?_
  refine va_iald hx hb hK hP 1 0 rfl rfl hp dX1_bytes_5 ?_
  refine lv_iconst (v := 2) hx hb dX1_bytes_6 (by decide) ?_
  refine lv_icmp_ne (tgt := 15) hx hb dX1_bytes_7 (by decide) (fun c_1 => ?_) (fun c_1 => ?_)
  · refine lv_aload_n hx hb dX1_bytes_15 rfl (lv_at hl 0 rfl) ?_
    refine va_get (D := (dC, dI)) (ci := 1) (v := .ref mh1) (C := RX1) (T := TX1) (N := 13) hx hb htG inX1 hown hK hP 0 rfl rfl 10 (by decide) (htG _ wd_341) (fun _ h9 => h9) rfl dX1_bytes_16 ?_
    refine lv_iload_n hx hb dX1_bytes_19 rfl (lv_at hl 1 rfl) ?_
    refine va_iald hx hb hK hP 1 0 rfl rfl hp dX1_bytes_20 ?_
    refine lv_iconst (v := 3) hx hb dX1_bytes_21 (by decide) ?_
    refine lv_icmp_ne (tgt := 34) hx hb dX1_bytes_22 (by decide) (fun c_2 => ?_) (fun c_2 => ?_)
    · refine lv_iconst (v := 4) hx hb dX1_bytes_34 (by decide) ?_
      exact W.iret (v := 4) hx hb hr (fun t ht hW => ⟨4, rfl, (by rw [fX1_bytes, if_neg c_1, if_neg c_2]), ht⟩) (fun q h => nomatch h) dX1_bytes_35
    · refine lv_aload_n hx hb dX1_bytes_25 rfl (lv_at hl 0 rfl) ?_
      refine va_get (D := (dC, dI)) (ci := 1) (v := .ref mh2) (C := RX1) (T := TX1) (N := 13) hx hb htG inX1 hown hK hP 0 rfl rfl 11 (by decide) (htG _ wd_342) (fun _ h9 => h9) rfl dX1_bytes_26 ?_
      refine lv_iload_n hx hb dX1_bytes_29 rfl (lv_at hl 1 rfl) ?_
      refine va_iald hx hb hK hP 2 1 rfl rfl hp dX1_bytes_30 ?_
      refine lv_goto (tgt := 35) hx hb dX1_bytes_31 (by decide) ?_
      exact W.iret (v := (mk2 (p0 : Int32).toNatClampNeg)) hx hb hr (fun t ht hW => ⟨(mk2 (p0 : Int32).toNatClampNeg), rfl, (by rw [fX1_bytes, if_neg c_1, if_pos c_2]), ht⟩) (fun q h => nomatch h) dX1_bytes_35
  · refine lv_bipush (v := 8) hx hb dX1_bytes_10 (by decide) ?_
    refine lv_goto (tgt := 35) hx hb dX1_bytes_12 (by decide) ?_
    exact W.iret (v := 8) hx hb hr (fun t ht hW => ⟨8, rfl, (by rw [fX1_bytes, if_pos c_1]), ht⟩) (fun q h => nomatch h) dX1_bytes_35

def fX1_isWide (mk1 mk3 : Nat → Int32) (p0 : Int32) : Int32 :=
  if (mk1 (p0 : Int32).toNatClampNeg) = 2 then 1
  else if (mk1 (p0 : Int32).toNatClampNeg) = 3 then (if (mk3 (p0 : Int32).toNatClampNeg) = 8 then 1
      else 0)
    else 0
theorem bbX1_isWide {mk1 mk3 : Nat → Int32} {p0 : Int32} : fX1_isWide mk1 mk3 p0 = 0 ∨ fX1_isWide mk1 mk3 p0 = 1 := by
  unfold fX1_isWide
  repeat' split
  all_goals first | exact Or.inl rfl | exact Or.inr rfl | exact bbX0_isRecord | exact bbX0_isAdded | exact bbX0_isArgument | exact bbX0_isFractional | exact bbX0_isInFraction | exact bbX1_isGood
theorem nbX1_isWide {mk1 mk3 : Nat → Int32} {p0 : Int32} : narrow .boolean (.int (fX1_isWide mk1 mk3 p0)) = .int (fX1_isWide mk1 mk3 p0) := nb_of bbX1_isWide

abbrev wsX1_isWide : List Cond := .code yX1_isWide cX1_isWide 2 (some .boolean) :: wG
set_option maxHeartbeats 4000000 in
set_option maxRecDepth 100000 in
theorem mX1_isWide (l : Launch) (dC : Nat → ClassId) (dI : Nat → Nat → Nat) (mh0 mh1 mh2 mh3 : Nat) (mc1 mc2 mc3 : ClassId) (mk1 mk2 mk3 : Nat → Int32) (mf0 mf1 mf2 mf3 mf4 mf5 mf6 mf7 mf8 mf9 : Int32) (p0 : Int32) (hp : vp_in p0 60) : Met l yX1_isWide wsX1_isWide ({ frames := 0, cells := 0, slots := 0, locals := 0 }) (va_Pc [.ref mh0, .int p0] (fun U => va_P (dC, dI) vwCl (mW mh0 mh1 mh2 mh3 mc1 mc2 mc3 mk1 mk2 mk3 mf0 mf1 mf2 mf3 mf4 mf5 mf6 mf7 mf8 mf9) U.heap ∧ va_K (dC, dI) vwCl [(mc1, .int), (mc2, .int), (mc3, .int)] U)) (vp_Si (fun r => r = fX1_isWide mk1 mk3 p0)) 0 0 (fun _ => False) := by
  refine Met.ofW (cc := cX1_isWide) (maxL := 2) (ret := (some .boolean)) (by decide) rfl ?_
  intro p e s m args below meth c s₁ B hml hv
  obtain ⟨rfl, hP, hK⟩ := hv
  have hx := B.exec
  have hb := B.bytes
  have hr := B.returns
  have hts := atoms_spec (ws := wsX1_isWide) B.pre
  have htG := fun (w : Cond) (h : w ∈ wG) => hts w (List.mem_cons_of_mem _ h)
  have hown : s.vm.findClass RX1 = some m.cls := findClass_of_methodNamed B.named
  have hlocks := B.notSynchronized
  have hl := lv_entry ([.ref mh0, .int p0]) (n := 2) (Nat.le_of_ble_eq_true rfl)
  rw [lg_entry_eq]
  generalize (lg_sl ([.ref mh0, .int p0]) ++ List.replicate (2 - (lg_sl ([.ref mh0, .int p0])).length) Slot.unset).toArray = ls at hl ⊢
  have hl : lv_has ls 2 [(0, .ref mh0), (1, .int p0)] := hl
  refine lv_aload_n hx hb dX1_isWide_0 rfl (lv_at hl 0 rfl) ?_
  refine va_get (D := (dC, dI)) (ci := 1) (v := .ref mh1) (C := RX1) (T := TX1) (N := 13) hx hb htG inX1 hown hK hP 0 rfl rfl 10 (by decide) (htG _ wd_341) (fun _ h9 => h9) rfl dX1_isWide_1 ?_
  refine lv_iload_n hx hb dX1_isWide_4 rfl (lv_at hl 1 rfl) ?_
  refine va_iald hx hb hK hP 1 0 rfl rfl hp dX1_isWide_5 ?_
  refine lv_iconst (v := 2) hx hb dX1_isWide_6 (by decide) ?_
  refine lv_icmp_eq (tgt := 31) hx hb dX1_isWide_7 (by decide) (fun c_1 => ?_) (fun c_1 => ?_)
  · refine lv_iconst (v := 1) hx hb dX1_isWide_31 (by decide) ?_
    refine lv_goto (tgt := 36) hx hb dX1_isWide_32 (by decide) ?_
    exact W.zret (v := 1) hx hb hr rfl (fun t ht hW => ⟨1, rfl, (by rw [fX1_isWide, if_pos c_1]), ht⟩) (fun q h => nomatch h) dX1_isWide_36
  · refine lv_aload_n hx hb dX1_isWide_10 rfl (lv_at hl 0 rfl) ?_
    refine va_get (D := (dC, dI)) (ci := 1) (v := .ref mh1) (C := RX1) (T := TX1) (N := 13) hx hb htG inX1 hown hK hP 0 rfl rfl 10 (by decide) (htG _ wd_341) (fun _ h9 => h9) rfl dX1_isWide_11 ?_
    refine lv_iload_n hx hb dX1_isWide_14 rfl (lv_at hl 1 rfl) ?_
    refine va_iald hx hb hK hP 1 0 rfl rfl hp dX1_isWide_15 ?_
    refine lv_iconst (v := 3) hx hb dX1_isWide_16 (by decide) ?_
    refine lv_icmp_ne (tgt := 35) hx hb dX1_isWide_17 (by decide) (fun c_2 => ?_) (fun c_2 => ?_)
    · refine lv_iconst (v := 0) hx hb dX1_isWide_35 (by decide) ?_
      exact W.zret (v := 0) hx hb hr rfl (fun t ht hW => ⟨0, rfl, (by rw [fX1_isWide, if_neg c_1, if_neg c_2]), ht⟩) (fun q h => nomatch h) dX1_isWide_36
    · refine lv_aload_n hx hb dX1_isWide_20 rfl (lv_at hl 0 rfl) ?_
      refine va_get (D := (dC, dI)) (ci := 1) (v := .ref mh3) (C := RX1) (T := TX1) (N := 13) hx hb htG inX1 hown hK hP 0 rfl rfl 12 (by decide) (htG _ wd_343) (fun _ h9 => h9) rfl dX1_isWide_21 ?_
      refine lv_iload_n hx hb dX1_isWide_24 rfl (lv_at hl 1 rfl) ?_
      refine va_iald hx hb hK hP 3 2 rfl rfl hp dX1_isWide_25 ?_
      refine lv_bipush (v := 8) hx hb dX1_isWide_26 (by decide) ?_
      refine lv_icmp_ne (tgt := 35) hx hb dX1_isWide_28 (by decide) (fun c_3 => ?_) (fun c_3 => ?_)
      · refine lv_iconst (v := 0) hx hb dX1_isWide_35 (by decide) ?_
        exact W.zret (v := 0) hx hb hr rfl (fun t ht hW => ⟨0, rfl, (by rw [fX1_isWide, if_neg c_1, if_pos c_2, if_neg c_3]), ht⟩) (fun q h => nomatch h) dX1_isWide_36
      · refine lv_iconst (v := 1) hx hb dX1_isWide_31 (by decide) ?_
        refine lv_goto (tgt := 36) hx hb dX1_isWide_32 (by decide) ?_
        exact W.zret (v := 1) hx hb hr rfl (fun t ht hW => ⟨1, rfl, (by rw [fX1_isWide, if_neg c_1, if_pos c_2, if_pos c_3]), ht⟩) (fun q h => nomatch h) dX1_isWide_36

def fX1_isFraction (mk1 : Nat → Int32) (p0 : Int32) : Int32 :=
  if (mk1 (p0 : Int32).toNatClampNeg) = 1 then 1
  else if (mk1 (p0 : Int32).toNatClampNeg) = 2 then 1
    else 0
theorem bbX1_isFraction {mk1 : Nat → Int32} {p0 : Int32} : fX1_isFraction mk1 p0 = 0 ∨ fX1_isFraction mk1 p0 = 1 := by
  unfold fX1_isFraction
  repeat' split
  all_goals first | exact Or.inl rfl | exact Or.inr rfl | exact bbX0_isRecord | exact bbX0_isAdded | exact bbX0_isArgument | exact bbX0_isFractional | exact bbX0_isInFraction | exact bbX1_isGood | exact bbX1_isWide
theorem nbX1_isFraction {mk1 : Nat → Int32} {p0 : Int32} : narrow .boolean (.int (fX1_isFraction mk1 p0)) = .int (fX1_isFraction mk1 p0) := nb_of bbX1_isFraction

abbrev wsX1_isFraction : List Cond := .code yX1_isFraction cX1_isFraction 2 (some .boolean) :: wG
set_option maxHeartbeats 4000000 in
set_option maxRecDepth 100000 in
theorem mX1_isFraction (l : Launch) (dC : Nat → ClassId) (dI : Nat → Nat → Nat) (mh0 mh1 mh2 mh3 : Nat) (mc1 mc2 mc3 : ClassId) (mk1 mk2 mk3 : Nat → Int32) (mf0 mf1 mf2 mf3 mf4 mf5 mf6 mf7 mf8 mf9 : Int32) (p0 : Int32) (hp : vp_in p0 60) : Met l yX1_isFraction wsX1_isFraction ({ frames := 0, cells := 0, slots := 0, locals := 0 }) (va_Pc [.ref mh0, .int p0] (fun U => va_P (dC, dI) vwCl (mW mh0 mh1 mh2 mh3 mc1 mc2 mc3 mk1 mk2 mk3 mf0 mf1 mf2 mf3 mf4 mf5 mf6 mf7 mf8 mf9) U.heap ∧ va_K (dC, dI) vwCl [(mc1, .int), (mc2, .int), (mc3, .int)] U)) (vp_Si (fun r => r = fX1_isFraction mk1 p0)) 0 0 (fun _ => False) := by
  refine Met.ofW (cc := cX1_isFraction) (maxL := 2) (ret := (some .boolean)) (by decide) rfl ?_
  intro p e s m args below meth c s₁ B hml hv
  obtain ⟨rfl, hP, hK⟩ := hv
  have hx := B.exec
  have hb := B.bytes
  have hr := B.returns
  have hts := atoms_spec (ws := wsX1_isFraction) B.pre
  have htG := fun (w : Cond) (h : w ∈ wG) => hts w (List.mem_cons_of_mem _ h)
  have hown : s.vm.findClass RX1 = some m.cls := findClass_of_methodNamed B.named
  have hlocks := B.notSynchronized
  have hl := lv_entry ([.ref mh0, .int p0]) (n := 2) (Nat.le_of_ble_eq_true rfl)
  rw [lg_entry_eq]
  generalize (lg_sl ([.ref mh0, .int p0]) ++ List.replicate (2 - (lg_sl ([.ref mh0, .int p0])).length) Slot.unset).toArray = ls at hl ⊢
  have hl : lv_has ls 2 [(0, .ref mh0), (1, .int p0)] := hl
  refine lv_aload_n hx hb dX1_isFraction_0 rfl (lv_at hl 0 rfl) ?_
  refine va_get (D := (dC, dI)) (ci := 1) (v := .ref mh1) (C := RX1) (T := TX1) (N := 13) hx hb htG inX1 hown hK hP 0 rfl rfl 10 (by decide) (htG _ wd_341) (fun _ h9 => h9) rfl dX1_isFraction_1 ?_
  refine lv_iload_n hx hb dX1_isFraction_4 rfl (lv_at hl 1 rfl) ?_
  refine va_iald hx hb hK hP 1 0 rfl rfl hp dX1_isFraction_5 ?_
  refine lv_iconst (v := 1) hx hb dX1_isFraction_6 (by decide) ?_
  refine lv_icmp_eq (tgt := 20) hx hb dX1_isFraction_7 (by decide) (fun c_1 => ?_) (fun c_1 => ?_)
  · refine lv_iconst (v := 1) hx hb dX1_isFraction_20 (by decide) ?_
    refine lv_goto (tgt := 25) hx hb dX1_isFraction_21 (by decide) ?_
    exact W.zret (v := 1) hx hb hr rfl (fun t ht hW => ⟨1, rfl, (by rw [fX1_isFraction, if_pos c_1]), ht⟩) (fun q h => nomatch h) dX1_isFraction_25
  · refine lv_aload_n hx hb dX1_isFraction_10 rfl (lv_at hl 0 rfl) ?_
    refine va_get (D := (dC, dI)) (ci := 1) (v := .ref mh1) (C := RX1) (T := TX1) (N := 13) hx hb htG inX1 hown hK hP 0 rfl rfl 10 (by decide) (htG _ wd_341) (fun _ h9 => h9) rfl dX1_isFraction_11 ?_
    refine lv_iload_n hx hb dX1_isFraction_14 rfl (lv_at hl 1 rfl) ?_
    refine va_iald hx hb hK hP 1 0 rfl rfl hp dX1_isFraction_15 ?_
    refine lv_iconst (v := 2) hx hb dX1_isFraction_16 (by decide) ?_
    refine lv_icmp_ne (tgt := 24) hx hb dX1_isFraction_17 (by decide) (fun c_2 => ?_) (fun c_2 => ?_)
    · refine lv_iconst (v := 0) hx hb dX1_isFraction_24 (by decide) ?_
      exact W.zret (v := 0) hx hb hr rfl (fun t ht hW => ⟨0, rfl, (by rw [fX1_isFraction, if_neg c_1, if_neg c_2]), ht⟩) (fun q h => nomatch h) dX1_isFraction_25
    · refine lv_iconst (v := 1) hx hb dX1_isFraction_20 (by decide) ?_
      refine lv_goto (tgt := 25) hx hb dX1_isFraction_21 (by decide) ?_
      exact W.zret (v := 1) hx hb hr rfl (fun t ht hW => ⟨1, rfl, (by rw [fX1_isFraction, if_neg c_1, if_pos c_2]), ht⟩) (fun q h => nomatch h) dX1_isFraction_25

def fX1_isThere (mf1 mf2 : Int32) (p0 : Int32) : Int32 :=
  if p0 < 0 then (if p0 = (-1) then (if mf1 = 3 then 1
      else 0)
    else 0)
  else if p0 < mf2 then 1
    else if p0 = (-1) then (if mf1 = 3 then 1
        else 0)
      else 0
theorem bbX1_isThere {mf1 mf2 p0 : Int32} : fX1_isThere mf1 mf2 p0 = 0 ∨ fX1_isThere mf1 mf2 p0 = 1 := by
  unfold fX1_isThere
  repeat' split
  all_goals first | exact Or.inl rfl | exact Or.inr rfl | exact bbX0_isRecord | exact bbX0_isAdded | exact bbX0_isArgument | exact bbX0_isFractional | exact bbX0_isInFraction | exact bbX1_isGood | exact bbX1_isWide | exact bbX1_isFraction
theorem nbX1_isThere {mf1 mf2 p0 : Int32} : narrow .boolean (.int (fX1_isThere mf1 mf2 p0)) = .int (fX1_isThere mf1 mf2 p0) := nb_of bbX1_isThere

abbrev wsX1_isThere : List Cond := .code yX1_isThere cX1_isThere 2 (some .boolean) :: wG
set_option maxHeartbeats 4000000 in
set_option maxRecDepth 100000 in
theorem mX1_isThere (l : Launch) (dC : Nat → ClassId) (dI : Nat → Nat → Nat) (mh0 mh1 mh2 mh3 : Nat) (mc1 mc2 mc3 : ClassId) (mk1 mk2 mk3 : Nat → Int32) (mf0 mf1 mf2 mf3 mf4 mf5 mf6 mf7 mf8 mf9 : Int32) (p0 : Int32)  : Met l yX1_isThere wsX1_isThere ({ frames := 0, cells := 0, slots := 0, locals := 0 }) (va_Pc [.ref mh0, .int p0] (fun U => va_P (dC, dI) vwCl (mW mh0 mh1 mh2 mh3 mc1 mc2 mc3 mk1 mk2 mk3 mf0 mf1 mf2 mf3 mf4 mf5 mf6 mf7 mf8 mf9) U.heap ∧ va_K (dC, dI) vwCl [(mc1, .int), (mc2, .int), (mc3, .int)] U)) (vp_Si (fun r => r = fX1_isThere mf1 mf2 p0)) 0 0 (fun _ => False) := by
  refine Met.ofW (cc := cX1_isThere) (maxL := 2) (ret := (some .boolean)) (by decide) rfl ?_
  intro p e s m args below meth c s₁ B hml hv
  obtain ⟨rfl, hP, hK⟩ := hv
  have hx := B.exec
  have hb := B.bytes
  have hr := B.returns
  have hts := atoms_spec (ws := wsX1_isThere) B.pre
  have htG := fun (w : Cond) (h : w ∈ wG) => hts w (List.mem_cons_of_mem _ h)
  have hown : s.vm.findClass RX1 = some m.cls := findClass_of_methodNamed B.named
  have hlocks := B.notSynchronized
  have hl := lv_entry ([.ref mh0, .int p0]) (n := 2) (Nat.le_of_ble_eq_true rfl)
  rw [lg_entry_eq]
  generalize (lg_sl ([.ref mh0, .int p0]) ++ List.replicate (2 - (lg_sl ([.ref mh0, .int p0])).length) Slot.unset).toArray = ls at hl ⊢
  have hl : lv_has ls 2 [(0, .ref mh0), (1, .int p0)] := hl
  refine lv_iload_n hx hb dX1_isThere_0 rfl (lv_at hl 1 rfl) ?_
  refine lv_if_lt (tgt := 12) hx hb dX1_isThere_1 (by decide) (fun c_1 => ?_) (fun c_1 => ?_)
  · refine lv_iload_n hx hb dX1_isThere_12 rfl (lv_at hl 1 rfl) ?_
    refine lv_iconst (v := (-1)) hx hb dX1_isThere_13 (by decide) ?_
    refine lv_icmp_ne (tgt := 29) hx hb dX1_isThere_14 (by decide) (fun c_2 => ?_) (fun c_2 => ?_)
    · refine lv_iconst (v := 0) hx hb dX1_isThere_29 (by decide) ?_
      exact W.zret (v := 0) hx hb hr rfl (fun t ht hW => ⟨0, rfl, (by rw [fX1_isThere, if_pos c_1, if_neg c_2]), ht⟩) (fun q h => nomatch h) dX1_isThere_30
    · refine lv_aload_n hx hb dX1_isThere_17 rfl (lv_at hl 0 rfl) ?_
      refine va_get (D := (dC, dI)) (ci := 1) (v := .int mf1) (C := RX1) (T := TX1) (N := 13) hx hb htG inX1 hown hK hP 0 rfl rfl 1 (by decide) (htG _ wd_332) (fun _ h9 => h9) rfl dX1_isThere_18 ?_
      refine lv_iconst (v := 3) hx hb dX1_isThere_21 (by decide) ?_
      refine lv_icmp_ne (tgt := 29) hx hb dX1_isThere_22 (by decide) (fun c_3 => ?_) (fun c_3 => ?_)
      · refine lv_iconst (v := 0) hx hb dX1_isThere_29 (by decide) ?_
        exact W.zret (v := 0) hx hb hr rfl (fun t ht hW => ⟨0, rfl, (by rw [fX1_isThere, if_pos c_1, if_pos c_2, if_neg c_3]), ht⟩) (fun q h => nomatch h) dX1_isThere_30
      · refine lv_iconst (v := 1) hx hb dX1_isThere_25 (by decide) ?_
        refine lv_goto (tgt := 30) hx hb dX1_isThere_26 (by decide) ?_
        exact W.zret (v := 1) hx hb hr rfl (fun t ht hW => ⟨1, rfl, (by rw [fX1_isThere, if_pos c_1, if_pos c_2, if_pos c_3]), ht⟩) (fun q h => nomatch h) dX1_isThere_30
  · refine lv_iload_n hx hb dX1_isThere_4 rfl (lv_at hl 1 rfl) ?_
    refine lv_aload_n hx hb dX1_isThere_5 rfl (lv_at hl 0 rfl) ?_
    refine va_get (D := (dC, dI)) (ci := 1) (v := .int mf2) (C := RX1) (T := TX1) (N := 13) hx hb htG inX1 hown hK hP 0 rfl rfl 2 (by decide) (htG _ wd_333) (fun _ h9 => h9) rfl dX1_isThere_6 ?_
    refine lv_icmp_lt (tgt := 25) hx hb dX1_isThere_9 (by decide) (fun c_4 => ?_) (fun c_4 => ?_)
    · refine lv_iconst (v := 1) hx hb dX1_isThere_25 (by decide) ?_
      refine lv_goto (tgt := 30) hx hb dX1_isThere_26 (by decide) ?_
      exact W.zret (v := 1) hx hb hr rfl (fun t ht hW => ⟨1, rfl, (by rw [fX1_isThere, if_neg c_1, if_pos c_4]), ht⟩) (fun q h => nomatch h) dX1_isThere_30
    · refine lv_iload_n hx hb dX1_isThere_12 rfl (lv_at hl 1 rfl) ?_
      refine lv_iconst (v := (-1)) hx hb dX1_isThere_13 (by decide) ?_
      refine lv_icmp_ne (tgt := 29) hx hb dX1_isThere_14 (by decide) (fun c_5 => ?_) (fun c_5 => ?_)
      · refine lv_iconst (v := 0) hx hb dX1_isThere_29 (by decide) ?_
        exact W.zret (v := 0) hx hb hr rfl (fun t ht hW => ⟨0, rfl, (by rw [fX1_isThere, if_neg c_1, if_neg c_4, if_neg c_5]), ht⟩) (fun q h => nomatch h) dX1_isThere_30
      · refine lv_aload_n hx hb dX1_isThere_17 rfl (lv_at hl 0 rfl) ?_
        refine va_get (D := (dC, dI)) (ci := 1) (v := .int mf1) (C := RX1) (T := TX1) (N := 13) hx hb htG inX1 hown hK hP 0 rfl rfl 1 (by decide) (htG _ wd_332) (fun _ h9 => h9) rfl dX1_isThere_18 ?_
        refine lv_iconst (v := 3) hx hb dX1_isThere_21 (by decide) ?_
        refine lv_icmp_ne (tgt := 29) hx hb dX1_isThere_22 (by decide) (fun c_6 => ?_) (fun c_6 => ?_)
        · refine lv_iconst (v := 0) hx hb dX1_isThere_29 (by decide) ?_
          exact W.zret (v := 0) hx hb hr rfl (fun t ht hW => ⟨0, rfl, (by rw [fX1_isThere, if_neg c_1, if_neg c_4, if_pos c_5, if_neg c_6]), ht⟩) (fun q h => nomatch h) dX1_isThere_30
        · refine lv_iconst (v := 1) hx hb dX1_isThere_25 (by decide) ?_
          refine lv_goto (tgt := 30) hx hb dX1_isThere_26 (by decide) ?_
          exact W.zret (v := 1) hx hb hr rfl (fun t ht hW => ⟨1, rfl, (by rw [fX1_isThere, if_neg c_1, if_neg c_4, if_pos c_5, if_pos c_6]), ht⟩) (fun q h => nomatch h) dX1_isThere_30

def fX1_words (mk1 mk2 : Nat → Int32) (p0 : Int32) : Int32 :=
  if p0 = (-1) then 1
  else ((fX1_filled (fX1_bytes mk1 mk2 p0) 4) / 4)

abbrev wsX1_words : List Cond := .code yX1_words cX1_words 2 (some .int) :: wG
set_option maxHeartbeats 4000000 in
set_option maxRecDepth 100000 in
theorem mX1_words (l : Launch) (dC : Nat → ClassId) (dI : Nat → Nat → Nat) (mh0 mh1 mh2 mh3 : Nat) (mc1 mc2 mc3 : ClassId) (mk1 mk2 mk3 : Nat → Int32) (mf0 mf1 mf2 mf3 mf4 mf5 mf6 mf7 mf8 mf9 : Int32) (p0 : Int32) (hp : ¬ p0 = (-1) → vp_in p0 60) : Met l yX1_words wsX1_words ({ frames := 1, cells := 0, slots := 0, locals := 21 }) (va_Pc [.ref mh0, .int p0] (fun U => va_P (dC, dI) vwCl (mW mh0 mh1 mh2 mh3 mc1 mc2 mc3 mk1 mk2 mk3 mf0 mf1 mf2 mf3 mf4 mf5 mf6 mf7 mf8 mf9) U.heap ∧ va_K (dC, dI) vwCl [(mc1, .int), (mc2, .int), (mc3, .int)] U)) (vp_Si (fun r => r = fX1_words mk1 mk2 p0)) 0 0 (fun _ => False) := by
  refine Met.ofW (cc := cX1_words) (maxL := 2) (ret := (some .int)) (by decide) rfl ?_
  intro p e s m args below meth c s₁ B hml hv
  obtain ⟨rfl, hP, hK⟩ := hv
  have hx := B.exec
  have hb := B.bytes
  have hr := B.returns
  have hts := atoms_spec (ws := wsX1_words) B.pre
  have htG := fun (w : Cond) (h : w ∈ wG) => hts w (List.mem_cons_of_mem _ h)
  have hown : s.vm.findClass RX1 = some m.cls := findClass_of_methodNamed B.named
  have hlocks := B.notSynchronized
  have hl := lv_entry ([.ref mh0, .int p0]) (n := 2) (Nat.le_of_ble_eq_true rfl)
  rw [lg_entry_eq]
  generalize (lg_sl ([.ref mh0, .int p0]) ++ List.replicate (2 - (lg_sl ([.ref mh0, .int p0])).length) Slot.unset).toArray = ls at hl ⊢
  have hl : lv_has ls 2 [(0, .ref mh0), (1, .int p0)] := hl
  refine lv_iload_n hx hb dX1_words_0 rfl (lv_at hl 1 rfl) ?_
  refine lv_iconst (v := (-1)) hx hb dX1_words_1 (by decide) ?_
  refine lv_icmp_ne (tgt := 9) hx hb dX1_words_2 (by decide) (fun c_1 => ?_) (fun c_1 => ?_)
  · refine lv_aload_n hx hb dX1_words_9 rfl (lv_at hl 0 rfl) ?_
    refine lv_iload_n hx hb dX1_words_10 rfl (lv_at hl 1 rfl) ?_
    refine vp_callSi (va_runV (As := [.int p0]) (rest := []) ⟨hx, hb, hml, hown, htG⟩ (mX1_bytes l dC dI mh0 mh1 mh2 mh3 mc1 mc2 mc3 mk1 mk2 mk3 mf0 mf1 mf2 mf3 mf4 mf5 mf6 mf7 mf8 mf9 p0 (hp c_1)) (cwV 1 htG (wG_V wd_402 wd_404 wd_14 wd_23 wd_405) rfl rfl rfl (by decide +kernel) ⟨Nat.le_of_ble_eq_true rfl, Nat.le_of_ble_eq_true rfl⟩) ⟨fun a U g mk q => by obtain ⟨q0, qP, qK⟩ := q; exact ⟨q0, qP, va_K.moved (u := U) (U := U.calling g mk a) (Vm.Alike.refl U.vm) qK⟩, va_recv hK hP (ci := 1) (q0 := 0) rfl rfl, fun U hU hW => ⟨rfl, by rw [hU]; exact hP, va_K.moved hW.alike hK⟩⟩ rfl rfl hl.1 rfl (lv_room (Nat.le_of_ble_eq_true rfl)) dX1_words_11 ⟨Nat.le_of_ble_eq_true rfl, Nat.le_of_ble_eq_true rfl⟩).run (fun r_1 er_1 => ?_)
    subst er_1
    refine lv_iconst (v := 4) hx hb dX1_words_14 (by decide) ?_
    refine vp_callSi (va_runS (As := [.int (fX1_bytes mk1 mk2 p0), .int 4]) (rest := []) ⟨hx, hb, hml, hown, htG⟩ (mX1_filled l (fX1_bytes mk1 mk2 p0) 4 (by decide)) (va_cwS 2 htG (wG_S wd_399 wd_400 wd_23 wd_401) rfl rfl rfl (by decide +kernel) ⟨Nat.le_of_ble_eq_true rfl, Nat.le_of_ble_eq_true rfl⟩) ⟨fun _ _ _ _ q => q, fun U hU hW => ⟨rfl, trivial⟩⟩ rfl rfl hl.1 rfl (lv_room (Nat.le_of_ble_eq_true rfl)) dX1_words_15 ⟨Nat.le_of_ble_eq_true rfl, Nat.le_of_ble_eq_true rfl⟩).run (fun r_2 er_2 => ?_)
    subst er_2
    refine lv_iconst (v := 4) hx hb dX1_words_18 (by decide) ?_
    refine lv_idiv hx hb dX1_words_19 (by decide) ?_
    exact W.iret (v := ((fX1_filled (fX1_bytes mk1 mk2 p0) 4) / 4)) hx hb hr (fun t ht hW => ⟨((fX1_filled (fX1_bytes mk1 mk2 p0) 4) / 4), rfl, (by rw [fX1_words, if_neg c_1]), ht⟩) (fun q h => nomatch h) dX1_words_20
  · refine lv_iconst (v := 1) hx hb dX1_words_5 (by decide) ?_
    refine lv_goto (tgt := 20) hx hb dX1_words_6 (by decide) ?_
    exact W.iret (v := 1) hx hb hr (fun t ht hW => ⟨1, rfl, (by rw [fX1_words, if_pos c_1]), ht⟩) (fun q h => nomatch h) dX1_words_20

def fX1_fractionsAt (mf7 mf8 : Int32) : Int32 :=
  (fX1_filled (mf8 + mf7) 8)

abbrev wsX1_fractionsAt : List Cond := .code yX1_fractionsAt cX1_fractionsAt 1 (some .int) :: wG
set_option maxHeartbeats 4000000 in
set_option maxRecDepth 100000 in
theorem mX1_fractionsAt (l : Launch) (dC : Nat → ClassId) (dI : Nat → Nat → Nat) (mh0 mh1 mh2 mh3 : Nat) (mc1 mc2 mc3 : ClassId) (mk1 mk2 mk3 : Nat → Int32) (mf0 mf1 mf2 mf3 mf4 mf5 mf6 mf7 mf8 mf9 : Int32)   : Met l yX1_fractionsAt wsX1_fractionsAt ({ frames := 1, cells := 0, slots := 0, locals := 21 }) (va_Pc [.ref mh0] (fun U => va_P (dC, dI) vwCl (mW mh0 mh1 mh2 mh3 mc1 mc2 mc3 mk1 mk2 mk3 mf0 mf1 mf2 mf3 mf4 mf5 mf6 mf7 mf8 mf9) U.heap ∧ va_K (dC, dI) vwCl [(mc1, .int), (mc2, .int), (mc3, .int)] U)) (vp_Si (fun r => r = fX1_fractionsAt mf7 mf8)) 0 0 (fun _ => False) := by
  refine Met.ofW (cc := cX1_fractionsAt) (maxL := 1) (ret := (some .int)) (by decide) rfl ?_
  intro p e s m args below meth c s₁ B hml hv
  obtain ⟨rfl, hP, hK⟩ := hv
  have hx := B.exec
  have hb := B.bytes
  have hr := B.returns
  have hts := atoms_spec (ws := wsX1_fractionsAt) B.pre
  have htG := fun (w : Cond) (h : w ∈ wG) => hts w (List.mem_cons_of_mem _ h)
  have hown : s.vm.findClass RX1 = some m.cls := findClass_of_methodNamed B.named
  have hlocks := B.notSynchronized
  have hl := lv_entry ([.ref mh0]) (n := 1) (Nat.le_of_ble_eq_true rfl)
  rw [lg_entry_eq]
  generalize (lg_sl ([.ref mh0]) ++ List.replicate (1 - (lg_sl ([.ref mh0])).length) Slot.unset).toArray = ls at hl ⊢
  have hl : lv_has ls 1 [(0, .ref mh0)] := hl
  refine lv_aload_n hx hb dX1_fractionsAt_0 rfl (lv_at hl 0 rfl) ?_
  refine va_get (D := (dC, dI)) (ci := 1) (v := .int mf8) (C := RX1) (T := TX1) (N := 13) hx hb htG inX1 hown hK hP 0 rfl rfl 8 (by decide) (htG _ wd_339) (fun _ h9 => h9) rfl dX1_fractionsAt_1 ?_
  refine lv_aload_n hx hb dX1_fractionsAt_4 rfl (lv_at hl 0 rfl) ?_
  refine va_get (D := (dC, dI)) (ci := 1) (v := .int mf7) (C := RX1) (T := TX1) (N := 13) hx hb htG inX1 hown hK hP 0 rfl rfl 7 (by decide) (htG _ wd_338) (fun _ h9 => h9) rfl dX1_fractionsAt_5 ?_
  refine lv_iadd hx hb dX1_fractionsAt_8 ?_
  refine lv_bipush (v := 8) hx hb dX1_fractionsAt_9 (by decide) ?_
  refine vp_callSi (va_runS (As := [.int (mf8 + mf7), .int 8]) (rest := []) ⟨hx, hb, hml, hown, htG⟩ (mX1_filled l (mf8 + mf7) 8 (by decide)) (va_cwS 2 htG (wG_S wd_399 wd_400 wd_23 wd_401) rfl rfl rfl (by decide +kernel) ⟨Nat.le_of_ble_eq_true rfl, Nat.le_of_ble_eq_true rfl⟩) ⟨fun _ _ _ _ q => q, fun U hU hW => ⟨rfl, trivial⟩⟩ rfl rfl hl.1 rfl (lv_room (Nat.le_of_ble_eq_true rfl)) dX1_fractionsAt_11 ⟨Nat.le_of_ble_eq_true rfl, Nat.le_of_ble_eq_true rfl⟩).run (fun r_1 er_1 => ?_)
  subst er_1
  exact W.iret (v := (fX1_filled (mf8 + mf7) 8)) hx hb hr (fun t ht hW => ⟨(fX1_filled (mf8 + mf7) 8), rfl, (by rw [fX1_fractionsAt]), ht⟩) (fun q h => nomatch h) dX1_fractionsAt_14
end
section
def fX1_fail (mk1 mk2 mk3 : Nat → Int32) (mf0 mf1 mf2 mf3 mf4 mf5 mf6 mf7 mf8 mf9 : Int32) (p0 : Int32) : Int32 × Int32 × mWS :=
  (0, 0, (mk1, mk2, mk3, p0, mf1, mf2, mf3, mf4, mf5, mf6, mf7, mf8, mf9))

abbrev wsX1_fail : List Cond := .code yX1_fail cX1_fail 2 (some .int) :: wG
set_option maxHeartbeats 4000000 in
set_option maxRecDepth 100000 in
theorem mX1_fail (l : Launch) (dC : Nat → ClassId) (dI : Nat → Nat → Nat) (mh0 mh1 mh2 mh3 : Nat) (sz : Nat) (mc1 mc2 mc3 : ClassId) (mk1 mk2 mk3 : Nat → Int32) (mf0 mf1 mf2 mf3 mf4 mf5 mf6 mf7 mf8 mf9 : Int32) (p0 : Int32)  : Met l yX1_fail wsX1_fail ({ frames := 0, cells := 0, slots := 0, locals := 0 }) (va_Pc [.ref mh0, .int p0] (fun U => U.heap.size = sz ∧ va_P (dC, dI) vwCl (mW mh0 mh1 mh2 mh3 mc1 mc2 mc3 mk1 mk2 mk3 mf0 mf1 mf2 mf3 mf4 mf5 mf6 mf7 mf8 mf9) U.heap ∧ va_K (dC, dI) vwCl [(mc1, .int), (mc2, .int), (mc3, .int)] U ∧ va_D (fun _ => True) (mW mh0 mh1 mh2 mh3 mc1 mc2 mc3 mk1 mk2 mk3 mf0 mf1 mf2 mf3 mf4 mf5 mf6 mf7 mf8 mf9))) (va_Qi (fun r u => (0, r, u) = fX1_fail mk1 mk2 mk3 mf0 mf1 mf2 mf3 mf4 mf5 mf6 mf7 mf8 mf9 p0) (mWB dC dI (va_A (mW mh0 mh1 mh2 mh3 mc1 mc2 mc3 mk1 mk2 mk3 mf0 mf1 mf2 mf3 mf4 mf5 mf6 mf7 mf8 mf9) sz) mh0 mh1 mh2 mh3 mc1 mc2 mc3) (va_A (mW mh0 mh1 mh2 mh3 mc1 mc2 mc3 mk1 mk2 mk3 mf0 mf1 mf2 mf3 mf4 mf5 mf6 mf7 mf8 mf9) sz)) 0 0 (va_A (mW mh0 mh1 mh2 mh3 mc1 mc2 mc3 mk1 mk2 mk3 mf0 mf1 mf2 mf3 mf4 mf5 mf6 mf7 mf8 mf9) sz) := by
  refine Met.ofW (cc := cX1_fail) (maxL := 2) (ret := (some .int)) (by decide) rfl ?_
  intro p e s m args below meth c s₁ B hml hv
  obtain ⟨rfl, hsz, hP, hK, hD0⟩ := hv
  have hx := B.exec
  have hb := B.bytes
  have hr := B.returns
  have hts := atoms_spec (ws := wsX1_fail) B.pre
  have htG := fun (w : Cond) (h : w ∈ wG) => hts w (List.mem_cons_of_mem _ h)
  have hown : s.vm.findClass RX1 = some m.cls := findClass_of_methodNamed B.named
  have hlocks := B.notSynchronized
  subst hsz
  have hD := hD0.self (sz := s.heap.size)
  generalize hAe : va_A (mW mh0 mh1 mh2 mh3 mc1 mc2 mc3 mk1 mk2 mk3 mf0 mf1 mf2 mf3 mf4 mf5 mf6 mf7 mf8 mf9) s.heap.size = A at hD ⊢
  have hA : ∀ q : Nat, s.heap.size ≤ q → A q := fun q h => by rw [← hAe]; exact Or.inr h
  have hS : va_S A s.heap s.heap [] := va_S.rf
  have hP : va_P (dC, dI) vwCl (mW mh0 mh1 mh2 mh3 mc1 mc2 mc3 mk1 mk2 mk3 mf0 mf1 mf2 mf3 mf4 mf5 mf6 mf7 mf8 mf9) s.heap := hP
  have hl := lv_entry ([.ref mh0, .int p0]) (n := 2) (Nat.le_of_ble_eq_true rfl)
  rw [lg_entry_eq]
  generalize (lg_sl ([.ref mh0, .int p0]) ++ List.replicate (2 - (lg_sl ([.ref mh0, .int p0])).length) Slot.unset).toArray = ls at hl ⊢
  have hl : lv_has ls 2 [(0, .ref mh0), (1, .int p0)] := hl
  refine lv_aload_n hx hb dX1_fail_0 rfl (lv_at hl 0 rfl) ?_
  refine lv_iload_n hx hb dX1_fail_1 rfl (lv_at hl 1 rfl) ?_
  refine va_put (D := (dC, dI)) (ci := 1) (v := .int p0) (ty := .int) (C := RX1) (T := TX1) (N := 13) hx hb htG inX1 tyX1 tyX1_ok nmX1 hown hK hP hD hS 0 rfl rfl 0 (by decide) (htG _ wd_331) (fun _ h9 => h9) rfl (by decide +kernel) rfl rfl (Nat.le_of_ble_eq_true rfl) dX1_fail_2 (fun H locs hP hD hS => ?_)
  have hP : va_P (dC, dI) vwCl (mW mh0 mh1 mh2 mh3 mc1 mc2 mc3 mk1 mk2 mk3 p0 mf1 mf2 mf3 mf4 mf5 mf6 mf7 mf8 mf9) H := hP
  have hD : va_D A (mW mh0 mh1 mh2 mh3 mc1 mc2 mc3 mk1 mk2 mk3 p0 mf1 mf2 mf3 mf4 mf5 mf6 mf7 mf8 mf9) := hD
  refine lv_iconst (v := 0) hx hb dX1_fail_5 (by decide) ?_
  exact W.iret (v := 0) hx hb hr (fun t ht hW => ⟨⟨0, (mk1, mk2, mk3, p0, mf1, mf2, mf3, mf4, mf5, mf6, mf7, mf8, mf9), rfl, (by rw [fX1_fail]), by rw [ht]; exact hP, va_K.moved hW.alike hK, hD⟩, hS.F ht⟩) hS.2.2 dX1_fail_6
end
section
theorem clamp_def (p : Int32) : p.toNatClampNeg = p.toInt.toNat := rfl
theorem clamp_lt (p : Int32) : p.toNatClampNeg < 2 ^ 31 := by
  have h := Int32.toInt_lt p
  rw [clamp_def]
  omega
theorem le_clamp {p : Int32} {i : Nat} (hi : i ≤ p.toNatClampNeg) (h : p ≤ nI i) : i = p.toNatClampNeg := by
  have h1 := clamp_lt p
  rw [Int32.le_iff_toInt_le, nI_toInt (by omega)] at h
  rw [clamp_def] at hi ⊢
  omega
theorem lt_clamp {p : Int32} {i : Nat} (hi : i ≤ p.toNatClampNeg) (h : ¬ p ≤ nI i) : i < p.toNatClampNeg := by
  have h1 := clamp_lt p
  rw [Int32.le_iff_toInt_le, nI_toInt (by omega)] at h
  rw [clamp_def] at hi ⊢
  omega
end
section
/-- the sum of the bits of p0 below k, each p2 -/
def svM (p0 p2 : Int32) : Nat → Int32
  | 0 => 0
  | k + 1 => svM p0 p2 k + (((p0 >>> (nI k &&& 31)) &&& 1) * p2)
def fX1_saved (p0 p1 p2 : Int32) : Int32 := svM p0 p2 p1.toNatClampNeg
abbrev wsX1_saved : List Cond := .code yX1_saved cX1_saved 5 (some .int) :: wG
set_option maxHeartbeats 4000000 in
set_option maxRecDepth 100000 in
theorem mX1_saved (l : Launch) (p0 p1 p2 : Int32)  : Met l yX1_saved wsX1_saved ({ frames := 0, cells := 0, slots := 0, locals := 0 }) (va_Pc [.int p0, .int p1, .int p2] (fun _ => True)) (vp_Si (fun r => r = fX1_saved p0 p1 p2)) 0 0 (fun _ => False) := by
  refine Met.ofW (cc := cX1_saved) (maxL := 5) (ret := (some .int)) (by decide) rfl ?_
  intro p e s m args below meth c s₁ B hml hv
  obtain ⟨rfl, -⟩ := hv
  have hx := B.exec
  have hb := B.bytes
  have hr := B.returns
  have hts := atoms_spec (ws := wsX1_saved) B.pre
  have htG := fun (w : Cond) (h : w ∈ wG) => hts w (List.mem_cons_of_mem _ h)
  have hown : s.vm.findClass RX1 = some m.cls := findClass_of_methodNamed B.named
  have hlocks := B.notSynchronized
  have loop : ∀ (n i : Nat) (x3 x4 : Int32), x4 = nI i → i ≤ p1.toNatClampNeg → p1.toNatClampNeg + 1 ≤ i + n → x3 = svM p0 p2 i → ∀ (ls : Array Slot), lv_has ls 5 [(0, .int p0), (1, .int p1), (2, .int p2), (3, .int x3), (4, .int x4)] → W p l e (headSpec wsX1_saved ({ frames := 0, cells := 0, slots := 0, locals := 0 })).room s m ([.int p0, .int p1, .int p2] : List Value).toArray below meth c s.heap [] 0 0 (MQ below (vp_Si (fun r => r = fX1_saved p0 p1 p2)) ([.int p0, .int p1, .int p2] : List Value).toArray s 0 0 (fun _ => False)) (F0 m 5 ls []) := by
    intro n
    induction n with
    | zero =>
      intro i x3 x4 e1 hi hn
      exact absurd hn (by omega)
    | succ n ih =>
      intro i x3 x4 e1 hi hn e2 ls hl
      refine lv_iload hx hb dX1_saved_5 (lv_at hl 4 rfl) ?_
      refine lv_iload_n hx hb dX1_saved_7 rfl (lv_at hl 1 rfl) ?_
      refine lv_icmp_ge (tgt := 28) hx hb dX1_saved_8 (by decide) (fun c_1 => ?_) (fun c_1 => ?_)
      · refine lv_iload_n hx hb dX1_saved_28 rfl (lv_at hl 3 rfl) ?_
        exact W.iret (v := x3) hx hb hr (fun t ht hW => ⟨x3, rfl, (by rw [e2, fX1_saved, ← le_clamp hi (by rw [← e1]; exact c_1)]), ht⟩) (fun q h => nomatch h) dX1_saved_29
      · refine lv_iload_n hx hb dX1_saved_11 rfl (lv_at hl 3 rfl) ?_
        refine lv_iload_n hx hb dX1_saved_12 rfl (lv_at hl 0 rfl) ?_
        refine lv_iload hx hb dX1_saved_13 (lv_at hl 4 rfl) ?_
        refine lv_ishr hx hb dX1_saved_15 ?_
        refine lv_iconst (v := 1) hx hb dX1_saved_16 (by decide) ?_
        refine lv_iand hx hb dX1_saved_17 ?_
        refine lv_iload_n hx hb dX1_saved_18 rfl (lv_at hl 2 rfl) ?_
        refine lv_imul hx hb dX1_saved_19 ?_
        refine lv_iadd hx hb dX1_saved_20 ?_
        refine lv_istore_n (lv' := [(3, .int (x3 + (((p0 >>> (x4 &&& 31)) &&& 1) * p2))), (0, .int p0), (1, .int p1), (2, .int p2), (4, .int x4)]) hx hb dX1_saved_21 rfl hl (by decide) rfl (fun ls hl => ?_)
        refine lv_iinc (v := (x4 + 1)) (lv' := [(4, .int (x4 + 1)), (3, .int (x3 + (((p0 >>> (x4 &&& 31)) &&& 1) * p2))), (0, .int p0), (1, .int p1), (2, .int p2)]) hx hb dX1_saved_22 hl (k := 4) rfl rfl (by decide) rfl (fun ls hl => ?_)
        refine lv_goto (tgt := 5) hx hb dX1_saved_25 (by decide) ?_
        exact ih (i + 1) _ _ (by rw [e1]; exact nI_1 i) (lt_clamp hi (by rw [← e1]; exact c_1)) (by omega) (by rw [e2, svM, e1]) ls (lv_sub hl [2, 3, 4, 1, 0] rfl)
  have hl := lv_entry ([.int p0, .int p1, .int p2]) (n := 5) (Nat.le_of_ble_eq_true rfl)
  rw [lg_entry_eq]
  generalize (lg_sl ([.int p0, .int p1, .int p2]) ++ List.replicate (5 - (lg_sl ([.int p0, .int p1, .int p2])).length) Slot.unset).toArray = ls at hl ⊢
  have hl : lv_has ls 5 [(0, .int p0), (1, .int p1), (2, .int p2)] := hl
  refine lv_iconst (v := 0) hx hb dX1_saved_0 (by decide) ?_
  refine lv_istore_n (lv' := [(3, .int 0), (0, .int p0), (1, .int p1), (2, .int p2)]) hx hb dX1_saved_1 rfl hl (by decide) rfl (fun ls hl => ?_)
  refine lv_iconst (v := 0) hx hb dX1_saved_2 (by decide) ?_
  refine lv_istore (lv' := [(4, .int 0), (3, .int 0), (0, .int p0), (1, .int p1), (2, .int p2)]) hx hb dX1_saved_3 hl (by decide) rfl (fun ls hl => ?_)
  exact loop (p1.toNatClampNeg + 1) 0 _ _ nI_0.symm (Nat.zero_le _) (by omega) rfl ls (lv_sub hl [2, 3, 4, 1, 0] rfl)
end
section
/-- the end of the homes of the first k arguments -/
def hM (mk1 mk2 mk3 : Nat → Int32) (mf1 : Int32) : Nat → Int32
  | 0 => if mf1 = 3 then 4 else 0
  | k + 1 => if fX1_isWide mk1 mk3 (nI k) = 0 then hM mk1 mk2 mk3 mf1 k + fX1_filled (fX1_bytes mk1 mk2 (nI k)) 4 else fX1_filled (hM mk1 mk2 mk3 mf1 k) 8 + fX1_filled (fX1_bytes mk1 mk2 (nI k)) 4
def fX1_home (mk1 mk2 mk3 : Nat → Int32) (mf1 mf2 p0 : Int32) : Int32 := if mf2 ≤ p0 then hM mk1 mk2 mk3 mf1 p0.toNatClampNeg else if fX1_isWide mk1 mk3 p0 = 0 then hM mk1 mk2 mk3 mf1 p0.toNatClampNeg else fX1_filled (hM mk1 mk2 mk3 mf1 p0.toNatClampNeg) 8
abbrev wsX1_home : List Cond := .code yX1_home cX1_home 4 (some .int) :: wG
set_option maxHeartbeats 4000000 in
set_option maxRecDepth 100000 in
theorem mX1_home (l : Launch) (dC : Nat → ClassId) (dI : Nat → Nat → Nat) (mh0 mh1 mh2 mh3 : Nat) (mc1 mc2 mc3 : ClassId) (mk1 mk2 mk3 : Nat → Int32) (mf0 mf1 mf2 mf3 mf4 mf5 mf6 mf7 mf8 mf9 : Int32) (p0 : Int32) (hN : p0.toNatClampNeg ≤ 60) (hp : ¬ mf2 ≤ p0 → vp_in p0 60) : Met l yX1_home wsX1_home ({ frames := 1, cells := 0, slots := 0, locals := 21 }) (va_Pc [.ref mh0, .int p0] (fun U => va_P (dC, dI) vwCl (mW mh0 mh1 mh2 mh3 mc1 mc2 mc3 mk1 mk2 mk3 mf0 mf1 mf2 mf3 mf4 mf5 mf6 mf7 mf8 mf9) U.heap ∧ va_K (dC, dI) vwCl [(mc1, .int), (mc2, .int), (mc3, .int)] U)) (vp_Si (fun r => r = fX1_home mk1 mk2 mk3 mf1 mf2 p0)) 0 0 (fun _ => False) := by
  refine Met.ofW (cc := cX1_home) (maxL := 4) (ret := (some .int)) (by decide) rfl ?_
  intro p e s m args below meth c s₁ B hml hv
  obtain ⟨rfl, hP, hK⟩ := hv
  have hx := B.exec
  have hb := B.bytes
  have hr := B.returns
  have hts := atoms_spec (ws := wsX1_home) B.pre
  have htG := fun (w : Cond) (h : w ∈ wG) => hts w (List.mem_cons_of_mem _ h)
  have hown : s.vm.findClass RX1 = some m.cls := findClass_of_methodNamed B.named
  have hlocks := B.notSynchronized
  have loop : ∀ (n i : Nat) (x2 x3 : Int32), x3 = nI i → i ≤ p0.toNatClampNeg → p0.toNatClampNeg + 1 ≤ i + n → x2 = hM mk1 mk2 mk3 mf1 i → ∀ (ls : Array Slot), lv_has ls 4 [(0, .ref mh0), (1, .int p0), (2, .int x2), (3, .int x3)] → W p l e (headSpec wsX1_home ({ frames := 1, cells := 0, slots := 0, locals := 21 })).room s m ([.ref mh0, .int p0] : List Value).toArray below meth c s.heap [] 0 0 (MQ below (vp_Si (fun r => r = fX1_home mk1 mk2 mk3 mf1 mf2 p0)) ([.ref mh0, .int p0] : List Value).toArray s 0 0 (fun _ => False)) (F0 m 16 ls []) := by
    intro n
    induction n with
    | zero =>
      intro i x2 x3 e1 hi hn
      exact absurd hn (by omega)
    | succ n ih =>
      intro i x2 x3 e1 hi hn e2 ls hl
      refine lv_iload_n hx hb dX1_home_16 rfl (lv_at hl 3 rfl) ?_
      refine lv_iload_n hx hb dX1_home_17 rfl (lv_at hl 1 rfl) ?_
      refine lv_icmp_ge (tgt := 54) hx hb dX1_home_18 (by decide) (fun c_1 => ?_) (fun c_1 => ?_)
      · refine lv_iload_n hx hb dX1_home_54 rfl (lv_at hl 1 rfl) ?_
        refine lv_aload_n hx hb dX1_home_55 rfl (lv_at hl 0 rfl) ?_
        refine va_get (D := (dC, dI)) (ci := 1) (v := .int mf2) (C := RX1) (T := TX1) (N := 13) hx hb htG inX1 hown hK hP 0 rfl rfl 2 (by decide) (htG _ wd_333) (fun _ h9 => h9) rfl dX1_home_56 ?_
        refine lv_icmp_ge (tgt := 79) hx hb dX1_home_59 (by decide) (fun c_2 => ?_) (fun c_2 => ?_)
        · refine lv_iload_n hx hb dX1_home_79 rfl (lv_at hl 2 rfl) ?_
          exact W.iret (v := x2) hx hb hr (fun t ht hW => ⟨x2, rfl, (by rw [fX1_home, if_pos c_2, e2, ← le_clamp hi (by rw [← e1]; exact c_1)]), ht⟩) (fun q h => nomatch h) dX1_home_80
        · refine lv_aload_n hx hb dX1_home_62 rfl (lv_at hl 0 rfl) ?_
          refine lv_iload_n hx hb dX1_home_63 rfl (lv_at hl 1 rfl) ?_
          refine vp_callSi (va_runV (As := [.int p0]) (rest := []) ⟨hx, hb, hml, hown, htG⟩ (mX1_isWide l dC dI mh0 mh1 mh2 mh3 mc1 mc2 mc3 mk1 mk2 mk3 mf0 mf1 mf2 mf3 mf4 mf5 mf6 mf7 mf8 mf9 p0 (hp c_2)) (cwV 1 htG (wG_V wd_395 wd_397 wd_13 wd_23 wd_398) rfl rfl rfl (by decide +kernel) ⟨Nat.le_of_ble_eq_true rfl, Nat.le_of_ble_eq_true rfl⟩) ⟨fun a U g mk q => by obtain ⟨q0, qP, qK⟩ := q; exact ⟨q0, qP, va_K.moved (u := U) (U := U.calling g mk a) (Vm.Alike.refl U.vm) qK⟩, va_recv hK hP (ci := 1) (q0 := 0) rfl rfl, fun U hU hW => ⟨rfl, by rw [hU]; exact hP, va_K.moved hW.alike hK⟩⟩ rfl rfl hl.1 rfl (lv_room (Nat.le_of_ble_eq_true rfl)) dX1_home_64 ⟨Nat.le_of_ble_eq_true rfl, Nat.le_of_ble_eq_true rfl⟩).run (fun r_1 er_1 => ?_)
          subst er_1
          refine lv_if_eq (tgt := 79) hx hb dX1_home_67 (by decide) (fun c_3 => ?_) (fun c_3 => ?_)
          · refine lv_iload_n hx hb dX1_home_79 rfl (lv_at hl 2 rfl) ?_
            exact W.iret (v := x2) hx hb hr (fun t ht hW => ⟨x2, rfl, (by rw [fX1_home, if_neg c_2, if_pos c_3, e2, ← le_clamp hi (by rw [← e1]; exact c_1)]), ht⟩) (fun q h => nomatch h) dX1_home_80
          · refine lv_iload_n hx hb dX1_home_70 rfl (lv_at hl 2 rfl) ?_
            refine lv_bipush (v := 8) hx hb dX1_home_71 (by decide) ?_
            refine vp_callSi (va_runS (As := [.int x2, .int 8]) (rest := []) ⟨hx, hb, hml, hown, htG⟩ (mX1_filled l x2 8 (by decide)) (va_cwS 2 htG (wG_S wd_399 wd_400 wd_23 wd_401) rfl rfl rfl (by decide +kernel) ⟨Nat.le_of_ble_eq_true rfl, Nat.le_of_ble_eq_true rfl⟩) ⟨fun _ _ _ _ q => q, fun U hU hW => ⟨rfl, trivial⟩⟩ rfl rfl hl.1 rfl (lv_room (Nat.le_of_ble_eq_true rfl)) dX1_home_73 ⟨Nat.le_of_ble_eq_true rfl, Nat.le_of_ble_eq_true rfl⟩).run (fun r_2 er_2 => ?_)
            subst er_2
            refine lv_goto (tgt := 80) hx hb dX1_home_76 (by decide) ?_
            exact W.iret (v := (fX1_filled x2 8)) hx hb hr (fun t ht hW => ⟨(fX1_filled x2 8), rfl, (by rw [fX1_home, if_neg c_2, if_neg c_3, e2, ← le_clamp hi (by rw [← e1]; exact c_1)]), ht⟩) (fun q h => nomatch h) dX1_home_80
      · refine lv_aload_n hx hb dX1_home_21 rfl (lv_at hl 0 rfl) ?_
        refine lv_iload_n hx hb dX1_home_22 rfl (lv_at hl 3 rfl) ?_
        refine vp_callSi (va_runV (As := [.int x3]) (rest := []) ⟨hx, hb, hml, hown, htG⟩ (mX1_isWide l dC dI mh0 mh1 mh2 mh3 mc1 mc2 mc3 mk1 mk2 mk3 mf0 mf1 mf2 mf3 mf4 mf5 mf6 mf7 mf8 mf9 x3 (by rw [e1]; exact vp_in_nI (Nat.lt_of_lt_of_le (lt_clamp hi (by rw [← e1]; exact c_1)) hN) (by decide))) (cwV 1 htG (wG_V wd_395 wd_397 wd_13 wd_23 wd_398) rfl rfl rfl (by decide +kernel) ⟨Nat.le_of_ble_eq_true rfl, Nat.le_of_ble_eq_true rfl⟩) ⟨fun a U g mk q => by obtain ⟨q0, qP, qK⟩ := q; exact ⟨q0, qP, va_K.moved (u := U) (U := U.calling g mk a) (Vm.Alike.refl U.vm) qK⟩, va_recv hK hP (ci := 1) (q0 := 0) rfl rfl, fun U hU hW => ⟨rfl, by rw [hU]; exact hP, va_K.moved hW.alike hK⟩⟩ rfl rfl hl.1 rfl (lv_room (Nat.le_of_ble_eq_true rfl)) dX1_home_23 ⟨Nat.le_of_ble_eq_true rfl, Nat.le_of_ble_eq_true rfl⟩).run (fun r_3 er_3 => ?_)
        subst er_3
        refine lv_if_eq (tgt := 36) hx hb dX1_home_26 (by decide) (fun c_4 => ?_) (fun c_4 => ?_)
        · refine lv_iload_n hx hb dX1_home_36 rfl (lv_at hl 2 rfl) ?_
          refine lv_aload_n hx hb dX1_home_37 rfl (lv_at hl 0 rfl) ?_
          refine lv_iload_n hx hb dX1_home_38 rfl (lv_at hl 3 rfl) ?_
          refine vp_callSi (va_runV (As := [.int x3]) (rest := [.int x2]) ⟨hx, hb, hml, hown, htG⟩ (mX1_bytes l dC dI mh0 mh1 mh2 mh3 mc1 mc2 mc3 mk1 mk2 mk3 mf0 mf1 mf2 mf3 mf4 mf5 mf6 mf7 mf8 mf9 x3 (by rw [e1]; exact vp_in_nI (Nat.lt_of_lt_of_le (lt_clamp hi (by rw [← e1]; exact c_1)) hN) (by decide))) (cwV 1 htG (wG_V wd_402 wd_404 wd_14 wd_23 wd_405) rfl rfl rfl (by decide +kernel) ⟨Nat.le_of_ble_eq_true rfl, Nat.le_of_ble_eq_true rfl⟩) ⟨fun a U g mk q => by obtain ⟨q0, qP, qK⟩ := q; exact ⟨q0, qP, va_K.moved (u := U) (U := U.calling g mk a) (Vm.Alike.refl U.vm) qK⟩, va_recv hK hP (ci := 1) (q0 := 0) rfl rfl, fun U hU hW => ⟨rfl, by rw [hU]; exact hP, va_K.moved hW.alike hK⟩⟩ rfl rfl hl.1 rfl (lv_room (Nat.le_of_ble_eq_true rfl)) dX1_home_39 ⟨Nat.le_of_ble_eq_true rfl, Nat.le_of_ble_eq_true rfl⟩).run (fun r_4 er_4 => ?_)
          subst er_4
          refine lv_iconst (v := 4) hx hb dX1_home_42 (by decide) ?_
          refine vp_callSi (va_runS (As := [.int (fX1_bytes mk1 mk2 x3), .int 4]) (rest := [.int x2]) ⟨hx, hb, hml, hown, htG⟩ (mX1_filled l (fX1_bytes mk1 mk2 x3) 4 (by decide)) (va_cwS 2 htG (wG_S wd_399 wd_400 wd_23 wd_401) rfl rfl rfl (by decide +kernel) ⟨Nat.le_of_ble_eq_true rfl, Nat.le_of_ble_eq_true rfl⟩) ⟨fun _ _ _ _ q => q, fun U hU hW => ⟨rfl, trivial⟩⟩ rfl rfl hl.1 rfl (lv_room (Nat.le_of_ble_eq_true rfl)) dX1_home_43 ⟨Nat.le_of_ble_eq_true rfl, Nat.le_of_ble_eq_true rfl⟩).run (fun r_5 er_5 => ?_)
          subst er_5
          refine lv_iadd hx hb dX1_home_46 ?_
          refine lv_istore_n (lv' := [(2, .int (x2 + (fX1_filled (fX1_bytes mk1 mk2 x3) 4))), (0, .ref mh0), (1, .int p0), (3, .int x3)]) hx hb dX1_home_47 rfl hl (by decide) rfl (fun ls hl => ?_)
          refine lv_iinc (v := (x3 + 1)) (lv' := [(3, .int (x3 + 1)), (2, .int (x2 + (fX1_filled (fX1_bytes mk1 mk2 x3) 4))), (0, .ref mh0), (1, .int p0)]) hx hb dX1_home_48 hl (k := 3) rfl rfl (by decide) rfl (fun ls hl => ?_)
          refine lv_goto (tgt := 16) hx hb dX1_home_51 (by decide) ?_
          exact ih (i + 1) _ _ (by rw [e1]; exact nI_1 i) (lt_clamp hi (by rw [← e1]; exact c_1)) (by omega) (by rw [e2, hM, ← e1, if_pos c_4]) ls (lv_sub hl [2, 3, 1, 0] rfl)
        · refine lv_iload_n hx hb dX1_home_29 rfl (lv_at hl 2 rfl) ?_
          refine lv_bipush (v := 8) hx hb dX1_home_30 (by decide) ?_
          refine vp_callSi (va_runS (As := [.int x2, .int 8]) (rest := []) ⟨hx, hb, hml, hown, htG⟩ (mX1_filled l x2 8 (by decide)) (va_cwS 2 htG (wG_S wd_399 wd_400 wd_23 wd_401) rfl rfl rfl (by decide +kernel) ⟨Nat.le_of_ble_eq_true rfl, Nat.le_of_ble_eq_true rfl⟩) ⟨fun _ _ _ _ q => q, fun U hU hW => ⟨rfl, trivial⟩⟩ rfl rfl hl.1 rfl (lv_room (Nat.le_of_ble_eq_true rfl)) dX1_home_32 ⟨Nat.le_of_ble_eq_true rfl, Nat.le_of_ble_eq_true rfl⟩).run (fun r_6 er_6 => ?_)
          subst er_6
          refine lv_istore_n (lv' := [(2, .int (fX1_filled x2 8)), (0, .ref mh0), (1, .int p0), (3, .int x3)]) hx hb dX1_home_35 rfl hl (by decide) rfl (fun ls hl => ?_)
          refine lv_iload_n hx hb dX1_home_36 rfl (lv_at hl 0 rfl) ?_
          refine lv_aload_n hx hb dX1_home_37 rfl (lv_at hl 1 rfl) ?_
          refine lv_iload_n hx hb dX1_home_38 rfl (lv_at hl 3 rfl) ?_
          refine vp_callSi (va_runV (As := [.int x3]) (rest := [.int (fX1_filled x2 8)]) ⟨hx, hb, hml, hown, htG⟩ (mX1_bytes l dC dI mh0 mh1 mh2 mh3 mc1 mc2 mc3 mk1 mk2 mk3 mf0 mf1 mf2 mf3 mf4 mf5 mf6 mf7 mf8 mf9 x3 (by rw [e1]; exact vp_in_nI (Nat.lt_of_lt_of_le (lt_clamp hi (by rw [← e1]; exact c_1)) hN) (by decide))) (cwV 1 htG (wG_V wd_402 wd_404 wd_14 wd_23 wd_405) rfl rfl rfl (by decide +kernel) ⟨Nat.le_of_ble_eq_true rfl, Nat.le_of_ble_eq_true rfl⟩) ⟨fun a U g mk q => by obtain ⟨q0, qP, qK⟩ := q; exact ⟨q0, qP, va_K.moved (u := U) (U := U.calling g mk a) (Vm.Alike.refl U.vm) qK⟩, va_recv hK hP (ci := 1) (q0 := 0) rfl rfl, fun U hU hW => ⟨rfl, by rw [hU]; exact hP, va_K.moved hW.alike hK⟩⟩ rfl rfl hl.1 rfl (lv_room (Nat.le_of_ble_eq_true rfl)) dX1_home_39 ⟨Nat.le_of_ble_eq_true rfl, Nat.le_of_ble_eq_true rfl⟩).run (fun r_7 er_7 => ?_)
          subst er_7
          refine lv_iconst (v := 4) hx hb dX1_home_42 (by decide) ?_
          refine vp_callSi (va_runS (As := [.int (fX1_bytes mk1 mk2 x3), .int 4]) (rest := [.int (fX1_filled x2 8)]) ⟨hx, hb, hml, hown, htG⟩ (mX1_filled l (fX1_bytes mk1 mk2 x3) 4 (by decide)) (va_cwS 2 htG (wG_S wd_399 wd_400 wd_23 wd_401) rfl rfl rfl (by decide +kernel) ⟨Nat.le_of_ble_eq_true rfl, Nat.le_of_ble_eq_true rfl⟩) ⟨fun _ _ _ _ q => q, fun U hU hW => ⟨rfl, trivial⟩⟩ rfl rfl hl.1 rfl (lv_room (Nat.le_of_ble_eq_true rfl)) dX1_home_43 ⟨Nat.le_of_ble_eq_true rfl, Nat.le_of_ble_eq_true rfl⟩).run (fun r_8 er_8 => ?_)
          subst er_8
          refine lv_iadd hx hb dX1_home_46 ?_
          refine lv_istore_n (lv' := [(2, .int ((fX1_filled x2 8) + (fX1_filled (fX1_bytes mk1 mk2 x3) 4))), (0, .ref mh0), (1, .int p0), (3, .int x3)]) hx hb dX1_home_47 rfl hl (by decide) rfl (fun ls hl => ?_)
          refine lv_iinc (v := (x3 + 1)) (lv' := [(3, .int (x3 + 1)), (2, .int ((fX1_filled x2 8) + (fX1_filled (fX1_bytes mk1 mk2 x3) 4))), (0, .ref mh0), (1, .int p0)]) hx hb dX1_home_48 hl (k := 3) rfl rfl (by decide) rfl (fun ls hl => ?_)
          refine lv_goto (tgt := 16) hx hb dX1_home_51 (by decide) ?_
          exact ih (i + 1) _ _ (by rw [e1]; exact nI_1 i) (lt_clamp hi (by rw [← e1]; exact c_1)) (by omega) (by rw [e2, hM, ← e1, if_neg c_4]) ls (lv_sub hl [2, 3, 1, 0] rfl)
  have hl := lv_entry ([.ref mh0, .int p0]) (n := 4) (Nat.le_of_ble_eq_true rfl)
  rw [lg_entry_eq]
  generalize (lg_sl ([.ref mh0, .int p0]) ++ List.replicate (4 - (lg_sl ([.ref mh0, .int p0])).length) Slot.unset).toArray = ls at hl ⊢
  have hl : lv_has ls 4 [(0, .ref mh0), (1, .int p0)] := hl
  refine lv_aload_n hx hb dX1_home_0 rfl (lv_at hl 0 rfl) ?_
  refine va_get (D := (dC, dI)) (ci := 1) (v := .int mf1) (C := RX1) (T := TX1) (N := 13) hx hb htG inX1 hown hK hP 0 rfl rfl 1 (by decide) (htG _ wd_332) (fun _ h9 => h9) rfl dX1_home_1 ?_
  refine lv_iconst (v := 3) hx hb dX1_home_4 (by decide) ?_
  refine lv_icmp_ne (tgt := 12) hx hb dX1_home_5 (by decide) (fun c_5 => ?_) (fun c_5 => ?_)
  · refine lv_iconst (v := 0) hx hb dX1_home_12 (by decide) ?_
    refine lv_istore_n (lv' := [(2, .int 0), (0, .ref mh0), (1, .int p0)]) hx hb dX1_home_13 rfl hl (by decide) rfl (fun ls hl => ?_)
    refine lv_iconst (v := 0) hx hb dX1_home_14 (by decide) ?_
    refine lv_istore_n (lv' := [(3, .int 0), (2, .int 0), (0, .ref mh0), (1, .int p0)]) hx hb dX1_home_15 rfl hl (by decide) rfl (fun ls hl => ?_)
    exact loop (p0.toNatClampNeg + 1) 0 _ _ nI_0.symm (Nat.zero_le _) (by omega) (by rw [hM, if_neg c_5]) ls (lv_sub hl [2, 3, 1, 0] rfl)
  · refine lv_iconst (v := 4) hx hb dX1_home_8 (by decide) ?_
    refine lv_goto (tgt := 13) hx hb dX1_home_9 (by decide) ?_
    refine lv_istore_n (lv' := [(2, .int 4), (0, .ref mh0), (1, .int p0)]) hx hb dX1_home_13 rfl hl (by decide) rfl (fun ls hl => ?_)
    refine lv_iconst (v := 0) hx hb dX1_home_14 (by decide) ?_
    refine lv_istore_n (lv' := [(3, .int 0), (2, .int 4), (0, .ref mh0), (1, .int p0)]) hx hb dX1_home_15 rfl hl (by decide) rfl (fun ls hl => ?_)
    exact loop (p0.toNatClampNeg + 1) 0 _ _ nI_0.symm (Nat.zero_le _) (by omega) (by rw [hM, if_pos c_5]) ls (lv_sub hl [2, 3, 1, 0] rfl)
end
section
theorem ile_refl (x : Int32) : x ≤ x := Int32.le_iff_toInt_le.mpr (Int.le_refl _)
theorem in_0 : vp_in 0 60 := in_lt (M := 60) (by decide) (by decide) (by decide)
theorem in_le {i : Int32} (h : vp_in i 60) : i.toNatClampNeg ≤ 60 := by
  rw [vp_in_iff] at h
  rw [clamp_def]
  omega
theorem isThere_in {mf1 mf2 p0 : Int32} (hN : mf2.toNatClampNeg ≤ 60) (h : ¬ fX1_isThere mf1 mf2 p0 = 0) (h2 : ¬ p0 = (-1)) : vp_in p0 60 := by
  unfold fX1_isThere at h
  by_cases h1 : p0 < 0
  · rw [if_pos h1, if_neg h2] at h; exact absurd rfl h
  · rw [if_neg h1] at h
    by_cases h3 : p0 < mf2
    · rw [Int32.lt_iff_toInt_lt] at h3
      rw [Int32.lt_iff_toInt_lt, Int32.toInt_zero] at h1
      rw [clamp_def] at hN
      rw [vp_in_iff]
      omega
    · rw [if_neg h3, if_neg h2] at h; exact absurd rfl h
theorem inc_dec (x : Int32) : x + 1 - 1 = x := Int32.add_sub_cancel x 1
theorem add_in {x : Int32} (h0 : ¬ x < 0) (hN : x.toNatClampNeg ≤ 60) (h : ¬ x = 60) : vp_in x 60 := by
  have h1 := ne_toInt h
  rw [Int32.lt_iff_toInt_lt, Int32.toInt_zero] at h0
  rw [clamp_def] at hN
  rw [vp_in_iff]
  have h2 : (60 : Int32).toInt = 60 := by decide
  rw [h2] at h1
  omega
end
section
def fX1_area (mk1 mk2 mk3 : Nat → Int32) (mf1 mf2 : Int32) : Int32 :=
  if 16 ≤ (fX1_filled (fX1_home mk1 mk2 mk3 mf1 mf2 mf2) 8) then (fX1_filled (fX1_home mk1 mk2 mk3 mf1 mf2 mf2) 8)
  else 16

abbrev wsX1_area : List Cond := .code yX1_area cX1_area 2 (some .int) :: wG
set_option maxHeartbeats 4000000 in
set_option maxRecDepth 100000 in
theorem mX1_area (l : Launch) (dC : Nat → ClassId) (dI : Nat → Nat → Nat) (mh0 mh1 mh2 mh3 : Nat) (mc1 mc2 mc3 : ClassId) (mk1 mk2 mk3 : Nat → Int32) (mf0 mf1 mf2 mf3 mf4 mf5 mf6 mf7 mf8 mf9 : Int32)  (hN : mf2.toNatClampNeg ≤ 60) : Met l yX1_area wsX1_area ({ frames := 2, cells := 0, slots := 0, locals := 44 }) (va_Pc [.ref mh0] (fun U => va_P (dC, dI) vwCl (mW mh0 mh1 mh2 mh3 mc1 mc2 mc3 mk1 mk2 mk3 mf0 mf1 mf2 mf3 mf4 mf5 mf6 mf7 mf8 mf9) U.heap ∧ va_K (dC, dI) vwCl [(mc1, .int), (mc2, .int), (mc3, .int)] U)) (vp_Si (fun r => r = fX1_area mk1 mk2 mk3 mf1 mf2)) 0 0 (fun _ => False) := by
  refine Met.ofW (cc := cX1_area) (maxL := 2) (ret := (some .int)) (by decide) rfl ?_
  intro p e s m args below meth c s₁ B hml hv
  obtain ⟨rfl, hP, hK⟩ := hv
  have hx := B.exec
  have hb := B.bytes
  have hr := B.returns
  have hts := atoms_spec (ws := wsX1_area) B.pre
  have htG := fun (w : Cond) (h : w ∈ wG) => hts w (List.mem_cons_of_mem _ h)
  have hown : s.vm.findClass RX1 = some m.cls := findClass_of_methodNamed B.named
  have hlocks := B.notSynchronized
  have hl := lv_entry ([.ref mh0]) (n := 2) (Nat.le_of_ble_eq_true rfl)
  rw [lg_entry_eq]
  generalize (lg_sl ([.ref mh0]) ++ List.replicate (2 - (lg_sl ([.ref mh0])).length) Slot.unset).toArray = ls at hl ⊢
  have hl : lv_has ls 2 [(0, .ref mh0)] := hl
  refine lv_aload_n hx hb dX1_area_0 rfl (lv_at hl 0 rfl) ?_
  refine lv_aload_n hx hb dX1_area_1 rfl (lv_at hl 0 rfl) ?_
  refine va_get (D := (dC, dI)) (ci := 1) (v := .int mf2) (C := RX1) (T := TX1) (N := 13) hx hb htG inX1 hown hK hP 0 rfl rfl 2 (by decide) (htG _ wd_333) (fun _ h9 => h9) rfl dX1_area_2 ?_
  refine vp_callSi (va_runV (As := [.int mf2]) (rest := []) ⟨hx, hb, hml, hown, htG⟩ (mX1_home l dC dI mh0 mh1 mh2 mh3 mc1 mc2 mc3 mk1 mk2 mk3 mf0 mf1 mf2 mf3 mf4 mf5 mf6 mf7 mf8 mf9 mf2 hN (fun h => absurd (ile_refl _) h)) (cwV 1 htG (wG_V wd_391 wd_393 wd_12 wd_23 wd_394) rfl rfl rfl (by decide +kernel) ⟨Nat.le_of_ble_eq_true rfl, Nat.le_of_ble_eq_true rfl⟩) ⟨fun a U g mk q => by obtain ⟨q0, qP, qK⟩ := q; exact ⟨q0, qP, va_K.moved (u := U) (U := U.calling g mk a) (Vm.Alike.refl U.vm) qK⟩, va_recv hK hP (ci := 1) (q0 := 0) rfl rfl, fun U hU hW => ⟨rfl, by rw [hU]; exact hP, va_K.moved hW.alike hK⟩⟩ rfl rfl hl.1 rfl (lv_room (Nat.le_of_ble_eq_true rfl)) dX1_area_5 ⟨Nat.le_of_ble_eq_true rfl, Nat.le_of_ble_eq_true rfl⟩).run (fun r_1 er_1 => ?_)
  subst er_1
  refine lv_bipush (v := 8) hx hb dX1_area_8 (by decide) ?_
  refine vp_callSi (va_runS (As := [.int (fX1_home mk1 mk2 mk3 mf1 mf2 mf2), .int 8]) (rest := []) ⟨hx, hb, hml, hown, htG⟩ (mX1_filled l (fX1_home mk1 mk2 mk3 mf1 mf2 mf2) 8 (by decide)) (va_cwS 2 htG (wG_S wd_399 wd_400 wd_23 wd_401) rfl rfl rfl (by decide +kernel) ⟨Nat.le_of_ble_eq_true rfl, Nat.le_of_ble_eq_true rfl⟩) ⟨fun _ _ _ _ q => q, fun U hU hW => ⟨rfl, trivial⟩⟩ rfl rfl hl.1 rfl (lv_room (Nat.le_of_ble_eq_true rfl)) dX1_area_10 ⟨Nat.le_of_ble_eq_true rfl, Nat.le_of_ble_eq_true rfl⟩).run (fun r_2 er_2 => ?_)
  subst er_2
  refine lv_istore_n (lv' := [(1, .int (fX1_filled (fX1_home mk1 mk2 mk3 mf1 mf2 mf2) 8)), (0, .ref mh0)]) hx hb dX1_area_13 rfl hl (by decide) rfl (fun ls hl => ?_)
  refine lv_iload_n hx hb dX1_area_14 rfl (lv_at hl 0 rfl) ?_
  refine lv_bipush (v := 16) hx hb dX1_area_15 (by decide) ?_
  refine lv_icmp_ge (tgt := 25) hx hb dX1_area_17 (by decide) (fun c_1 => ?_) (fun c_1 => ?_)
  · refine lv_iload_n hx hb dX1_area_25 rfl (lv_at hl 0 rfl) ?_
    exact W.iret (v := (fX1_filled (fX1_home mk1 mk2 mk3 mf1 mf2 mf2) 8)) hx hb hr (fun t ht hW => ⟨(fX1_filled (fX1_home mk1 mk2 mk3 mf1 mf2 mf2) 8), rfl, (by rw [fX1_area, if_pos c_1]), ht⟩) (fun q h => nomatch h) dX1_area_26
  · refine lv_bipush (v := 16) hx hb dX1_area_20 (by decide) ?_
    refine lv_goto (tgt := 26) hx hb dX1_area_22 (by decide) ?_
    exact W.iret (v := 16) hx hb hr (fun t ht hW => ⟨16, rfl, (by rw [fX1_area, if_neg c_1]), ht⟩) (fun q h => nomatch h) dX1_area_26

def fX1_generalAt (mf6 mf7 mf8 : Int32) : Int32 :=
  ((fX1_fractionsAt mf7 mf8) + (fX1_saved mf6 32 8))

abbrev wsX1_generalAt : List Cond := .code yX1_generalAt cX1_generalAt 1 (some .int) :: wG
set_option maxHeartbeats 4000000 in
set_option maxRecDepth 100000 in
theorem mX1_generalAt (l : Launch) (dC : Nat → ClassId) (dI : Nat → Nat → Nat) (mh0 mh1 mh2 mh3 : Nat) (mc1 mc2 mc3 : ClassId) (mk1 mk2 mk3 : Nat → Int32) (mf0 mf1 mf2 mf3 mf4 mf5 mf6 mf7 mf8 mf9 : Int32)   : Met l yX1_generalAt wsX1_generalAt ({ frames := 2, cells := 0, slots := 0, locals := 41 }) (va_Pc [.ref mh0] (fun U => va_P (dC, dI) vwCl (mW mh0 mh1 mh2 mh3 mc1 mc2 mc3 mk1 mk2 mk3 mf0 mf1 mf2 mf3 mf4 mf5 mf6 mf7 mf8 mf9) U.heap ∧ va_K (dC, dI) vwCl [(mc1, .int), (mc2, .int), (mc3, .int)] U)) (vp_Si (fun r => r = fX1_generalAt mf6 mf7 mf8)) 0 0 (fun _ => False) := by
  refine Met.ofW (cc := cX1_generalAt) (maxL := 1) (ret := (some .int)) (by decide) rfl ?_
  intro p e s m args below meth c s₁ B hml hv
  obtain ⟨rfl, hP, hK⟩ := hv
  have hx := B.exec
  have hb := B.bytes
  have hr := B.returns
  have hts := atoms_spec (ws := wsX1_generalAt) B.pre
  have htG := fun (w : Cond) (h : w ∈ wG) => hts w (List.mem_cons_of_mem _ h)
  have hown : s.vm.findClass RX1 = some m.cls := findClass_of_methodNamed B.named
  have hlocks := B.notSynchronized
  have hl := lv_entry ([.ref mh0]) (n := 1) (Nat.le_of_ble_eq_true rfl)
  rw [lg_entry_eq]
  generalize (lg_sl ([.ref mh0]) ++ List.replicate (1 - (lg_sl ([.ref mh0])).length) Slot.unset).toArray = ls at hl ⊢
  have hl : lv_has ls 1 [(0, .ref mh0)] := hl
  refine lv_aload_n hx hb dX1_generalAt_0 rfl (lv_at hl 0 rfl) ?_
  refine vp_callSi (va_runV (As := []) (rest := []) ⟨hx, hb, hml, hown, htG⟩ (mX1_fractionsAt l dC dI mh0 mh1 mh2 mh3 mc1 mc2 mc3 mk1 mk2 mk3 mf0 mf1 mf2 mf3 mf4 mf5 mf6 mf7 mf8 mf9) (cwV 0 htG (wG_V wd_450 wd_452 wd_20 wd_23 wd_453) rfl rfl rfl (by decide +kernel) ⟨Nat.le_of_ble_eq_true rfl, Nat.le_of_ble_eq_true rfl⟩) ⟨fun a U g mk q => by obtain ⟨q0, qP, qK⟩ := q; exact ⟨q0, qP, va_K.moved (u := U) (U := U.calling g mk a) (Vm.Alike.refl U.vm) qK⟩, va_recv hK hP (ci := 1) (q0 := 0) rfl rfl, fun U hU hW => ⟨rfl, by rw [hU]; exact hP, va_K.moved hW.alike hK⟩⟩ rfl rfl hl.1 rfl (lv_room (Nat.le_of_ble_eq_true rfl)) dX1_generalAt_1 ⟨Nat.le_of_ble_eq_true rfl, Nat.le_of_ble_eq_true rfl⟩).run (fun r_1 er_1 => ?_)
  subst er_1
  refine lv_aload_n hx hb dX1_generalAt_4 rfl (lv_at hl 0 rfl) ?_
  refine va_get (D := (dC, dI)) (ci := 1) (v := .int mf6) (C := RX1) (T := TX1) (N := 13) hx hb htG inX1 hown hK hP 0 rfl rfl 6 (by decide) (htG _ wd_337) (fun _ h9 => h9) rfl dX1_generalAt_5 ?_
  refine lv_bipush (v := 32) hx hb dX1_generalAt_8 (by decide) ?_
  refine lv_bipush (v := 8) hx hb dX1_generalAt_10 (by decide) ?_
  refine vp_callSi (va_runS (As := [.int mf6, .int 32, .int 8]) (rest := [.int (fX1_fractionsAt mf7 mf8)]) ⟨hx, hb, hml, hown, htG⟩ (mX1_saved l mf6 32 8) (va_cwS 3 htG (wG_S wd_454 wd_455 wd_23 wd_456) rfl rfl rfl (by decide +kernel) ⟨Nat.le_of_ble_eq_true rfl, Nat.le_of_ble_eq_true rfl⟩) ⟨fun _ _ _ _ q => q, fun U hU hW => ⟨rfl, trivial⟩⟩ rfl rfl hl.1 rfl (lv_room (Nat.le_of_ble_eq_true rfl)) dX1_generalAt_12 ⟨Nat.le_of_ble_eq_true rfl, Nat.le_of_ble_eq_true rfl⟩).run (fun r_2 er_2 => ?_)
  subst er_2
  refine lv_iadd hx hb dX1_generalAt_15 ?_
  exact W.iret (v := ((fX1_fractionsAt mf7 mf8) + (fX1_saved mf6 32 8))) hx hb hr (fun t ht hW => ⟨((fX1_fractionsAt mf7 mf8) + (fX1_saved mf6 32 8)), rfl, (by rw [fX1_generalAt]), ht⟩) (fun q h => nomatch h) dX1_generalAt_16
end
section
def fX1_begin (mk1 mk2 mk3 : Nat → Int32) (mf0 mf1 mf2 mf3 mf4 mf5 mf6 mf7 mf8 mf9 : Int32) (p0 p1 p2 p3 : Int32) : Int32 × Int32 × mWS :=
  if (fX1_isGood p0 4 p1 p2) = 0 then (0, 0, (mk1, mk2, mk3, 1, mf1, mf2, mf3, mf4, mf5, mf6, mf7, mf8, mf9))
  else (0, 0, (mk1, mk2, mk3, 0, p0, 0, mf3, mf4, mf5, mf6, mf7, mf8, p3))

abbrev wsX1_begin : List Cond := .code yX1_begin cX1_begin 5 none :: wG
set_option maxHeartbeats 4000000 in
set_option maxRecDepth 100000 in
theorem mX1_begin (l : Launch) (dC : Nat → ClassId) (dI : Nat → Nat → Nat) (mh0 mh1 mh2 mh3 : Nat) (sz : Nat) (mc1 mc2 mc3 : ClassId) (mk1 mk2 mk3 : Nat → Int32) (mf0 mf1 mf2 mf3 mf4 mf5 mf6 mf7 mf8 mf9 : Int32) (p0 p1 p2 p3 : Int32) (ho : p3 = 0 ∨ p3 = 1) : Met l yX1_begin wsX1_begin ({ frames := 1, cells := 0, slots := 0, locals := 24 }) (va_Pc [.ref mh0, .int p0, .int p1, .int p2, .int p3] (fun U => U.heap.size = sz ∧ va_P (dC, dI) vwCl (mW mh0 mh1 mh2 mh3 mc1 mc2 mc3 mk1 mk2 mk3 mf0 mf1 mf2 mf3 mf4 mf5 mf6 mf7 mf8 mf9) U.heap ∧ va_K (dC, dI) vwCl [(mc1, .int), (mc2, .int), (mc3, .int)] U ∧ va_D (fun _ => True) (mW mh0 mh1 mh2 mh3 mc1 mc2 mc3 mk1 mk2 mk3 mf0 mf1 mf2 mf3 mf4 mf5 mf6 mf7 mf8 mf9))) (va_Qv (fun u => (0, 0, u) = fX1_begin mk1 mk2 mk3 mf0 mf1 mf2 mf3 mf4 mf5 mf6 mf7 mf8 mf9 p0 p1 p2 p3) (mWB dC dI (va_A (mW mh0 mh1 mh2 mh3 mc1 mc2 mc3 mk1 mk2 mk3 mf0 mf1 mf2 mf3 mf4 mf5 mf6 mf7 mf8 mf9) sz) mh0 mh1 mh2 mh3 mc1 mc2 mc3) (va_A (mW mh0 mh1 mh2 mh3 mc1 mc2 mc3 mk1 mk2 mk3 mf0 mf1 mf2 mf3 mf4 mf5 mf6 mf7 mf8 mf9) sz)) 0 0 (va_A (mW mh0 mh1 mh2 mh3 mc1 mc2 mc3 mk1 mk2 mk3 mf0 mf1 mf2 mf3 mf4 mf5 mf6 mf7 mf8 mf9) sz) := by
  refine Met.ofW (cc := cX1_begin) (maxL := 5) (ret := none) (by decide) rfl ?_
  intro p e s m args below meth c s₁ B hml hv
  obtain ⟨rfl, hsz, hP, hK, hD0⟩ := hv
  have hx := B.exec
  have hb := B.bytes
  have hr := B.returns
  have hts := atoms_spec (ws := wsX1_begin) B.pre
  have htG := fun (w : Cond) (h : w ∈ wG) => hts w (List.mem_cons_of_mem _ h)
  have hown : s.vm.findClass RX1 = some m.cls := findClass_of_methodNamed B.named
  have hlocks := B.notSynchronized
  subst hsz
  have hD := hD0.self (sz := s.heap.size)
  generalize hAe : va_A (mW mh0 mh1 mh2 mh3 mc1 mc2 mc3 mk1 mk2 mk3 mf0 mf1 mf2 mf3 mf4 mf5 mf6 mf7 mf8 mf9) s.heap.size = A at hD ⊢
  have hA : ∀ q : Nat, s.heap.size ≤ q → A q := fun q h => by rw [← hAe]; exact Or.inr h
  have hS : va_S A s.heap s.heap [] := va_S.rf
  have hP : va_P (dC, dI) vwCl (mW mh0 mh1 mh2 mh3 mc1 mc2 mc3 mk1 mk2 mk3 mf0 mf1 mf2 mf3 mf4 mf5 mf6 mf7 mf8 mf9) s.heap := hP
  have hl := lv_entry ([.ref mh0, .int p0, .int p1, .int p2, .int p3]) (n := 5) (Nat.le_of_ble_eq_true rfl)
  rw [lg_entry_eq]
  generalize (lg_sl ([.ref mh0, .int p0, .int p1, .int p2, .int p3]) ++ List.replicate (5 - (lg_sl ([.ref mh0, .int p0, .int p1, .int p2, .int p3])).length) Slot.unset).toArray = ls at hl ⊢
  have hl : lv_has ls 5 [(0, .ref mh0), (1, .int p0), (2, .int p1), (3, .int p2), (4, .int p3)] := hl
  refine lv_aload_n hx hb dX1_begin_0 rfl (lv_at hl 0 rfl) ?_
  refine lv_iconst (v := 0) hx hb dX1_begin_1 (by decide) ?_
  refine va_put (D := (dC, dI)) (ci := 1) (v := .int 0) (ty := .int) (C := RX1) (T := TX1) (N := 13) hx hb htG inX1 tyX1 tyX1_ok nmX1 hown hK hP hD hS 0 rfl rfl 0 (by decide) (htG _ wd_331) (fun _ h9 => h9) rfl (by decide +kernel) rfl rfl (Nat.le_of_ble_eq_true rfl) dX1_begin_2 (fun H locs hP hD hS => ?_)
  have hP : va_P (dC, dI) vwCl (mW mh0 mh1 mh2 mh3 mc1 mc2 mc3 mk1 mk2 mk3 0 mf1 mf2 mf3 mf4 mf5 mf6 mf7 mf8 mf9) H := hP
  have hD : va_D A (mW mh0 mh1 mh2 mh3 mc1 mc2 mc3 mk1 mk2 mk3 0 mf1 mf2 mf3 mf4 mf5 mf6 mf7 mf8 mf9) := hD
  refine lv_iload_n hx hb dX1_begin_5 rfl (lv_at hl 1 rfl) ?_
  refine lv_iconst (v := 4) hx hb dX1_begin_6 (by decide) ?_
  refine lv_iload_n hx hb dX1_begin_7 rfl (lv_at hl 2 rfl) ?_
  refine lv_iload_n hx hb dX1_begin_8 rfl (lv_at hl 3 rfl) ?_
  refine vp_callSi (va_runS (As := [.int p0, .int 4, .int p1, .int p2]) (rest := []) ⟨hx, hb, hml, hown, htG⟩ (mX1_isGood l p0 4 p1 p2) (va_cwS 4 htG (wG_S wd_379 wd_380 wd_23 wd_381) rfl rfl rfl (by decide +kernel) ⟨Nat.le_of_ble_eq_true rfl, Nat.le_of_ble_eq_true rfl⟩) ⟨fun _ _ _ _ q => q, fun U hU hW => ⟨rfl, trivial⟩⟩ rfl rfl hl.1 rfl (lv_room (Nat.le_of_ble_eq_true rfl)) dX1_begin_9 ⟨Nat.le_of_ble_eq_true rfl, Nat.le_of_ble_eq_true rfl⟩).run (fun r_1 er_1 => ?_)
  subst er_1
  refine lv_if_ne (tgt := 21) hx hb dX1_begin_12 (by decide) (fun c_1 => ?_) (fun c_1 => ?_)
  · refine lv_aload_n hx hb dX1_begin_21 rfl (lv_at hl 0 rfl) ?_
    refine lv_iload_n hx hb dX1_begin_22 rfl (lv_at hl 1 rfl) ?_
    refine va_put (D := (dC, dI)) (ci := 1) (v := .int p0) (ty := .int) (C := RX1) (T := TX1) (N := 13) hx hb htG inX1 tyX1 tyX1_ok nmX1 hown hK hP hD hS 0 rfl rfl 1 (by decide) (htG _ wd_332) (fun _ h9 => h9) rfl (by decide +kernel) rfl rfl (Nat.le_of_ble_eq_true rfl) dX1_begin_23 (fun H locs hP hD hS => ?_)
    have hP : va_P (dC, dI) vwCl (mW mh0 mh1 mh2 mh3 mc1 mc2 mc3 mk1 mk2 mk3 0 p0 mf2 mf3 mf4 mf5 mf6 mf7 mf8 mf9) H := hP
    have hD : va_D A (mW mh0 mh1 mh2 mh3 mc1 mc2 mc3 mk1 mk2 mk3 0 p0 mf2 mf3 mf4 mf5 mf6 mf7 mf8 mf9) := hD
    refine lv_aload_n hx hb dX1_begin_26 rfl (lv_at hl 0 rfl) ?_
    refine lv_iload hx hb dX1_begin_27 (lv_at hl 4 rfl) ?_
    refine va_put (D := (dC, dI)) (ci := 1) (v := .int p3) (ty := .boolean) (C := RX1) (T := TX1) (N := 13) hx hb htG inX1 tyX1 tyX1_ok nmX1 hown hK hP hD hS 0 rfl rfl 9 (by decide) (htG _ wd_340) (fun _ h9 => h9) rfl (by decide +kernel) (nb_of ho) (fb_of ho) (Nat.le_of_ble_eq_true rfl) dX1_begin_29 (fun H locs hP hD hS => ?_)
    have hP : va_P (dC, dI) vwCl (mW mh0 mh1 mh2 mh3 mc1 mc2 mc3 mk1 mk2 mk3 0 p0 mf2 mf3 mf4 mf5 mf6 mf7 mf8 p3) H := hP
    have hD : va_D A (mW mh0 mh1 mh2 mh3 mc1 mc2 mc3 mk1 mk2 mk3 0 p0 mf2 mf3 mf4 mf5 mf6 mf7 mf8 p3) := hD
    refine lv_aload_n hx hb dX1_begin_32 rfl (lv_at hl 0 rfl) ?_
    refine lv_iconst (v := 0) hx hb dX1_begin_33 (by decide) ?_
    refine va_put (D := (dC, dI)) (ci := 1) (v := .int 0) (ty := .int) (C := RX1) (T := TX1) (N := 13) hx hb htG inX1 tyX1 tyX1_ok nmX1 hown hK hP hD hS 0 rfl rfl 2 (by decide) (htG _ wd_333) (fun _ h9 => h9) rfl (by decide +kernel) rfl rfl (Nat.le_of_ble_eq_true rfl) dX1_begin_34 (fun H locs hP hD hS => ?_)
    have hP : va_P (dC, dI) vwCl (mW mh0 mh1 mh2 mh3 mc1 mc2 mc3 mk1 mk2 mk3 0 p0 0 mf3 mf4 mf5 mf6 mf7 mf8 p3) H := hP
    have hD : va_D A (mW mh0 mh1 mh2 mh3 mc1 mc2 mc3 mk1 mk2 mk3 0 p0 0 mf3 mf4 mf5 mf6 mf7 mf8 p3) := hD
    exact W.vret hx hb hr (fun t ht hW => ⟨⟨(mk1, mk2, mk3, 0, p0, 0, mf3, mf4, mf5, mf6, mf7, mf8, p3), rfl, (by rw [fX1_begin, if_neg c_1]), by rw [ht]; exact hP, va_K.moved hW.alike hK, hD⟩, hS.F ht⟩) hS.2.2 dX1_begin_37
  · refine lv_aload_n hx hb dX1_begin_15 rfl (lv_at hl 0 rfl) ?_
    refine lv_iconst (v := 1) hx hb dX1_begin_16 (by decide) ?_
    refine va_put (D := (dC, dI)) (ci := 1) (v := .int 1) (ty := .int) (C := RX1) (T := TX1) (N := 13) hx hb htG inX1 tyX1 tyX1_ok nmX1 hown hK hP hD hS 0 rfl rfl 0 (by decide) (htG _ wd_331) (fun _ h9 => h9) rfl (by decide +kernel) rfl rfl (Nat.le_of_ble_eq_true rfl) dX1_begin_17 (fun H locs hP hD hS => ?_)
    have hP : va_P (dC, dI) vwCl (mW mh0 mh1 mh2 mh3 mc1 mc2 mc3 mk1 mk2 mk3 1 mf1 mf2 mf3 mf4 mf5 mf6 mf7 mf8 mf9) H := hP
    have hD : va_D A (mW mh0 mh1 mh2 mh3 mc1 mc2 mc3 mk1 mk2 mk3 1 mf1 mf2 mf3 mf4 mf5 mf6 mf7 mf8 mf9) := hD
    exact W.vret hx hb hr (fun t ht hW => ⟨⟨(mk1, mk2, mk3, 1, mf1, mf2, mf3, mf4, mf5, mf6, mf7, mf8, mf9), rfl, (by rw [fX1_begin, if_pos c_1]), by rw [ht]; exact hP, va_K.moved hW.alike hK, hD⟩, hS.F ht⟩) hS.2.2 dX1_begin_20

def fX1_clear (mk1 mk2 mk3 : Nat → Int32) (mf0 mf1 mf2 mf3 mf4 mf5 mf6 mf7 mf8 mf9 : Int32) : Int32 × Int32 × mWS :=
  (0, mf3, (mk1, mk2, mk3, 0, mf1, mf2, 0, 0, 0, 0, 0, 0, mf9))

abbrev wsX1_clear : List Cond := .code yX1_clear cX1_clear 2 (some .int) :: wG
set_option maxHeartbeats 4000000 in
set_option maxRecDepth 100000 in
theorem mX1_clear (l : Launch) (dC : Nat → ClassId) (dI : Nat → Nat → Nat) (mh0 mh1 mh2 mh3 : Nat) (sz : Nat) (mc1 mc2 mc3 : ClassId) (mk1 mk2 mk3 : Nat → Int32) (mf0 mf1 mf2 mf3 mf4 mf5 mf6 mf7 mf8 mf9 : Int32)   : Met l yX1_clear wsX1_clear ({ frames := 0, cells := 0, slots := 0, locals := 0 }) (va_Pc [.ref mh0] (fun U => U.heap.size = sz ∧ va_P (dC, dI) vwCl (mW mh0 mh1 mh2 mh3 mc1 mc2 mc3 mk1 mk2 mk3 mf0 mf1 mf2 mf3 mf4 mf5 mf6 mf7 mf8 mf9) U.heap ∧ va_K (dC, dI) vwCl [(mc1, .int), (mc2, .int), (mc3, .int)] U ∧ va_D (fun _ => True) (mW mh0 mh1 mh2 mh3 mc1 mc2 mc3 mk1 mk2 mk3 mf0 mf1 mf2 mf3 mf4 mf5 mf6 mf7 mf8 mf9))) (va_Qi (fun r u => (0, r, u) = fX1_clear mk1 mk2 mk3 mf0 mf1 mf2 mf3 mf4 mf5 mf6 mf7 mf8 mf9) (mWB dC dI (va_A (mW mh0 mh1 mh2 mh3 mc1 mc2 mc3 mk1 mk2 mk3 mf0 mf1 mf2 mf3 mf4 mf5 mf6 mf7 mf8 mf9) sz) mh0 mh1 mh2 mh3 mc1 mc2 mc3) (va_A (mW mh0 mh1 mh2 mh3 mc1 mc2 mc3 mk1 mk2 mk3 mf0 mf1 mf2 mf3 mf4 mf5 mf6 mf7 mf8 mf9) sz)) 0 0 (va_A (mW mh0 mh1 mh2 mh3 mc1 mc2 mc3 mk1 mk2 mk3 mf0 mf1 mf2 mf3 mf4 mf5 mf6 mf7 mf8 mf9) sz) := by
  refine Met.ofW (cc := cX1_clear) (maxL := 2) (ret := (some .int)) (by decide) rfl ?_
  intro p e s m args below meth c s₁ B hml hv
  obtain ⟨rfl, hsz, hP, hK, hD0⟩ := hv
  have hx := B.exec
  have hb := B.bytes
  have hr := B.returns
  have hts := atoms_spec (ws := wsX1_clear) B.pre
  have htG := fun (w : Cond) (h : w ∈ wG) => hts w (List.mem_cons_of_mem _ h)
  have hown : s.vm.findClass RX1 = some m.cls := findClass_of_methodNamed B.named
  have hlocks := B.notSynchronized
  subst hsz
  have hD := hD0.self (sz := s.heap.size)
  generalize hAe : va_A (mW mh0 mh1 mh2 mh3 mc1 mc2 mc3 mk1 mk2 mk3 mf0 mf1 mf2 mf3 mf4 mf5 mf6 mf7 mf8 mf9) s.heap.size = A at hD ⊢
  have hA : ∀ q : Nat, s.heap.size ≤ q → A q := fun q h => by rw [← hAe]; exact Or.inr h
  have hS : va_S A s.heap s.heap [] := va_S.rf
  have hP : va_P (dC, dI) vwCl (mW mh0 mh1 mh2 mh3 mc1 mc2 mc3 mk1 mk2 mk3 mf0 mf1 mf2 mf3 mf4 mf5 mf6 mf7 mf8 mf9) s.heap := hP
  have hl := lv_entry ([.ref mh0]) (n := 2) (Nat.le_of_ble_eq_true rfl)
  rw [lg_entry_eq]
  generalize (lg_sl ([.ref mh0]) ++ List.replicate (2 - (lg_sl ([.ref mh0])).length) Slot.unset).toArray = ls at hl ⊢
  have hl : lv_has ls 2 [(0, .ref mh0)] := hl
  refine lv_aload_n hx hb dX1_clear_0 rfl (lv_at hl 0 rfl) ?_
  refine lv_iconst (v := 0) hx hb dX1_clear_1 (by decide) ?_
  refine va_put (D := (dC, dI)) (ci := 1) (v := .int 0) (ty := .int) (C := RX1) (T := TX1) (N := 13) hx hb htG inX1 tyX1 tyX1_ok nmX1 hown hK hP hD hS 0 rfl rfl 0 (by decide) (htG _ wd_331) (fun _ h9 => h9) rfl (by decide +kernel) rfl rfl (Nat.le_of_ble_eq_true rfl) dX1_clear_2 (fun H locs hP hD hS => ?_)
  have hP : va_P (dC, dI) vwCl (mW mh0 mh1 mh2 mh3 mc1 mc2 mc3 mk1 mk2 mk3 0 mf1 mf2 mf3 mf4 mf5 mf6 mf7 mf8 mf9) H := hP
  have hD : va_D A (mW mh0 mh1 mh2 mh3 mc1 mc2 mc3 mk1 mk2 mk3 0 mf1 mf2 mf3 mf4 mf5 mf6 mf7 mf8 mf9) := hD
  refine lv_aload_n hx hb dX1_clear_5 rfl (lv_at hl 0 rfl) ?_
  refine va_get (D := (dC, dI)) (ci := 1) (v := .int mf3) (C := RX1) (T := TX1) (N := 13) hx hb htG inX1 hown hK hP 0 rfl rfl 3 (by decide) (htG _ wd_334) (fun _ h9 => h9) rfl dX1_clear_6 ?_
  refine lv_istore_n (lv' := [(1, .int mf3), (0, .ref mh0)]) hx hb dX1_clear_9 rfl hl (by decide) rfl (fun ls hl => ?_)
  refine lv_aload_n hx hb dX1_clear_10 rfl (lv_at hl 1 rfl) ?_
  refine lv_iconst (v := 0) hx hb dX1_clear_11 (by decide) ?_
  refine va_put (D := (dC, dI)) (ci := 1) (v := .int 0) (ty := .int) (C := RX1) (T := TX1) (N := 13) hx hb htG inX1 tyX1 tyX1_ok nmX1 hown hK hP hD hS 0 rfl rfl 3 (by decide) (htG _ wd_334) (fun _ h9 => h9) rfl (by decide +kernel) rfl rfl (Nat.le_of_ble_eq_true rfl) dX1_clear_12 (fun H locs hP hD hS => ?_)
  have hP : va_P (dC, dI) vwCl (mW mh0 mh1 mh2 mh3 mc1 mc2 mc3 mk1 mk2 mk3 0 mf1 mf2 0 mf4 mf5 mf6 mf7 mf8 mf9) H := hP
  have hD : va_D A (mW mh0 mh1 mh2 mh3 mc1 mc2 mc3 mk1 mk2 mk3 0 mf1 mf2 0 mf4 mf5 mf6 mf7 mf8 mf9) := hD
  refine lv_aload_n hx hb dX1_clear_15 rfl (lv_at hl 1 rfl) ?_
  refine lv_iconst (v := 0) hx hb dX1_clear_16 (by decide) ?_
  refine va_put (D := (dC, dI)) (ci := 1) (v := .int 0) (ty := .int) (C := RX1) (T := TX1) (N := 13) hx hb htG inX1 tyX1 tyX1_ok nmX1 hown hK hP hD hS 0 rfl rfl 4 (by decide) (htG _ wd_335) (fun _ h9 => h9) rfl (by decide +kernel) rfl rfl (Nat.le_of_ble_eq_true rfl) dX1_clear_17 (fun H locs hP hD hS => ?_)
  have hP : va_P (dC, dI) vwCl (mW mh0 mh1 mh2 mh3 mc1 mc2 mc3 mk1 mk2 mk3 0 mf1 mf2 0 0 mf5 mf6 mf7 mf8 mf9) H := hP
  have hD : va_D A (mW mh0 mh1 mh2 mh3 mc1 mc2 mc3 mk1 mk2 mk3 0 mf1 mf2 0 0 mf5 mf6 mf7 mf8 mf9) := hD
  refine lv_aload_n hx hb dX1_clear_20 rfl (lv_at hl 1 rfl) ?_
  refine lv_iconst (v := 0) hx hb dX1_clear_21 (by decide) ?_
  refine va_put (D := (dC, dI)) (ci := 1) (v := .int 0) (ty := .int) (C := RX1) (T := TX1) (N := 13) hx hb htG inX1 tyX1 tyX1_ok nmX1 hown hK hP hD hS 0 rfl rfl 8 (by decide) (htG _ wd_339) (fun _ h9 => h9) rfl (by decide +kernel) rfl rfl (Nat.le_of_ble_eq_true rfl) dX1_clear_22 (fun H locs hP hD hS => ?_)
  have hP : va_P (dC, dI) vwCl (mW mh0 mh1 mh2 mh3 mc1 mc2 mc3 mk1 mk2 mk3 0 mf1 mf2 0 0 mf5 mf6 mf7 0 mf9) H := hP
  have hD : va_D A (mW mh0 mh1 mh2 mh3 mc1 mc2 mc3 mk1 mk2 mk3 0 mf1 mf2 0 0 mf5 mf6 mf7 0 mf9) := hD
  refine lv_aload_n hx hb dX1_clear_25 rfl (lv_at hl 1 rfl) ?_
  refine lv_iconst (v := 0) hx hb dX1_clear_26 (by decide) ?_
  refine va_put (D := (dC, dI)) (ci := 1) (v := .int 0) (ty := .int) (C := RX1) (T := TX1) (N := 13) hx hb htG inX1 tyX1 tyX1_ok nmX1 hown hK hP hD hS 0 rfl rfl 7 (by decide) (htG _ wd_338) (fun _ h9 => h9) rfl (by decide +kernel) rfl rfl (Nat.le_of_ble_eq_true rfl) dX1_clear_27 (fun H locs hP hD hS => ?_)
  have hP : va_P (dC, dI) vwCl (mW mh0 mh1 mh2 mh3 mc1 mc2 mc3 mk1 mk2 mk3 0 mf1 mf2 0 0 mf5 mf6 0 0 mf9) H := hP
  have hD : va_D A (mW mh0 mh1 mh2 mh3 mc1 mc2 mc3 mk1 mk2 mk3 0 mf1 mf2 0 0 mf5 mf6 0 0 mf9) := hD
  refine lv_aload_n hx hb dX1_clear_30 rfl (lv_at hl 1 rfl) ?_
  refine lv_iconst (v := 0) hx hb dX1_clear_31 (by decide) ?_
  refine va_put (D := (dC, dI)) (ci := 1) (v := .int 0) (ty := .int) (C := RX1) (T := TX1) (N := 13) hx hb htG inX1 tyX1 tyX1_ok nmX1 hown hK hP hD hS 0 rfl rfl 5 (by decide) (htG _ wd_336) (fun _ h9 => h9) rfl (by decide +kernel) rfl rfl (Nat.le_of_ble_eq_true rfl) dX1_clear_32 (fun H locs hP hD hS => ?_)
  have hP : va_P (dC, dI) vwCl (mW mh0 mh1 mh2 mh3 mc1 mc2 mc3 mk1 mk2 mk3 0 mf1 mf2 0 0 0 mf6 0 0 mf9) H := hP
  have hD : va_D A (mW mh0 mh1 mh2 mh3 mc1 mc2 mc3 mk1 mk2 mk3 0 mf1 mf2 0 0 0 mf6 0 0 mf9) := hD
  refine lv_aload_n hx hb dX1_clear_35 rfl (lv_at hl 1 rfl) ?_
  refine lv_iconst (v := 0) hx hb dX1_clear_36 (by decide) ?_
  refine va_put (D := (dC, dI)) (ci := 1) (v := .int 0) (ty := .int) (C := RX1) (T := TX1) (N := 13) hx hb htG inX1 tyX1 tyX1_ok nmX1 hown hK hP hD hS 0 rfl rfl 6 (by decide) (htG _ wd_337) (fun _ h9 => h9) rfl (by decide +kernel) rfl rfl (Nat.le_of_ble_eq_true rfl) dX1_clear_37 (fun H locs hP hD hS => ?_)
  have hP : va_P (dC, dI) vwCl (mW mh0 mh1 mh2 mh3 mc1 mc2 mc3 mk1 mk2 mk3 0 mf1 mf2 0 0 0 0 0 0 mf9) H := hP
  have hD : va_D A (mW mh0 mh1 mh2 mh3 mc1 mc2 mc3 mk1 mk2 mk3 0 mf1 mf2 0 0 0 0 0 0 mf9) := hD
  refine lv_iload_n hx hb dX1_clear_40 rfl (lv_at hl 0 rfl) ?_
  exact W.iret (v := mf3) hx hb hr (fun t ht hW => ⟨⟨mf3, (mk1, mk2, mk3, 0, mf1, mf2, 0, 0, 0, 0, 0, 0, mf9), rfl, (by rw [fX1_clear]), by rw [ht]; exact hP, va_K.moved hW.alike hK, hD⟩, hS.F ht⟩) hS.2.2 dX1_clear_41

def fX1_call (mk1 mk2 mk3 : Nat → Int32) (mf0 mf1 mf2 mf3 mf4 mf5 mf6 mf7 mf8 mf9 : Int32) : Int32 × Int32 × mWS :=
  if (fX1_area mk1 mk2 mk3 mf1 mf2) ≤ mf4 then (0, mf4, (mk1, mk2, mk3, 0, mf1, mf2, (mf3 + 1), mf4, mf5, mf6, mf7, mf8, mf9))
  else (0, (fX1_area mk1 mk2 mk3 mf1 mf2), (mk1, mk2, mk3, 0, mf1, mf2, (mf3 + 1), (fX1_area mk1 mk2 mk3 mf1 mf2), mf5, mf6, mf7, mf8, mf9))

abbrev wsX1_call : List Cond := .code yX1_call cX1_call 1 (some .int) :: wG
set_option maxHeartbeats 4000000 in
set_option maxRecDepth 100000 in
theorem mX1_call (l : Launch) (dC : Nat → ClassId) (dI : Nat → Nat → Nat) (mh0 mh1 mh2 mh3 : Nat) (sz : Nat) (mc1 mc2 mc3 : ClassId) (mk1 mk2 mk3 : Nat → Int32) (mf0 mf1 mf2 mf3 mf4 mf5 mf6 mf7 mf8 mf9 : Int32)  (hN : mf2.toNatClampNeg ≤ 60) : Met l yX1_call wsX1_call ({ frames := 3, cells := 0, slots := 0, locals := 65 }) (va_Pc [.ref mh0] (fun U => U.heap.size = sz ∧ va_P (dC, dI) vwCl (mW mh0 mh1 mh2 mh3 mc1 mc2 mc3 mk1 mk2 mk3 mf0 mf1 mf2 mf3 mf4 mf5 mf6 mf7 mf8 mf9) U.heap ∧ va_K (dC, dI) vwCl [(mc1, .int), (mc2, .int), (mc3, .int)] U ∧ va_D (fun _ => True) (mW mh0 mh1 mh2 mh3 mc1 mc2 mc3 mk1 mk2 mk3 mf0 mf1 mf2 mf3 mf4 mf5 mf6 mf7 mf8 mf9))) (va_Qi (fun r u => (0, r, u) = fX1_call mk1 mk2 mk3 mf0 mf1 mf2 mf3 mf4 mf5 mf6 mf7 mf8 mf9) (mWB dC dI (va_A (mW mh0 mh1 mh2 mh3 mc1 mc2 mc3 mk1 mk2 mk3 mf0 mf1 mf2 mf3 mf4 mf5 mf6 mf7 mf8 mf9) sz) mh0 mh1 mh2 mh3 mc1 mc2 mc3) (va_A (mW mh0 mh1 mh2 mh3 mc1 mc2 mc3 mk1 mk2 mk3 mf0 mf1 mf2 mf3 mf4 mf5 mf6 mf7 mf8 mf9) sz)) 0 0 (va_A (mW mh0 mh1 mh2 mh3 mc1 mc2 mc3 mk1 mk2 mk3 mf0 mf1 mf2 mf3 mf4 mf5 mf6 mf7 mf8 mf9) sz) := by
  refine Met.ofW (cc := cX1_call) (maxL := 1) (ret := (some .int)) (by decide) rfl ?_
  intro p e s m args below meth c s₁ B hml hv
  obtain ⟨rfl, hsz, hP, hK, hD0⟩ := hv
  have hx := B.exec
  have hb := B.bytes
  have hr := B.returns
  have hts := atoms_spec (ws := wsX1_call) B.pre
  have htG := fun (w : Cond) (h : w ∈ wG) => hts w (List.mem_cons_of_mem _ h)
  have hown : s.vm.findClass RX1 = some m.cls := findClass_of_methodNamed B.named
  have hlocks := B.notSynchronized
  subst hsz
  have hD := hD0.self (sz := s.heap.size)
  generalize hAe : va_A (mW mh0 mh1 mh2 mh3 mc1 mc2 mc3 mk1 mk2 mk3 mf0 mf1 mf2 mf3 mf4 mf5 mf6 mf7 mf8 mf9) s.heap.size = A at hD ⊢
  have hA : ∀ q : Nat, s.heap.size ≤ q → A q := fun q h => by rw [← hAe]; exact Or.inr h
  have hS : va_S A s.heap s.heap [] := va_S.rf
  have hP : va_P (dC, dI) vwCl (mW mh0 mh1 mh2 mh3 mc1 mc2 mc3 mk1 mk2 mk3 mf0 mf1 mf2 mf3 mf4 mf5 mf6 mf7 mf8 mf9) s.heap := hP
  have hl := lv_entry ([.ref mh0]) (n := 1) (Nat.le_of_ble_eq_true rfl)
  rw [lg_entry_eq]
  generalize (lg_sl ([.ref mh0]) ++ List.replicate (1 - (lg_sl ([.ref mh0])).length) Slot.unset).toArray = ls at hl ⊢
  have hl : lv_has ls 1 [(0, .ref mh0)] := hl
  refine lv_aload_n hx hb dX1_call_0 rfl (lv_at hl 0 rfl) ?_
  refine lv_iconst (v := 0) hx hb dX1_call_1 (by decide) ?_
  refine va_put (D := (dC, dI)) (ci := 1) (v := .int 0) (ty := .int) (C := RX1) (T := TX1) (N := 13) hx hb htG inX1 tyX1 tyX1_ok nmX1 hown hK hP hD hS 0 rfl rfl 0 (by decide) (htG _ wd_331) (fun _ h9 => h9) rfl (by decide +kernel) rfl rfl (Nat.le_of_ble_eq_true rfl) dX1_call_2 (fun H locs hP hD hS => ?_)
  have hP : va_P (dC, dI) vwCl (mW mh0 mh1 mh2 mh3 mc1 mc2 mc3 mk1 mk2 mk3 0 mf1 mf2 mf3 mf4 mf5 mf6 mf7 mf8 mf9) H := hP
  have hD : va_D A (mW mh0 mh1 mh2 mh3 mc1 mc2 mc3 mk1 mk2 mk3 0 mf1 mf2 mf3 mf4 mf5 mf6 mf7 mf8 mf9) := hD
  refine lv_aload_n hx hb dX1_call_5 rfl (lv_at hl 0 rfl) ?_
  refine lv_dup hx hb dX1_call_6 rfl ?_
  refine va_get (D := (dC, dI)) (ci := 1) (v := .int mf3) (C := RX1) (T := TX1) (N := 13) hx hb htG inX1 hown hK hP 0 rfl rfl 3 (by decide) (htG _ wd_334) (fun _ h9 => h9) rfl dX1_call_7 ?_
  refine lv_iconst (v := 1) hx hb dX1_call_10 (by decide) ?_
  refine lv_iadd hx hb dX1_call_11 ?_
  refine va_put (D := (dC, dI)) (ci := 1) (v := .int (mf3 + 1)) (ty := .int) (C := RX1) (T := TX1) (N := 13) hx hb htG inX1 tyX1 tyX1_ok nmX1 hown hK hP hD hS 0 rfl rfl 3 (by decide) (htG _ wd_334) (fun _ h9 => h9) rfl (by decide +kernel) rfl rfl (Nat.le_of_ble_eq_true rfl) dX1_call_12 (fun H locs hP hD hS => ?_)
  have hP : va_P (dC, dI) vwCl (mW mh0 mh1 mh2 mh3 mc1 mc2 mc3 mk1 mk2 mk3 0 mf1 mf2 (mf3 + 1) mf4 mf5 mf6 mf7 mf8 mf9) H := hP
  have hD : va_D A (mW mh0 mh1 mh2 mh3 mc1 mc2 mc3 mk1 mk2 mk3 0 mf1 mf2 (mf3 + 1) mf4 mf5 mf6 mf7 mf8 mf9) := hD
  refine lv_aload_n hx hb dX1_call_15 rfl (lv_at hl 0 rfl) ?_
  refine vp_callSi (va_runV (As := []) (rest := []) ⟨hx, hb, hml, hown, htG⟩ (mX1_area l dC dI mh0 mh1 mh2 mh3 mc1 mc2 mc3 mk1 mk2 mk3 0 mf1 mf2 (mf3 + 1) mf4 mf5 mf6 mf7 mf8 mf9 hN) (cwV 0 htG (wG_V wd_431 wd_433 wd_18 wd_23 wd_434) rfl rfl rfl (by decide +kernel) ⟨Nat.le_of_ble_eq_true rfl, Nat.le_of_ble_eq_true rfl⟩) ⟨fun a U g mk q => by obtain ⟨q0, qP, qK⟩ := q; exact ⟨q0, qP, va_K.moved (u := U) (U := U.calling g mk a) (Vm.Alike.refl U.vm) qK⟩, va_recv hK hP (ci := 1) (q0 := 0) rfl rfl, fun U hU hW => ⟨rfl, by rw [hU]; exact hP, va_K.moved hW.alike hK⟩⟩ rfl rfl hl.1 rfl (lv_room (Nat.le_of_ble_eq_true rfl)) dX1_call_16 ⟨Nat.le_of_ble_eq_true rfl, Nat.le_of_ble_eq_true rfl⟩).run (fun r_1 er_1 => ?_)
  subst er_1
  refine lv_aload_n hx hb dX1_call_19 rfl (lv_at hl 0 rfl) ?_
  refine va_get (D := (dC, dI)) (ci := 1) (v := .int mf4) (C := RX1) (T := TX1) (N := 13) hx hb htG inX1 hown hK hP 0 rfl rfl 4 (by decide) (htG _ wd_335) (fun _ h9 => h9) rfl dX1_call_20 ?_
  refine lv_icmp_le (tgt := 34) hx hb dX1_call_23 (by decide) (fun c_1 => ?_) (fun c_1 => ?_)
  · refine lv_aload_n hx hb dX1_call_34 rfl (lv_at hl 0 rfl) ?_
    refine va_get (D := (dC, dI)) (ci := 1) (v := .int mf4) (C := RX1) (T := TX1) (N := 13) hx hb htG inX1 hown hK hP 0 rfl rfl 4 (by decide) (htG _ wd_335) (fun _ h9 => h9) rfl dX1_call_35 ?_
    exact W.iret (v := mf4) hx hb hr (fun t ht hW => ⟨⟨mf4, (mk1, mk2, mk3, 0, mf1, mf2, (mf3 + 1), mf4, mf5, mf6, mf7, mf8, mf9), rfl, (by rw [fX1_call, if_pos c_1]), by rw [ht]; exact hP, va_K.moved hW.alike hK, hD⟩, hS.F ht⟩) hS.2.2 dX1_call_38
  · refine lv_aload_n hx hb dX1_call_26 rfl (lv_at hl 0 rfl) ?_
    refine lv_aload_n hx hb dX1_call_27 rfl (lv_at hl 0 rfl) ?_
    refine vp_callSi (va_runV (As := []) (rest := [.ref mh0]) ⟨hx, hb, hml, hown, htG⟩ (mX1_area l dC dI mh0 mh1 mh2 mh3 mc1 mc2 mc3 mk1 mk2 mk3 0 mf1 mf2 (mf3 + 1) mf4 mf5 mf6 mf7 mf8 mf9 hN) (cwV 0 htG (wG_V wd_431 wd_433 wd_18 wd_23 wd_434) rfl rfl rfl (by decide +kernel) ⟨Nat.le_of_ble_eq_true rfl, Nat.le_of_ble_eq_true rfl⟩) ⟨fun a U g mk q => by obtain ⟨q0, qP, qK⟩ := q; exact ⟨q0, qP, va_K.moved (u := U) (U := U.calling g mk a) (Vm.Alike.refl U.vm) qK⟩, va_recv hK hP (ci := 1) (q0 := 0) rfl rfl, fun U hU hW => ⟨rfl, by rw [hU]; exact hP, va_K.moved hW.alike hK⟩⟩ rfl rfl hl.1 rfl (lv_room (Nat.le_of_ble_eq_true rfl)) dX1_call_28 ⟨Nat.le_of_ble_eq_true rfl, Nat.le_of_ble_eq_true rfl⟩).run (fun r_2 er_2 => ?_)
    subst er_2
    refine va_put (D := (dC, dI)) (ci := 1) (v := .int (fX1_area mk1 mk2 mk3 mf1 mf2)) (ty := .int) (C := RX1) (T := TX1) (N := 13) hx hb htG inX1 tyX1 tyX1_ok nmX1 hown hK hP hD hS 0 rfl rfl 4 (by decide) (htG _ wd_335) (fun _ h9 => h9) rfl (by decide +kernel) rfl rfl (Nat.le_of_ble_eq_true rfl) dX1_call_31 (fun H locs hP hD hS => ?_)
    have hP : va_P (dC, dI) vwCl (mW mh0 mh1 mh2 mh3 mc1 mc2 mc3 mk1 mk2 mk3 0 mf1 mf2 (mf3 + 1) (fX1_area mk1 mk2 mk3 mf1 mf2) mf5 mf6 mf7 mf8 mf9) H := hP
    have hD : va_D A (mW mh0 mh1 mh2 mh3 mc1 mc2 mc3 mk1 mk2 mk3 0 mf1 mf2 (mf3 + 1) (fX1_area mk1 mk2 mk3 mf1 mf2) mf5 mf6 mf7 mf8 mf9) := hD
    refine lv_aload_n hx hb dX1_call_34 rfl (lv_at hl 0 rfl) ?_
    refine va_get (D := (dC, dI)) (ci := 1) (v := .int (fX1_area mk1 mk2 mk3 mf1 mf2)) (C := RX1) (T := TX1) (N := 13) hx hb htG inX1 hown hK hP 0 rfl rfl 4 (by decide) (htG _ wd_335) (fun _ h9 => h9) rfl dX1_call_35 ?_
    exact W.iret (v := (fX1_area mk1 mk2 mk3 mf1 mf2)) hx hb hr (fun t ht hW => ⟨⟨(fX1_area mk1 mk2 mk3 mf1 mf2), (mk1, mk2, mk3, 0, mf1, mf2, (mf3 + 1), (fX1_area mk1 mk2 mk3 mf1 mf2), mf5, mf6, mf7, mf8, mf9), rfl, (by rw [fX1_call, if_neg c_1]), by rw [ht]; exact hP, va_K.moved hW.alike hK, hD⟩, hS.F ht⟩) hS.2.2 dX1_call_38

def fX1_signature (mk1 mk2 mk3 : Nat → Int32) (mf0 mf1 mf2 mf3 mf4 mf5 mf6 mf7 mf8 mf9 : Int32) (p0 : Int32) : Int32 × Int32 × mWS :=
  if p0 < 0 then (0, 0, (mk1, mk2, mk3, 1, mf1, mf2, mf3, mf4, mf5, mf6, mf7, mf8, mf9))
  else if p0 ≤ 3 then (if mf1 = 4 then (if p0 = 0 then (0, (fX1_area mk1 mk2 mk3 mf1 mf2), (mk1, mk2, mk3, 0, mf1, mf2, mf3, mf4, mf5, mf6, mf7, mf8, mf9))
        else if p0 = 1 then (0, mf2, (mk1, mk2, mk3, 0, mf1, mf2, mf3, mf4, mf5, mf6, mf7, mf8, mf9))
          else if p0 = 2 then (0, (-1), (mk1, mk2, mk3, 0, mf1, mf2, mf3, mf4, mf5, mf6, mf7, mf8, mf9))
            else (0, (fX1_home mk1 mk2 mk3 mf1 mf2 mf2), (mk1, mk2, mk3, 0, mf1, mf2, mf3, mf4, mf5, mf6, mf7, mf8, mf9)))
      else if mf1 = 0 then (if p0 = 0 then (0, (fX1_area mk1 mk2 mk3 mf1 mf2), (mk1, mk2, mk3, 0, mf1, mf2, mf3, mf4, mf5, mf6, mf7, mf8, mf9))
          else if p0 = 1 then (0, mf2, (mk1, mk2, mk3, 0, mf1, mf2, mf3, mf4, mf5, mf6, mf7, mf8, mf9))
            else if p0 = 2 then (0, 2, (mk1, mk2, mk3, 0, mf1, mf2, mf3, mf4, mf5, mf6, mf7, mf8, mf9))
              else (0, (fX1_home mk1 mk2 mk3 mf1 mf2 mf2), (mk1, mk2, mk3, 0, mf1, mf2, mf3, mf4, mf5, mf6, mf7, mf8, mf9)))
        else if mf1 = 3 then (if p0 = 0 then (0, (fX1_area mk1 mk2 mk3 mf1 mf2), (mk1, mk2, mk3, 0, mf1, mf2, mf3, mf4, mf5, mf6, mf7, mf8, mf9))
            else if p0 = 1 then (0, mf2, (mk1, mk2, mk3, 0, mf1, mf2, mf3, mf4, mf5, mf6, mf7, mf8, mf9))
              else if p0 = 2 then (0, 2, (mk1, mk2, mk3, 0, mf1, mf2, mf3, mf4, mf5, mf6, mf7, mf8, mf9))
                else (0, (fX1_home mk1 mk2 mk3 mf1 mf2 mf2), (mk1, mk2, mk3, 0, mf1, mf2, mf3, mf4, mf5, mf6, mf7, mf8, mf9)))
          else if p0 = 0 then (0, (fX1_area mk1 mk2 mk3 mf1 mf2), (mk1, mk2, mk3, 0, mf1, mf2, mf3, mf4, mf5, mf6, mf7, mf8, mf9))
            else if p0 = 1 then (0, mf2, (mk1, mk2, mk3, 0, mf1, mf2, mf3, mf4, mf5, mf6, mf7, mf8, mf9))
              else if p0 = 2 then (0, 32, (mk1, mk2, mk3, 0, mf1, mf2, mf3, mf4, mf5, mf6, mf7, mf8, mf9))
                else (0, (fX1_home mk1 mk2 mk3 mf1 mf2 mf2), (mk1, mk2, mk3, 0, mf1, mf2, mf3, mf4, mf5, mf6, mf7, mf8, mf9)))
    else (0, 0, (mk1, mk2, mk3, 1, mf1, mf2, mf3, mf4, mf5, mf6, mf7, mf8, mf9))

abbrev wsX1_signature : List Cond := .code yX1_signature cX1_signature 3 (some .int) :: wG
set_option maxHeartbeats 4000000 in
set_option maxRecDepth 100000 in
theorem mX1_signature (l : Launch) (dC : Nat → ClassId) (dI : Nat → Nat → Nat) (mh0 mh1 mh2 mh3 : Nat) (sz : Nat) (mc1 mc2 mc3 : ClassId) (mk1 mk2 mk3 : Nat → Int32) (mf0 mf1 mf2 mf3 mf4 mf5 mf6 mf7 mf8 mf9 : Int32) (p0 : Int32) (hN : mf2.toNatClampNeg ≤ 60) : Met l yX1_signature wsX1_signature ({ frames := 3, cells := 0, slots := 0, locals := 65 }) (va_Pc [.ref mh0, .int p0] (fun U => U.heap.size = sz ∧ va_P (dC, dI) vwCl (mW mh0 mh1 mh2 mh3 mc1 mc2 mc3 mk1 mk2 mk3 mf0 mf1 mf2 mf3 mf4 mf5 mf6 mf7 mf8 mf9) U.heap ∧ va_K (dC, dI) vwCl [(mc1, .int), (mc2, .int), (mc3, .int)] U ∧ va_D (fun _ => True) (mW mh0 mh1 mh2 mh3 mc1 mc2 mc3 mk1 mk2 mk3 mf0 mf1 mf2 mf3 mf4 mf5 mf6 mf7 mf8 mf9))) (va_Qi (fun r u => (0, r, u) = fX1_signature mk1 mk2 mk3 mf0 mf1 mf2 mf3 mf4 mf5 mf6 mf7 mf8 mf9 p0) (mWB dC dI (va_A (mW mh0 mh1 mh2 mh3 mc1 mc2 mc3 mk1 mk2 mk3 mf0 mf1 mf2 mf3 mf4 mf5 mf6 mf7 mf8 mf9) sz) mh0 mh1 mh2 mh3 mc1 mc2 mc3) (va_A (mW mh0 mh1 mh2 mh3 mc1 mc2 mc3 mk1 mk2 mk3 mf0 mf1 mf2 mf3 mf4 mf5 mf6 mf7 mf8 mf9) sz)) 0 0 (va_A (mW mh0 mh1 mh2 mh3 mc1 mc2 mc3 mk1 mk2 mk3 mf0 mf1 mf2 mf3 mf4 mf5 mf6 mf7 mf8 mf9) sz) := by
  refine Met.ofW (cc := cX1_signature) (maxL := 3) (ret := (some .int)) (by decide) rfl ?_
  intro p e s m args below meth c s₁ B hml hv
  obtain ⟨rfl, hsz, hP, hK, hD0⟩ := hv
  have hx := B.exec
  have hb := B.bytes
  have hr := B.returns
  have hts := atoms_spec (ws := wsX1_signature) B.pre
  have htG := fun (w : Cond) (h : w ∈ wG) => hts w (List.mem_cons_of_mem _ h)
  have hown : s.vm.findClass RX1 = some m.cls := findClass_of_methodNamed B.named
  have hlocks := B.notSynchronized
  subst hsz
  have hD := hD0.self (sz := s.heap.size)
  generalize hAe : va_A (mW mh0 mh1 mh2 mh3 mc1 mc2 mc3 mk1 mk2 mk3 mf0 mf1 mf2 mf3 mf4 mf5 mf6 mf7 mf8 mf9) s.heap.size = A at hD ⊢
  have hA : ∀ q : Nat, s.heap.size ≤ q → A q := fun q h => by rw [← hAe]; exact Or.inr h
  have hS : va_S A s.heap s.heap [] := va_S.rf
  have hP : va_P (dC, dI) vwCl (mW mh0 mh1 mh2 mh3 mc1 mc2 mc3 mk1 mk2 mk3 mf0 mf1 mf2 mf3 mf4 mf5 mf6 mf7 mf8 mf9) s.heap := hP
  have hl := lv_entry ([.ref mh0, .int p0]) (n := 3) (Nat.le_of_ble_eq_true rfl)
  rw [lg_entry_eq]
  generalize (lg_sl ([.ref mh0, .int p0]) ++ List.replicate (3 - (lg_sl ([.ref mh0, .int p0])).length) Slot.unset).toArray = ls at hl ⊢
  have hl : lv_has ls 3 [(0, .ref mh0), (1, .int p0)] := hl
  refine lv_aload_n hx hb dX1_signature_0 rfl (lv_at hl 0 rfl) ?_
  refine lv_iconst (v := 0) hx hb dX1_signature_1 (by decide) ?_
  refine va_put (D := (dC, dI)) (ci := 1) (v := .int 0) (ty := .int) (C := RX1) (T := TX1) (N := 13) hx hb htG inX1 tyX1 tyX1_ok nmX1 hown hK hP hD hS 0 rfl rfl 0 (by decide) (htG _ wd_331) (fun _ h9 => h9) rfl (by decide +kernel) rfl rfl (Nat.le_of_ble_eq_true rfl) dX1_signature_2 (fun H locs hP hD hS => ?_)
  have hP : va_P (dC, dI) vwCl (mW mh0 mh1 mh2 mh3 mc1 mc2 mc3 mk1 mk2 mk3 0 mf1 mf2 mf3 mf4 mf5 mf6 mf7 mf8 mf9) H := hP
  have hD : va_D A (mW mh0 mh1 mh2 mh3 mc1 mc2 mc3 mk1 mk2 mk3 0 mf1 mf2 mf3 mf4 mf5 mf6 mf7 mf8 mf9) := hD
  refine lv_iload_n hx hb dX1_signature_5 rfl (lv_at hl 1 rfl) ?_
  refine lv_if_lt (tgt := 14) hx hb dX1_signature_6 (by decide) (fun c_1 => ?_) (fun c_1 => ?_)
  · refine lv_aload_n hx hb dX1_signature_14 rfl (lv_at hl 0 rfl) ?_
    refine lv_iconst (v := 1) hx hb dX1_signature_15 (by decide) ?_
    have hFc := va_free (wc := (mW mh0 mh1 mh2 mh3 mc1 mc2 mc3 mk1 mk2 mk3 0 mf1 mf2 mf3 mf4 mf5 mf6 mf7 mf8 mf9)) hD hS hA [0, 1, 2, 3] rfl
    refine va_calli (va_runV (As := [.int 1]) (rest := []) ⟨hx, hb, hml, hown, htG⟩ (mX1_fail l dC dI mh0 mh1 mh2 mh3 H.size mc1 mc2 mc3 mk1 mk2 mk3 0 mf1 mf2 mf3 mf4 mf5 mf6 mf7 mf8 mf9 1) (cwV 1 htG (wG_V wd_387 wd_389 wd_11 wd_23 wd_390) rfl rfl rfl (by decide +kernel) ⟨Nat.le_of_ble_eq_true rfl, Nat.le_of_ble_eq_true rfl⟩) ⟨fun a U g mk q => by obtain ⟨q0, q1, qP, qK, qD⟩ := q; exact ⟨q0, q1, qP, va_K.moved (u := U) (U := U.calling g mk a) (Vm.Alike.refl U.vm) qK, qD⟩, va_recv hK hP (ci := 1) (q0 := 0) rfl rfl, fun U hU hW => ⟨rfl, by rw [hU], by rw [hU]; exact hP, va_K.moved hW.alike hK, hD.weaken (fun _ _ _ _ => trivial)⟩⟩ rfl rfl hl.1 rfl (lv_room (Nat.le_of_ble_eq_true rfl)) dX1_signature_16 ⟨Nat.le_of_ble_eq_true rfl, Nat.le_of_ble_eq_true rfl⟩) hS (fun q _ h => hFc q h) hFc (fun r_1 u t H1 locs ht hvm hw hB hz1 hk1 hS => ?_)
    rw [fX1_fail] at hw
    cases hw
    obtain ⟨hP1, hK1, hD1⟩ := hB
    rw [ht] at hP1
    obtain ⟨hP, hD⟩ := va_join (wr := []) (w1 := (mW mh0 mh1 mh2 mh3 mc1 mc2 mc3 mk1 mk2 mk3 1 mf1 mf2 mf3 mf4 mf5 mf6 mf7 mf8 mf9)) hP hD [0, 1, 2, 3] [] rfl rfl (by decide) (by decide) hk1 hFc hP1 hD1
    generalize H1 = H at hP hS ⊢
    have hP : va_P (dC, dI) vwCl (mW mh0 mh1 mh2 mh3 mc1 mc2 mc3 mk1 mk2 mk3 1 mf1 mf2 mf3 mf4 mf5 mf6 mf7 mf8 mf9) H := hP
    have hD : va_D A (mW mh0 mh1 mh2 mh3 mc1 mc2 mc3 mk1 mk2 mk3 1 mf1 mf2 mf3 mf4 mf5 mf6 mf7 mf8 mf9) := hD
    exact W.iret (v := 0) hx hb hr (fun t ht hW => ⟨⟨0, (mk1, mk2, mk3, 1, mf1, mf2, mf3, mf4, mf5, mf6, mf7, mf8, mf9), rfl, (by rw [fX1_signature, if_pos c_1]), by rw [ht]; exact hP, va_K.moved hW.alike hK, hD⟩, hS.F ht⟩) hS.2.2 dX1_signature_19
  · refine lv_iload_n hx hb dX1_signature_9 rfl (lv_at hl 1 rfl) ?_
    refine lv_iconst (v := 3) hx hb dX1_signature_10 (by decide) ?_
    refine lv_icmp_le (tgt := 20) hx hb dX1_signature_11 (by decide) (fun c_2 => ?_) (fun c_2 => ?_)
    · refine lv_aload_n hx hb dX1_signature_20 rfl (lv_at hl 0 rfl) ?_
      refine va_get (D := (dC, dI)) (ci := 1) (v := .int mf1) (C := RX1) (T := TX1) (N := 13) hx hb htG inX1 hown hK hP 0 rfl rfl 1 (by decide) (htG _ wd_332) (fun _ h9 => h9) rfl dX1_signature_21 ?_
      refine lv_iconst (v := 4) hx hb dX1_signature_24 (by decide) ?_
      refine lv_icmp_ne (tgt := 32) hx hb dX1_signature_25 (by decide) (fun c_3 => ?_) (fun c_3 => ?_)
      · refine lv_aload_n hx hb dX1_signature_32 rfl (lv_at hl 0 rfl) ?_
        refine va_get (D := (dC, dI)) (ci := 1) (v := .int mf1) (C := RX1) (T := TX1) (N := 13) hx hb htG inX1 hown hK hP 0 rfl rfl 1 (by decide) (htG _ wd_332) (fun _ h9 => h9) rfl dX1_signature_33 ?_
        refine lv_if_eq (tgt := 47) hx hb dX1_signature_36 (by decide) (fun c_4 => ?_) (fun c_4 => ?_)
        · refine lv_iconst (v := 2) hx hb dX1_signature_47 (by decide) ?_
          refine lv_goto (tgt := 53) hx hb dX1_signature_48 (by decide) ?_
          refine lv_istore_n (lv' := [(2, .int 2), (0, .ref mh0), (1, .int p0)]) hx hb dX1_signature_53 rfl hl (by decide) rfl (fun ls hl => ?_)
          refine lv_iload_n hx hb dX1_signature_54 rfl (lv_at hl 2 rfl) ?_
          refine lv_if_ne (tgt := 65) hx hb dX1_signature_55 (by decide) (fun c_5 => ?_) (fun c_5 => ?_)
          · refine lv_iload_n hx hb dX1_signature_65 rfl (lv_at hl 2 rfl) ?_
            refine lv_iconst (v := 1) hx hb dX1_signature_66 (by decide) ?_
            refine lv_icmp_ne (tgt := 77) hx hb dX1_signature_67 (by decide) (fun c_6 => ?_) (fun c_6 => ?_)
            · refine lv_iload_n hx hb dX1_signature_77 rfl (lv_at hl 2 rfl) ?_
              refine lv_iconst (v := 2) hx hb dX1_signature_78 (by decide) ?_
              refine lv_icmp_ne (tgt := 86) hx hb dX1_signature_79 (by decide) (fun c_7 => ?_) (fun c_7 => ?_)
              · refine lv_aload_n hx hb dX1_signature_86 rfl (lv_at hl 1 rfl) ?_
                refine lv_aload_n hx hb dX1_signature_87 rfl (lv_at hl 1 rfl) ?_
                refine va_get (D := (dC, dI)) (ci := 1) (v := .int mf2) (C := RX1) (T := TX1) (N := 13) hx hb htG inX1 hown hK hP 0 rfl rfl 2 (by decide) (htG _ wd_333) (fun _ h9 => h9) rfl dX1_signature_88 ?_
                refine vp_callSi (va_runV (As := [.int mf2]) (rest := []) ⟨hx, hb, hml, hown, htG⟩ (mX1_home l dC dI mh0 mh1 mh2 mh3 mc1 mc2 mc3 mk1 mk2 mk3 0 mf1 mf2 mf3 mf4 mf5 mf6 mf7 mf8 mf9 mf2 hN (fun h => absurd (ile_refl _) h)) (cwV 1 htG (wG_V wd_391 wd_393 wd_12 wd_23 wd_394) rfl rfl rfl (by decide +kernel) ⟨Nat.le_of_ble_eq_true rfl, Nat.le_of_ble_eq_true rfl⟩) ⟨fun a U g mk q => by obtain ⟨q0, qP, qK⟩ := q; exact ⟨q0, qP, va_K.moved (u := U) (U := U.calling g mk a) (Vm.Alike.refl U.vm) qK⟩, va_recv hK hP (ci := 1) (q0 := 0) rfl rfl, fun U hU hW => ⟨rfl, by rw [hU]; exact hP, va_K.moved hW.alike hK⟩⟩ rfl rfl hl.1 rfl (lv_room (Nat.le_of_ble_eq_true rfl)) dX1_signature_91 ⟨Nat.le_of_ble_eq_true rfl, Nat.le_of_ble_eq_true rfl⟩).run (fun r_2 er_2 => ?_)
                subst er_2
                exact W.iret (v := (fX1_home mk1 mk2 mk3 mf1 mf2 mf2)) hx hb hr (fun t ht hW => ⟨⟨(fX1_home mk1 mk2 mk3 mf1 mf2 mf2), (mk1, mk2, mk3, 0, mf1, mf2, mf3, mf4, mf5, mf6, mf7, mf8, mf9), rfl, (by rw [fX1_signature, if_neg c_1, if_pos c_2, if_neg c_3, if_pos c_4, if_neg c_5, if_neg c_6, if_neg c_7]), by rw [ht]; exact hP, va_K.moved hW.alike hK, hD⟩, hS.F ht⟩) hS.2.2 dX1_signature_94
              · refine lv_iload_n hx hb dX1_signature_82 rfl (lv_at hl 0 rfl) ?_
                refine lv_goto (tgt := 94) hx hb dX1_signature_83 (by decide) ?_
                exact W.iret (v := 2) hx hb hr (fun t ht hW => ⟨⟨2, (mk1, mk2, mk3, 0, mf1, mf2, mf3, mf4, mf5, mf6, mf7, mf8, mf9), rfl, (by rw [fX1_signature, if_neg c_1, if_pos c_2, if_neg c_3, if_pos c_4, if_neg c_5, if_neg c_6, if_pos c_7]), by rw [ht]; exact hP, va_K.moved hW.alike hK, hD⟩, hS.F ht⟩) hS.2.2 dX1_signature_94
            · refine lv_aload_n hx hb dX1_signature_70 rfl (lv_at hl 1 rfl) ?_
              refine va_get (D := (dC, dI)) (ci := 1) (v := .int mf2) (C := RX1) (T := TX1) (N := 13) hx hb htG inX1 hown hK hP 0 rfl rfl 2 (by decide) (htG _ wd_333) (fun _ h9 => h9) rfl dX1_signature_71 ?_
              refine lv_goto (tgt := 94) hx hb dX1_signature_74 (by decide) ?_
              exact W.iret (v := mf2) hx hb hr (fun t ht hW => ⟨⟨mf2, (mk1, mk2, mk3, 0, mf1, mf2, mf3, mf4, mf5, mf6, mf7, mf8, mf9), rfl, (by rw [fX1_signature, if_neg c_1, if_pos c_2, if_neg c_3, if_pos c_4, if_neg c_5, if_pos c_6]), by rw [ht]; exact hP, va_K.moved hW.alike hK, hD⟩, hS.F ht⟩) hS.2.2 dX1_signature_94
          · refine lv_aload_n hx hb dX1_signature_58 rfl (lv_at hl 1 rfl) ?_
            refine vp_callSi (va_runV (As := []) (rest := []) ⟨hx, hb, hml, hown, htG⟩ (mX1_area l dC dI mh0 mh1 mh2 mh3 mc1 mc2 mc3 mk1 mk2 mk3 0 mf1 mf2 mf3 mf4 mf5 mf6 mf7 mf8 mf9 hN) (cwV 0 htG (wG_V wd_431 wd_433 wd_18 wd_23 wd_434) rfl rfl rfl (by decide +kernel) ⟨Nat.le_of_ble_eq_true rfl, Nat.le_of_ble_eq_true rfl⟩) ⟨fun a U g mk q => by obtain ⟨q0, qP, qK⟩ := q; exact ⟨q0, qP, va_K.moved (u := U) (U := U.calling g mk a) (Vm.Alike.refl U.vm) qK⟩, va_recv hK hP (ci := 1) (q0 := 0) rfl rfl, fun U hU hW => ⟨rfl, by rw [hU]; exact hP, va_K.moved hW.alike hK⟩⟩ rfl rfl hl.1 rfl (lv_room (Nat.le_of_ble_eq_true rfl)) dX1_signature_59 ⟨Nat.le_of_ble_eq_true rfl, Nat.le_of_ble_eq_true rfl⟩).run (fun r_3 er_3 => ?_)
            subst er_3
            refine lv_goto (tgt := 94) hx hb dX1_signature_62 (by decide) ?_
            exact W.iret (v := (fX1_area mk1 mk2 mk3 mf1 mf2)) hx hb hr (fun t ht hW => ⟨⟨(fX1_area mk1 mk2 mk3 mf1 mf2), (mk1, mk2, mk3, 0, mf1, mf2, mf3, mf4, mf5, mf6, mf7, mf8, mf9), rfl, (by rw [fX1_signature, if_neg c_1, if_pos c_2, if_neg c_3, if_pos c_4, if_pos c_5]), by rw [ht]; exact hP, va_K.moved hW.alike hK, hD⟩, hS.F ht⟩) hS.2.2 dX1_signature_94
        · refine lv_aload_n hx hb dX1_signature_39 rfl (lv_at hl 0 rfl) ?_
          refine va_get (D := (dC, dI)) (ci := 1) (v := .int mf1) (C := RX1) (T := TX1) (N := 13) hx hb htG inX1 hown hK hP 0 rfl rfl 1 (by decide) (htG _ wd_332) (fun _ h9 => h9) rfl dX1_signature_40 ?_
          refine lv_iconst (v := 3) hx hb dX1_signature_43 (by decide) ?_
          refine lv_icmp_ne (tgt := 51) hx hb dX1_signature_44 (by decide) (fun c_8 => ?_) (fun c_8 => ?_)
          · refine lv_bipush (v := 32) hx hb dX1_signature_51 (by decide) ?_
            refine lv_istore_n (lv' := [(2, .int 32), (0, .ref mh0), (1, .int p0)]) hx hb dX1_signature_53 rfl hl (by decide) rfl (fun ls hl => ?_)
            refine lv_iload_n hx hb dX1_signature_54 rfl (lv_at hl 2 rfl) ?_
            refine lv_if_ne (tgt := 65) hx hb dX1_signature_55 (by decide) (fun c_9 => ?_) (fun c_9 => ?_)
            · refine lv_iload_n hx hb dX1_signature_65 rfl (lv_at hl 2 rfl) ?_
              refine lv_iconst (v := 1) hx hb dX1_signature_66 (by decide) ?_
              refine lv_icmp_ne (tgt := 77) hx hb dX1_signature_67 (by decide) (fun c_10 => ?_) (fun c_10 => ?_)
              · refine lv_iload_n hx hb dX1_signature_77 rfl (lv_at hl 2 rfl) ?_
                refine lv_iconst (v := 2) hx hb dX1_signature_78 (by decide) ?_
                refine lv_icmp_ne (tgt := 86) hx hb dX1_signature_79 (by decide) (fun c_11 => ?_) (fun c_11 => ?_)
                · refine lv_aload_n hx hb dX1_signature_86 rfl (lv_at hl 1 rfl) ?_
                  refine lv_aload_n hx hb dX1_signature_87 rfl (lv_at hl 1 rfl) ?_
                  refine va_get (D := (dC, dI)) (ci := 1) (v := .int mf2) (C := RX1) (T := TX1) (N := 13) hx hb htG inX1 hown hK hP 0 rfl rfl 2 (by decide) (htG _ wd_333) (fun _ h9 => h9) rfl dX1_signature_88 ?_
                  refine vp_callSi (va_runV (As := [.int mf2]) (rest := []) ⟨hx, hb, hml, hown, htG⟩ (mX1_home l dC dI mh0 mh1 mh2 mh3 mc1 mc2 mc3 mk1 mk2 mk3 0 mf1 mf2 mf3 mf4 mf5 mf6 mf7 mf8 mf9 mf2 hN (fun h => absurd (ile_refl _) h)) (cwV 1 htG (wG_V wd_391 wd_393 wd_12 wd_23 wd_394) rfl rfl rfl (by decide +kernel) ⟨Nat.le_of_ble_eq_true rfl, Nat.le_of_ble_eq_true rfl⟩) ⟨fun a U g mk q => by obtain ⟨q0, qP, qK⟩ := q; exact ⟨q0, qP, va_K.moved (u := U) (U := U.calling g mk a) (Vm.Alike.refl U.vm) qK⟩, va_recv hK hP (ci := 1) (q0 := 0) rfl rfl, fun U hU hW => ⟨rfl, by rw [hU]; exact hP, va_K.moved hW.alike hK⟩⟩ rfl rfl hl.1 rfl (lv_room (Nat.le_of_ble_eq_true rfl)) dX1_signature_91 ⟨Nat.le_of_ble_eq_true rfl, Nat.le_of_ble_eq_true rfl⟩).run (fun r_4 er_4 => ?_)
                  subst er_4
                  exact W.iret (v := (fX1_home mk1 mk2 mk3 mf1 mf2 mf2)) hx hb hr (fun t ht hW => ⟨⟨(fX1_home mk1 mk2 mk3 mf1 mf2 mf2), (mk1, mk2, mk3, 0, mf1, mf2, mf3, mf4, mf5, mf6, mf7, mf8, mf9), rfl, (by rw [fX1_signature, if_neg c_1, if_pos c_2, if_neg c_3, if_neg c_4, if_neg c_8, if_neg c_9, if_neg c_10, if_neg c_11]), by rw [ht]; exact hP, va_K.moved hW.alike hK, hD⟩, hS.F ht⟩) hS.2.2 dX1_signature_94
                · refine lv_iload_n hx hb dX1_signature_82 rfl (lv_at hl 0 rfl) ?_
                  refine lv_goto (tgt := 94) hx hb dX1_signature_83 (by decide) ?_
                  exact W.iret (v := 32) hx hb hr (fun t ht hW => ⟨⟨32, (mk1, mk2, mk3, 0, mf1, mf2, mf3, mf4, mf5, mf6, mf7, mf8, mf9), rfl, (by rw [fX1_signature, if_neg c_1, if_pos c_2, if_neg c_3, if_neg c_4, if_neg c_8, if_neg c_9, if_neg c_10, if_pos c_11]), by rw [ht]; exact hP, va_K.moved hW.alike hK, hD⟩, hS.F ht⟩) hS.2.2 dX1_signature_94
              · refine lv_aload_n hx hb dX1_signature_70 rfl (lv_at hl 1 rfl) ?_
                refine va_get (D := (dC, dI)) (ci := 1) (v := .int mf2) (C := RX1) (T := TX1) (N := 13) hx hb htG inX1 hown hK hP 0 rfl rfl 2 (by decide) (htG _ wd_333) (fun _ h9 => h9) rfl dX1_signature_71 ?_
                refine lv_goto (tgt := 94) hx hb dX1_signature_74 (by decide) ?_
                exact W.iret (v := mf2) hx hb hr (fun t ht hW => ⟨⟨mf2, (mk1, mk2, mk3, 0, mf1, mf2, mf3, mf4, mf5, mf6, mf7, mf8, mf9), rfl, (by rw [fX1_signature, if_neg c_1, if_pos c_2, if_neg c_3, if_neg c_4, if_neg c_8, if_neg c_9, if_pos c_10]), by rw [ht]; exact hP, va_K.moved hW.alike hK, hD⟩, hS.F ht⟩) hS.2.2 dX1_signature_94
            · refine lv_aload_n hx hb dX1_signature_58 rfl (lv_at hl 1 rfl) ?_
              refine vp_callSi (va_runV (As := []) (rest := []) ⟨hx, hb, hml, hown, htG⟩ (mX1_area l dC dI mh0 mh1 mh2 mh3 mc1 mc2 mc3 mk1 mk2 mk3 0 mf1 mf2 mf3 mf4 mf5 mf6 mf7 mf8 mf9 hN) (cwV 0 htG (wG_V wd_431 wd_433 wd_18 wd_23 wd_434) rfl rfl rfl (by decide +kernel) ⟨Nat.le_of_ble_eq_true rfl, Nat.le_of_ble_eq_true rfl⟩) ⟨fun a U g mk q => by obtain ⟨q0, qP, qK⟩ := q; exact ⟨q0, qP, va_K.moved (u := U) (U := U.calling g mk a) (Vm.Alike.refl U.vm) qK⟩, va_recv hK hP (ci := 1) (q0 := 0) rfl rfl, fun U hU hW => ⟨rfl, by rw [hU]; exact hP, va_K.moved hW.alike hK⟩⟩ rfl rfl hl.1 rfl (lv_room (Nat.le_of_ble_eq_true rfl)) dX1_signature_59 ⟨Nat.le_of_ble_eq_true rfl, Nat.le_of_ble_eq_true rfl⟩).run (fun r_5 er_5 => ?_)
              subst er_5
              refine lv_goto (tgt := 94) hx hb dX1_signature_62 (by decide) ?_
              exact W.iret (v := (fX1_area mk1 mk2 mk3 mf1 mf2)) hx hb hr (fun t ht hW => ⟨⟨(fX1_area mk1 mk2 mk3 mf1 mf2), (mk1, mk2, mk3, 0, mf1, mf2, mf3, mf4, mf5, mf6, mf7, mf8, mf9), rfl, (by rw [fX1_signature, if_neg c_1, if_pos c_2, if_neg c_3, if_neg c_4, if_neg c_8, if_pos c_9]), by rw [ht]; exact hP, va_K.moved hW.alike hK, hD⟩, hS.F ht⟩) hS.2.2 dX1_signature_94
          · refine lv_iconst (v := 2) hx hb dX1_signature_47 (by decide) ?_
            refine lv_goto (tgt := 53) hx hb dX1_signature_48 (by decide) ?_
            refine lv_istore_n (lv' := [(2, .int 2), (0, .ref mh0), (1, .int p0)]) hx hb dX1_signature_53 rfl hl (by decide) rfl (fun ls hl => ?_)
            refine lv_iload_n hx hb dX1_signature_54 rfl (lv_at hl 2 rfl) ?_
            refine lv_if_ne (tgt := 65) hx hb dX1_signature_55 (by decide) (fun c_12 => ?_) (fun c_12 => ?_)
            · refine lv_iload_n hx hb dX1_signature_65 rfl (lv_at hl 2 rfl) ?_
              refine lv_iconst (v := 1) hx hb dX1_signature_66 (by decide) ?_
              refine lv_icmp_ne (tgt := 77) hx hb dX1_signature_67 (by decide) (fun c_13 => ?_) (fun c_13 => ?_)
              · refine lv_iload_n hx hb dX1_signature_77 rfl (lv_at hl 2 rfl) ?_
                refine lv_iconst (v := 2) hx hb dX1_signature_78 (by decide) ?_
                refine lv_icmp_ne (tgt := 86) hx hb dX1_signature_79 (by decide) (fun c_14 => ?_) (fun c_14 => ?_)
                · refine lv_aload_n hx hb dX1_signature_86 rfl (lv_at hl 1 rfl) ?_
                  refine lv_aload_n hx hb dX1_signature_87 rfl (lv_at hl 1 rfl) ?_
                  refine va_get (D := (dC, dI)) (ci := 1) (v := .int mf2) (C := RX1) (T := TX1) (N := 13) hx hb htG inX1 hown hK hP 0 rfl rfl 2 (by decide) (htG _ wd_333) (fun _ h9 => h9) rfl dX1_signature_88 ?_
                  refine vp_callSi (va_runV (As := [.int mf2]) (rest := []) ⟨hx, hb, hml, hown, htG⟩ (mX1_home l dC dI mh0 mh1 mh2 mh3 mc1 mc2 mc3 mk1 mk2 mk3 0 mf1 mf2 mf3 mf4 mf5 mf6 mf7 mf8 mf9 mf2 hN (fun h => absurd (ile_refl _) h)) (cwV 1 htG (wG_V wd_391 wd_393 wd_12 wd_23 wd_394) rfl rfl rfl (by decide +kernel) ⟨Nat.le_of_ble_eq_true rfl, Nat.le_of_ble_eq_true rfl⟩) ⟨fun a U g mk q => by obtain ⟨q0, qP, qK⟩ := q; exact ⟨q0, qP, va_K.moved (u := U) (U := U.calling g mk a) (Vm.Alike.refl U.vm) qK⟩, va_recv hK hP (ci := 1) (q0 := 0) rfl rfl, fun U hU hW => ⟨rfl, by rw [hU]; exact hP, va_K.moved hW.alike hK⟩⟩ rfl rfl hl.1 rfl (lv_room (Nat.le_of_ble_eq_true rfl)) dX1_signature_91 ⟨Nat.le_of_ble_eq_true rfl, Nat.le_of_ble_eq_true rfl⟩).run (fun r_6 er_6 => ?_)
                  subst er_6
                  exact W.iret (v := (fX1_home mk1 mk2 mk3 mf1 mf2 mf2)) hx hb hr (fun t ht hW => ⟨⟨(fX1_home mk1 mk2 mk3 mf1 mf2 mf2), (mk1, mk2, mk3, 0, mf1, mf2, mf3, mf4, mf5, mf6, mf7, mf8, mf9), rfl, (by rw [fX1_signature, if_neg c_1, if_pos c_2, if_neg c_3, if_neg c_4, if_pos c_8, if_neg c_12, if_neg c_13, if_neg c_14]), by rw [ht]; exact hP, va_K.moved hW.alike hK, hD⟩, hS.F ht⟩) hS.2.2 dX1_signature_94
                · refine lv_iload_n hx hb dX1_signature_82 rfl (lv_at hl 0 rfl) ?_
                  refine lv_goto (tgt := 94) hx hb dX1_signature_83 (by decide) ?_
                  exact W.iret (v := 2) hx hb hr (fun t ht hW => ⟨⟨2, (mk1, mk2, mk3, 0, mf1, mf2, mf3, mf4, mf5, mf6, mf7, mf8, mf9), rfl, (by rw [fX1_signature, if_neg c_1, if_pos c_2, if_neg c_3, if_neg c_4, if_pos c_8, if_neg c_12, if_neg c_13, if_pos c_14]), by rw [ht]; exact hP, va_K.moved hW.alike hK, hD⟩, hS.F ht⟩) hS.2.2 dX1_signature_94
              · refine lv_aload_n hx hb dX1_signature_70 rfl (lv_at hl 1 rfl) ?_
                refine va_get (D := (dC, dI)) (ci := 1) (v := .int mf2) (C := RX1) (T := TX1) (N := 13) hx hb htG inX1 hown hK hP 0 rfl rfl 2 (by decide) (htG _ wd_333) (fun _ h9 => h9) rfl dX1_signature_71 ?_
                refine lv_goto (tgt := 94) hx hb dX1_signature_74 (by decide) ?_
                exact W.iret (v := mf2) hx hb hr (fun t ht hW => ⟨⟨mf2, (mk1, mk2, mk3, 0, mf1, mf2, mf3, mf4, mf5, mf6, mf7, mf8, mf9), rfl, (by rw [fX1_signature, if_neg c_1, if_pos c_2, if_neg c_3, if_neg c_4, if_pos c_8, if_neg c_12, if_pos c_13]), by rw [ht]; exact hP, va_K.moved hW.alike hK, hD⟩, hS.F ht⟩) hS.2.2 dX1_signature_94
            · refine lv_aload_n hx hb dX1_signature_58 rfl (lv_at hl 1 rfl) ?_
              refine vp_callSi (va_runV (As := []) (rest := []) ⟨hx, hb, hml, hown, htG⟩ (mX1_area l dC dI mh0 mh1 mh2 mh3 mc1 mc2 mc3 mk1 mk2 mk3 0 mf1 mf2 mf3 mf4 mf5 mf6 mf7 mf8 mf9 hN) (cwV 0 htG (wG_V wd_431 wd_433 wd_18 wd_23 wd_434) rfl rfl rfl (by decide +kernel) ⟨Nat.le_of_ble_eq_true rfl, Nat.le_of_ble_eq_true rfl⟩) ⟨fun a U g mk q => by obtain ⟨q0, qP, qK⟩ := q; exact ⟨q0, qP, va_K.moved (u := U) (U := U.calling g mk a) (Vm.Alike.refl U.vm) qK⟩, va_recv hK hP (ci := 1) (q0 := 0) rfl rfl, fun U hU hW => ⟨rfl, by rw [hU]; exact hP, va_K.moved hW.alike hK⟩⟩ rfl rfl hl.1 rfl (lv_room (Nat.le_of_ble_eq_true rfl)) dX1_signature_59 ⟨Nat.le_of_ble_eq_true rfl, Nat.le_of_ble_eq_true rfl⟩).run (fun r_7 er_7 => ?_)
              subst er_7
              refine lv_goto (tgt := 94) hx hb dX1_signature_62 (by decide) ?_
              exact W.iret (v := (fX1_area mk1 mk2 mk3 mf1 mf2)) hx hb hr (fun t ht hW => ⟨⟨(fX1_area mk1 mk2 mk3 mf1 mf2), (mk1, mk2, mk3, 0, mf1, mf2, mf3, mf4, mf5, mf6, mf7, mf8, mf9), rfl, (by rw [fX1_signature, if_neg c_1, if_pos c_2, if_neg c_3, if_neg c_4, if_pos c_8, if_pos c_12]), by rw [ht]; exact hP, va_K.moved hW.alike hK, hD⟩, hS.F ht⟩) hS.2.2 dX1_signature_94
      · refine lv_iconst (v := (-1)) hx hb dX1_signature_28 (by decide) ?_
        refine lv_goto (tgt := 53) hx hb dX1_signature_29 (by decide) ?_
        refine lv_istore_n (lv' := [(2, .int (-1)), (0, .ref mh0), (1, .int p0)]) hx hb dX1_signature_53 rfl hl (by decide) rfl (fun ls hl => ?_)
        refine lv_iload_n hx hb dX1_signature_54 rfl (lv_at hl 2 rfl) ?_
        refine lv_if_ne (tgt := 65) hx hb dX1_signature_55 (by decide) (fun c_15 => ?_) (fun c_15 => ?_)
        · refine lv_iload_n hx hb dX1_signature_65 rfl (lv_at hl 2 rfl) ?_
          refine lv_iconst (v := 1) hx hb dX1_signature_66 (by decide) ?_
          refine lv_icmp_ne (tgt := 77) hx hb dX1_signature_67 (by decide) (fun c_16 => ?_) (fun c_16 => ?_)
          · refine lv_iload_n hx hb dX1_signature_77 rfl (lv_at hl 2 rfl) ?_
            refine lv_iconst (v := 2) hx hb dX1_signature_78 (by decide) ?_
            refine lv_icmp_ne (tgt := 86) hx hb dX1_signature_79 (by decide) (fun c_17 => ?_) (fun c_17 => ?_)
            · refine lv_aload_n hx hb dX1_signature_86 rfl (lv_at hl 1 rfl) ?_
              refine lv_aload_n hx hb dX1_signature_87 rfl (lv_at hl 1 rfl) ?_
              refine va_get (D := (dC, dI)) (ci := 1) (v := .int mf2) (C := RX1) (T := TX1) (N := 13) hx hb htG inX1 hown hK hP 0 rfl rfl 2 (by decide) (htG _ wd_333) (fun _ h9 => h9) rfl dX1_signature_88 ?_
              refine vp_callSi (va_runV (As := [.int mf2]) (rest := []) ⟨hx, hb, hml, hown, htG⟩ (mX1_home l dC dI mh0 mh1 mh2 mh3 mc1 mc2 mc3 mk1 mk2 mk3 0 mf1 mf2 mf3 mf4 mf5 mf6 mf7 mf8 mf9 mf2 hN (fun h => absurd (ile_refl _) h)) (cwV 1 htG (wG_V wd_391 wd_393 wd_12 wd_23 wd_394) rfl rfl rfl (by decide +kernel) ⟨Nat.le_of_ble_eq_true rfl, Nat.le_of_ble_eq_true rfl⟩) ⟨fun a U g mk q => by obtain ⟨q0, qP, qK⟩ := q; exact ⟨q0, qP, va_K.moved (u := U) (U := U.calling g mk a) (Vm.Alike.refl U.vm) qK⟩, va_recv hK hP (ci := 1) (q0 := 0) rfl rfl, fun U hU hW => ⟨rfl, by rw [hU]; exact hP, va_K.moved hW.alike hK⟩⟩ rfl rfl hl.1 rfl (lv_room (Nat.le_of_ble_eq_true rfl)) dX1_signature_91 ⟨Nat.le_of_ble_eq_true rfl, Nat.le_of_ble_eq_true rfl⟩).run (fun r_8 er_8 => ?_)
              subst er_8
              exact W.iret (v := (fX1_home mk1 mk2 mk3 mf1 mf2 mf2)) hx hb hr (fun t ht hW => ⟨⟨(fX1_home mk1 mk2 mk3 mf1 mf2 mf2), (mk1, mk2, mk3, 0, mf1, mf2, mf3, mf4, mf5, mf6, mf7, mf8, mf9), rfl, (by rw [fX1_signature, if_neg c_1, if_pos c_2, if_pos c_3, if_neg c_15, if_neg c_16, if_neg c_17]), by rw [ht]; exact hP, va_K.moved hW.alike hK, hD⟩, hS.F ht⟩) hS.2.2 dX1_signature_94
            · refine lv_iload_n hx hb dX1_signature_82 rfl (lv_at hl 0 rfl) ?_
              refine lv_goto (tgt := 94) hx hb dX1_signature_83 (by decide) ?_
              exact W.iret (v := (-1)) hx hb hr (fun t ht hW => ⟨⟨(-1), (mk1, mk2, mk3, 0, mf1, mf2, mf3, mf4, mf5, mf6, mf7, mf8, mf9), rfl, (by rw [fX1_signature, if_neg c_1, if_pos c_2, if_pos c_3, if_neg c_15, if_neg c_16, if_pos c_17]), by rw [ht]; exact hP, va_K.moved hW.alike hK, hD⟩, hS.F ht⟩) hS.2.2 dX1_signature_94
          · refine lv_aload_n hx hb dX1_signature_70 rfl (lv_at hl 1 rfl) ?_
            refine va_get (D := (dC, dI)) (ci := 1) (v := .int mf2) (C := RX1) (T := TX1) (N := 13) hx hb htG inX1 hown hK hP 0 rfl rfl 2 (by decide) (htG _ wd_333) (fun _ h9 => h9) rfl dX1_signature_71 ?_
            refine lv_goto (tgt := 94) hx hb dX1_signature_74 (by decide) ?_
            exact W.iret (v := mf2) hx hb hr (fun t ht hW => ⟨⟨mf2, (mk1, mk2, mk3, 0, mf1, mf2, mf3, mf4, mf5, mf6, mf7, mf8, mf9), rfl, (by rw [fX1_signature, if_neg c_1, if_pos c_2, if_pos c_3, if_neg c_15, if_pos c_16]), by rw [ht]; exact hP, va_K.moved hW.alike hK, hD⟩, hS.F ht⟩) hS.2.2 dX1_signature_94
        · refine lv_aload_n hx hb dX1_signature_58 rfl (lv_at hl 1 rfl) ?_
          refine vp_callSi (va_runV (As := []) (rest := []) ⟨hx, hb, hml, hown, htG⟩ (mX1_area l dC dI mh0 mh1 mh2 mh3 mc1 mc2 mc3 mk1 mk2 mk3 0 mf1 mf2 mf3 mf4 mf5 mf6 mf7 mf8 mf9 hN) (cwV 0 htG (wG_V wd_431 wd_433 wd_18 wd_23 wd_434) rfl rfl rfl (by decide +kernel) ⟨Nat.le_of_ble_eq_true rfl, Nat.le_of_ble_eq_true rfl⟩) ⟨fun a U g mk q => by obtain ⟨q0, qP, qK⟩ := q; exact ⟨q0, qP, va_K.moved (u := U) (U := U.calling g mk a) (Vm.Alike.refl U.vm) qK⟩, va_recv hK hP (ci := 1) (q0 := 0) rfl rfl, fun U hU hW => ⟨rfl, by rw [hU]; exact hP, va_K.moved hW.alike hK⟩⟩ rfl rfl hl.1 rfl (lv_room (Nat.le_of_ble_eq_true rfl)) dX1_signature_59 ⟨Nat.le_of_ble_eq_true rfl, Nat.le_of_ble_eq_true rfl⟩).run (fun r_9 er_9 => ?_)
          subst er_9
          refine lv_goto (tgt := 94) hx hb dX1_signature_62 (by decide) ?_
          exact W.iret (v := (fX1_area mk1 mk2 mk3 mf1 mf2)) hx hb hr (fun t ht hW => ⟨⟨(fX1_area mk1 mk2 mk3 mf1 mf2), (mk1, mk2, mk3, 0, mf1, mf2, mf3, mf4, mf5, mf6, mf7, mf8, mf9), rfl, (by rw [fX1_signature, if_neg c_1, if_pos c_2, if_pos c_3, if_pos c_15]), by rw [ht]; exact hP, va_K.moved hW.alike hK, hD⟩, hS.F ht⟩) hS.2.2 dX1_signature_94
    · refine lv_aload_n hx hb dX1_signature_14 rfl (lv_at hl 0 rfl) ?_
      refine lv_iconst (v := 1) hx hb dX1_signature_15 (by decide) ?_
      have hFc := va_free (wc := (mW mh0 mh1 mh2 mh3 mc1 mc2 mc3 mk1 mk2 mk3 0 mf1 mf2 mf3 mf4 mf5 mf6 mf7 mf8 mf9)) hD hS hA [0, 1, 2, 3] rfl
      refine va_calli (va_runV (As := [.int 1]) (rest := []) ⟨hx, hb, hml, hown, htG⟩ (mX1_fail l dC dI mh0 mh1 mh2 mh3 H.size mc1 mc2 mc3 mk1 mk2 mk3 0 mf1 mf2 mf3 mf4 mf5 mf6 mf7 mf8 mf9 1) (cwV 1 htG (wG_V wd_387 wd_389 wd_11 wd_23 wd_390) rfl rfl rfl (by decide +kernel) ⟨Nat.le_of_ble_eq_true rfl, Nat.le_of_ble_eq_true rfl⟩) ⟨fun a U g mk q => by obtain ⟨q0, q1, qP, qK, qD⟩ := q; exact ⟨q0, q1, qP, va_K.moved (u := U) (U := U.calling g mk a) (Vm.Alike.refl U.vm) qK, qD⟩, va_recv hK hP (ci := 1) (q0 := 0) rfl rfl, fun U hU hW => ⟨rfl, by rw [hU], by rw [hU]; exact hP, va_K.moved hW.alike hK, hD.weaken (fun _ _ _ _ => trivial)⟩⟩ rfl rfl hl.1 rfl (lv_room (Nat.le_of_ble_eq_true rfl)) dX1_signature_16 ⟨Nat.le_of_ble_eq_true rfl, Nat.le_of_ble_eq_true rfl⟩) hS (fun q _ h => hFc q h) hFc (fun r_10 u t H1 locs ht hvm hw hB hz1 hk1 hS => ?_)
      rw [fX1_fail] at hw
      cases hw
      obtain ⟨hP1, hK1, hD1⟩ := hB
      rw [ht] at hP1
      obtain ⟨hP, hD⟩ := va_join (wr := []) (w1 := (mW mh0 mh1 mh2 mh3 mc1 mc2 mc3 mk1 mk2 mk3 1 mf1 mf2 mf3 mf4 mf5 mf6 mf7 mf8 mf9)) hP hD [0, 1, 2, 3] [] rfl rfl (by decide) (by decide) hk1 hFc hP1 hD1
      generalize H1 = H at hP hS ⊢
      have hP : va_P (dC, dI) vwCl (mW mh0 mh1 mh2 mh3 mc1 mc2 mc3 mk1 mk2 mk3 1 mf1 mf2 mf3 mf4 mf5 mf6 mf7 mf8 mf9) H := hP
      have hD : va_D A (mW mh0 mh1 mh2 mh3 mc1 mc2 mc3 mk1 mk2 mk3 1 mf1 mf2 mf3 mf4 mf5 mf6 mf7 mf8 mf9) := hD
      exact W.iret (v := 0) hx hb hr (fun t ht hW => ⟨⟨0, (mk1, mk2, mk3, 1, mf1, mf2, mf3, mf4, mf5, mf6, mf7, mf8, mf9), rfl, (by rw [fX1_signature, if_neg c_1, if_neg c_2]), by rw [ht]; exact hP, va_K.moved hW.alike hK, hD⟩, hS.F ht⟩) hS.2.2 dX1_signature_19

def fX1_about (mk1 mk2 mk3 : Nat → Int32) (mf0 mf1 mf2 mf3 mf4 mf5 mf6 mf7 mf8 mf9 : Int32) (p0 p1 : Int32) : Int32 × Int32 × mWS :=
  if (fX1_isThere mf1 mf2 p0) = 0 then (0, 0, (mk1, mk2, mk3, 1, mf1, mf2, mf3, mf4, mf5, mf6, mf7, mf8, mf9))
  else if p1 < 0 then (0, 0, (mk1, mk2, mk3, 1, mf1, mf2, mf3, mf4, mf5, mf6, mf7, mf8, mf9))
    else if p1 ≤ 2 then (if p0 = (-1) then (if p1 = 0 then (0, 0, (mk1, mk2, mk3, 0, mf1, mf2, mf3, mf4, mf5, mf6, mf7, mf8, mf9))
          else if p1 = 1 then (0, 4, (mk1, mk2, mk3, 0, mf1, mf2, mf3, mf4, mf5, mf6, mf7, mf8, mf9))
            else (0, 1, (mk1, mk2, mk3, 0, mf1, mf2, mf3, mf4, mf5, mf6, mf7, mf8, mf9)))
        else if p1 = 0 then (0, (fX1_home mk1 mk2 mk3 mf1 mf2 p0), (mk1, mk2, mk3, 0, mf1, mf2, mf3, mf4, mf5, mf6, mf7, mf8, mf9))
          else if p1 = 1 then (0, (fX1_bytes mk1 mk2 p0), (mk1, mk2, mk3, 0, mf1, mf2, mf3, mf4, mf5, mf6, mf7, mf8, mf9))
            else (0, (fX1_words mk1 mk2 p0), (mk1, mk2, mk3, 0, mf1, mf2, mf3, mf4, mf5, mf6, mf7, mf8, mf9)))
      else (0, 0, (mk1, mk2, mk3, 1, mf1, mf2, mf3, mf4, mf5, mf6, mf7, mf8, mf9))

abbrev wsX1_about : List Cond := .code yX1_about cX1_about 3 (some .int) :: wG
set_option maxHeartbeats 4000000 in
set_option maxRecDepth 100000 in
theorem mX1_about (l : Launch) (dC : Nat → ClassId) (dI : Nat → Nat → Nat) (mh0 mh1 mh2 mh3 : Nat) (sz : Nat) (mc1 mc2 mc3 : ClassId) (mk1 mk2 mk3 : Nat → Int32) (mf0 mf1 mf2 mf3 mf4 mf5 mf6 mf7 mf8 mf9 : Int32) (p0 p1 : Int32) (hN : mf2.toNatClampNeg ≤ 60) : Met l yX1_about wsX1_about ({ frames := 2, cells := 0, slots := 0, locals := 44 }) (va_Pc [.ref mh0, .int p0, .int p1] (fun U => U.heap.size = sz ∧ va_P (dC, dI) vwCl (mW mh0 mh1 mh2 mh3 mc1 mc2 mc3 mk1 mk2 mk3 mf0 mf1 mf2 mf3 mf4 mf5 mf6 mf7 mf8 mf9) U.heap ∧ va_K (dC, dI) vwCl [(mc1, .int), (mc2, .int), (mc3, .int)] U ∧ va_D (fun _ => True) (mW mh0 mh1 mh2 mh3 mc1 mc2 mc3 mk1 mk2 mk3 mf0 mf1 mf2 mf3 mf4 mf5 mf6 mf7 mf8 mf9))) (va_Qi (fun r u => (0, r, u) = fX1_about mk1 mk2 mk3 mf0 mf1 mf2 mf3 mf4 mf5 mf6 mf7 mf8 mf9 p0 p1) (mWB dC dI (va_A (mW mh0 mh1 mh2 mh3 mc1 mc2 mc3 mk1 mk2 mk3 mf0 mf1 mf2 mf3 mf4 mf5 mf6 mf7 mf8 mf9) sz) mh0 mh1 mh2 mh3 mc1 mc2 mc3) (va_A (mW mh0 mh1 mh2 mh3 mc1 mc2 mc3 mk1 mk2 mk3 mf0 mf1 mf2 mf3 mf4 mf5 mf6 mf7 mf8 mf9) sz)) 0 0 (va_A (mW mh0 mh1 mh2 mh3 mc1 mc2 mc3 mk1 mk2 mk3 mf0 mf1 mf2 mf3 mf4 mf5 mf6 mf7 mf8 mf9) sz) := by
  refine Met.ofW (cc := cX1_about) (maxL := 3) (ret := (some .int)) (by decide) rfl ?_
  intro p e s m args below meth c s₁ B hml hv
  obtain ⟨rfl, hsz, hP, hK, hD0⟩ := hv
  have hx := B.exec
  have hb := B.bytes
  have hr := B.returns
  have hts := atoms_spec (ws := wsX1_about) B.pre
  have htG := fun (w : Cond) (h : w ∈ wG) => hts w (List.mem_cons_of_mem _ h)
  have hown : s.vm.findClass RX1 = some m.cls := findClass_of_methodNamed B.named
  have hlocks := B.notSynchronized
  subst hsz
  have hD := hD0.self (sz := s.heap.size)
  generalize hAe : va_A (mW mh0 mh1 mh2 mh3 mc1 mc2 mc3 mk1 mk2 mk3 mf0 mf1 mf2 mf3 mf4 mf5 mf6 mf7 mf8 mf9) s.heap.size = A at hD ⊢
  have hA : ∀ q : Nat, s.heap.size ≤ q → A q := fun q h => by rw [← hAe]; exact Or.inr h
  have hS : va_S A s.heap s.heap [] := va_S.rf
  have hP : va_P (dC, dI) vwCl (mW mh0 mh1 mh2 mh3 mc1 mc2 mc3 mk1 mk2 mk3 mf0 mf1 mf2 mf3 mf4 mf5 mf6 mf7 mf8 mf9) s.heap := hP
  have hl := lv_entry ([.ref mh0, .int p0, .int p1]) (n := 3) (Nat.le_of_ble_eq_true rfl)
  rw [lg_entry_eq]
  generalize (lg_sl ([.ref mh0, .int p0, .int p1]) ++ List.replicate (3 - (lg_sl ([.ref mh0, .int p0, .int p1])).length) Slot.unset).toArray = ls at hl ⊢
  have hl : lv_has ls 3 [(0, .ref mh0), (1, .int p0), (2, .int p1)] := hl
  refine lv_aload_n hx hb dX1_about_0 rfl (lv_at hl 0 rfl) ?_
  refine lv_iconst (v := 0) hx hb dX1_about_1 (by decide) ?_
  refine va_put (D := (dC, dI)) (ci := 1) (v := .int 0) (ty := .int) (C := RX1) (T := TX1) (N := 13) hx hb htG inX1 tyX1 tyX1_ok nmX1 hown hK hP hD hS 0 rfl rfl 0 (by decide) (htG _ wd_331) (fun _ h9 => h9) rfl (by decide +kernel) rfl rfl (Nat.le_of_ble_eq_true rfl) dX1_about_2 (fun H locs hP hD hS => ?_)
  have hP : va_P (dC, dI) vwCl (mW mh0 mh1 mh2 mh3 mc1 mc2 mc3 mk1 mk2 mk3 0 mf1 mf2 mf3 mf4 mf5 mf6 mf7 mf8 mf9) H := hP
  have hD : va_D A (mW mh0 mh1 mh2 mh3 mc1 mc2 mc3 mk1 mk2 mk3 0 mf1 mf2 mf3 mf4 mf5 mf6 mf7 mf8 mf9) := hD
  refine lv_aload_n hx hb dX1_about_5 rfl (lv_at hl 0 rfl) ?_
  refine lv_iload_n hx hb dX1_about_6 rfl (lv_at hl 1 rfl) ?_
  refine vp_callSi (va_runV (As := [.int p0]) (rest := []) ⟨hx, hb, hml, hown, htG⟩ (mX1_isThere l dC dI mh0 mh1 mh2 mh3 mc1 mc2 mc3 mk1 mk2 mk3 0 mf1 mf2 mf3 mf4 mf5 mf6 mf7 mf8 mf9 p0) (cwV 1 htG (wG_V wd_411 wd_413 wd_15 wd_23 wd_414) rfl rfl rfl (by decide +kernel) ⟨Nat.le_of_ble_eq_true rfl, Nat.le_of_ble_eq_true rfl⟩) ⟨fun a U g mk q => by obtain ⟨q0, qP, qK⟩ := q; exact ⟨q0, qP, va_K.moved (u := U) (U := U.calling g mk a) (Vm.Alike.refl U.vm) qK⟩, va_recv hK hP (ci := 1) (q0 := 0) rfl rfl, fun U hU hW => ⟨rfl, by rw [hU]; exact hP, va_K.moved hW.alike hK⟩⟩ rfl rfl hl.1 rfl (lv_room (Nat.le_of_ble_eq_true rfl)) dX1_about_7 ⟨Nat.le_of_ble_eq_true rfl, Nat.le_of_ble_eq_true rfl⟩).run (fun r_1 er_1 => ?_)
  subst er_1
  refine lv_if_eq (tgt := 22) hx hb dX1_about_10 (by decide) (fun c_1 => ?_) (fun c_1 => ?_)
  · refine lv_aload_n hx hb dX1_about_22 rfl (lv_at hl 0 rfl) ?_
    refine lv_iconst (v := 1) hx hb dX1_about_23 (by decide) ?_
    have hFc := va_free (wc := (mW mh0 mh1 mh2 mh3 mc1 mc2 mc3 mk1 mk2 mk3 0 mf1 mf2 mf3 mf4 mf5 mf6 mf7 mf8 mf9)) hD hS hA [0, 1, 2, 3] rfl
    refine va_calli (va_runV (As := [.int 1]) (rest := []) ⟨hx, hb, hml, hown, htG⟩ (mX1_fail l dC dI mh0 mh1 mh2 mh3 H.size mc1 mc2 mc3 mk1 mk2 mk3 0 mf1 mf2 mf3 mf4 mf5 mf6 mf7 mf8 mf9 1) (cwV 1 htG (wG_V wd_387 wd_389 wd_11 wd_23 wd_390) rfl rfl rfl (by decide +kernel) ⟨Nat.le_of_ble_eq_true rfl, Nat.le_of_ble_eq_true rfl⟩) ⟨fun a U g mk q => by obtain ⟨q0, q1, qP, qK, qD⟩ := q; exact ⟨q0, q1, qP, va_K.moved (u := U) (U := U.calling g mk a) (Vm.Alike.refl U.vm) qK, qD⟩, va_recv hK hP (ci := 1) (q0 := 0) rfl rfl, fun U hU hW => ⟨rfl, by rw [hU], by rw [hU]; exact hP, va_K.moved hW.alike hK, hD.weaken (fun _ _ _ _ => trivial)⟩⟩ rfl rfl hl.1 rfl (lv_room (Nat.le_of_ble_eq_true rfl)) dX1_about_24 ⟨Nat.le_of_ble_eq_true rfl, Nat.le_of_ble_eq_true rfl⟩) hS (fun q _ h => hFc q h) hFc (fun r_2 u t H1 locs ht hvm hw hB hz1 hk1 hS => ?_)
    rw [fX1_fail] at hw
    cases hw
    obtain ⟨hP1, hK1, hD1⟩ := hB
    rw [ht] at hP1
    obtain ⟨hP, hD⟩ := va_join (wr := []) (w1 := (mW mh0 mh1 mh2 mh3 mc1 mc2 mc3 mk1 mk2 mk3 1 mf1 mf2 mf3 mf4 mf5 mf6 mf7 mf8 mf9)) hP hD [0, 1, 2, 3] [] rfl rfl (by decide) (by decide) hk1 hFc hP1 hD1
    generalize H1 = H at hP hS ⊢
    have hP : va_P (dC, dI) vwCl (mW mh0 mh1 mh2 mh3 mc1 mc2 mc3 mk1 mk2 mk3 1 mf1 mf2 mf3 mf4 mf5 mf6 mf7 mf8 mf9) H := hP
    have hD : va_D A (mW mh0 mh1 mh2 mh3 mc1 mc2 mc3 mk1 mk2 mk3 1 mf1 mf2 mf3 mf4 mf5 mf6 mf7 mf8 mf9) := hD
    exact W.iret (v := 0) hx hb hr (fun t ht hW => ⟨⟨0, (mk1, mk2, mk3, 1, mf1, mf2, mf3, mf4, mf5, mf6, mf7, mf8, mf9), rfl, (by rw [fX1_about, if_pos c_1]), by rw [ht]; exact hP, va_K.moved hW.alike hK, hD⟩, hS.F ht⟩) hS.2.2 dX1_about_27
  · refine lv_iload_n hx hb dX1_about_13 rfl (lv_at hl 2 rfl) ?_
    refine lv_if_lt (tgt := 22) hx hb dX1_about_14 (by decide) (fun c_2 => ?_) (fun c_2 => ?_)
    · refine lv_aload_n hx hb dX1_about_22 rfl (lv_at hl 0 rfl) ?_
      refine lv_iconst (v := 1) hx hb dX1_about_23 (by decide) ?_
      have hFc := va_free (wc := (mW mh0 mh1 mh2 mh3 mc1 mc2 mc3 mk1 mk2 mk3 0 mf1 mf2 mf3 mf4 mf5 mf6 mf7 mf8 mf9)) hD hS hA [0, 1, 2, 3] rfl
      refine va_calli (va_runV (As := [.int 1]) (rest := []) ⟨hx, hb, hml, hown, htG⟩ (mX1_fail l dC dI mh0 mh1 mh2 mh3 H.size mc1 mc2 mc3 mk1 mk2 mk3 0 mf1 mf2 mf3 mf4 mf5 mf6 mf7 mf8 mf9 1) (cwV 1 htG (wG_V wd_387 wd_389 wd_11 wd_23 wd_390) rfl rfl rfl (by decide +kernel) ⟨Nat.le_of_ble_eq_true rfl, Nat.le_of_ble_eq_true rfl⟩) ⟨fun a U g mk q => by obtain ⟨q0, q1, qP, qK, qD⟩ := q; exact ⟨q0, q1, qP, va_K.moved (u := U) (U := U.calling g mk a) (Vm.Alike.refl U.vm) qK, qD⟩, va_recv hK hP (ci := 1) (q0 := 0) rfl rfl, fun U hU hW => ⟨rfl, by rw [hU], by rw [hU]; exact hP, va_K.moved hW.alike hK, hD.weaken (fun _ _ _ _ => trivial)⟩⟩ rfl rfl hl.1 rfl (lv_room (Nat.le_of_ble_eq_true rfl)) dX1_about_24 ⟨Nat.le_of_ble_eq_true rfl, Nat.le_of_ble_eq_true rfl⟩) hS (fun q _ h => hFc q h) hFc (fun r_3 u t H1 locs ht hvm hw hB hz1 hk1 hS => ?_)
      rw [fX1_fail] at hw
      cases hw
      obtain ⟨hP1, hK1, hD1⟩ := hB
      rw [ht] at hP1
      obtain ⟨hP, hD⟩ := va_join (wr := []) (w1 := (mW mh0 mh1 mh2 mh3 mc1 mc2 mc3 mk1 mk2 mk3 1 mf1 mf2 mf3 mf4 mf5 mf6 mf7 mf8 mf9)) hP hD [0, 1, 2, 3] [] rfl rfl (by decide) (by decide) hk1 hFc hP1 hD1
      generalize H1 = H at hP hS ⊢
      have hP : va_P (dC, dI) vwCl (mW mh0 mh1 mh2 mh3 mc1 mc2 mc3 mk1 mk2 mk3 1 mf1 mf2 mf3 mf4 mf5 mf6 mf7 mf8 mf9) H := hP
      have hD : va_D A (mW mh0 mh1 mh2 mh3 mc1 mc2 mc3 mk1 mk2 mk3 1 mf1 mf2 mf3 mf4 mf5 mf6 mf7 mf8 mf9) := hD
      exact W.iret (v := 0) hx hb hr (fun t ht hW => ⟨⟨0, (mk1, mk2, mk3, 1, mf1, mf2, mf3, mf4, mf5, mf6, mf7, mf8, mf9), rfl, (by rw [fX1_about, if_neg c_1, if_pos c_2]), by rw [ht]; exact hP, va_K.moved hW.alike hK, hD⟩, hS.F ht⟩) hS.2.2 dX1_about_27
    · refine lv_iload_n hx hb dX1_about_17 rfl (lv_at hl 2 rfl) ?_
      refine lv_iconst (v := 2) hx hb dX1_about_18 (by decide) ?_
      refine lv_icmp_le (tgt := 28) hx hb dX1_about_19 (by decide) (fun c_3 => ?_) (fun c_3 => ?_)
      · refine lv_iload_n hx hb dX1_about_28 rfl (lv_at hl 1 rfl) ?_
        refine lv_iconst (v := (-1)) hx hb dX1_about_29 (by decide) ?_
        refine lv_icmp_ne (tgt := 52) hx hb dX1_about_30 (by decide) (fun c_4 => ?_) (fun c_4 => ?_)
        · refine lv_iload_n hx hb dX1_about_52 rfl (lv_at hl 2 rfl) ?_
          refine lv_if_ne (tgt := 64) hx hb dX1_about_53 (by decide) (fun c_5 => ?_) (fun c_5 => ?_)
          · refine lv_iload_n hx hb dX1_about_64 rfl (lv_at hl 2 rfl) ?_
            refine lv_iconst (v := 1) hx hb dX1_about_65 (by decide) ?_
            refine lv_icmp_ne (tgt := 77) hx hb dX1_about_66 (by decide) (fun c_6 => ?_) (fun c_6 => ?_)
            · refine lv_aload_n hx hb dX1_about_77 rfl (lv_at hl 0 rfl) ?_
              refine lv_iload_n hx hb dX1_about_78 rfl (lv_at hl 1 rfl) ?_
              refine vp_callSi (va_runV (As := [.int p0]) (rest := []) ⟨hx, hb, hml, hown, htG⟩ (mX1_words l dC dI mh0 mh1 mh2 mh3 mc1 mc2 mc3 mk1 mk2 mk3 0 mf1 mf2 mf3 mf4 mf5 mf6 mf7 mf8 mf9 p0 (isThere_in hN c_1)) (cwV 1 htG (wG_V wd_415 wd_417 wd_16 wd_23 wd_418) rfl rfl rfl (by decide +kernel) ⟨Nat.le_of_ble_eq_true rfl, Nat.le_of_ble_eq_true rfl⟩) ⟨fun a U g mk q => by obtain ⟨q0, qP, qK⟩ := q; exact ⟨q0, qP, va_K.moved (u := U) (U := U.calling g mk a) (Vm.Alike.refl U.vm) qK⟩, va_recv hK hP (ci := 1) (q0 := 0) rfl rfl, fun U hU hW => ⟨rfl, by rw [hU]; exact hP, va_K.moved hW.alike hK⟩⟩ rfl rfl hl.1 rfl (lv_room (Nat.le_of_ble_eq_true rfl)) dX1_about_79 ⟨Nat.le_of_ble_eq_true rfl, Nat.le_of_ble_eq_true rfl⟩).run (fun r_4 er_4 => ?_)
              subst er_4
              exact W.iret (v := (fX1_words mk1 mk2 p0)) hx hb hr (fun t ht hW => ⟨⟨(fX1_words mk1 mk2 p0), (mk1, mk2, mk3, 0, mf1, mf2, mf3, mf4, mf5, mf6, mf7, mf8, mf9), rfl, (by rw [fX1_about, if_neg c_1, if_neg c_2, if_pos c_3, if_neg c_4, if_neg c_5, if_neg c_6]), by rw [ht]; exact hP, va_K.moved hW.alike hK, hD⟩, hS.F ht⟩) hS.2.2 dX1_about_82
            · refine lv_aload_n hx hb dX1_about_69 rfl (lv_at hl 0 rfl) ?_
              refine lv_iload_n hx hb dX1_about_70 rfl (lv_at hl 1 rfl) ?_
              refine vp_callSi (va_runV (As := [.int p0]) (rest := []) ⟨hx, hb, hml, hown, htG⟩ (mX1_bytes l dC dI mh0 mh1 mh2 mh3 mc1 mc2 mc3 mk1 mk2 mk3 0 mf1 mf2 mf3 mf4 mf5 mf6 mf7 mf8 mf9 p0 (isThere_in hN c_1 c_4)) (cwV 1 htG (wG_V wd_402 wd_404 wd_14 wd_23 wd_405) rfl rfl rfl (by decide +kernel) ⟨Nat.le_of_ble_eq_true rfl, Nat.le_of_ble_eq_true rfl⟩) ⟨fun a U g mk q => by obtain ⟨q0, qP, qK⟩ := q; exact ⟨q0, qP, va_K.moved (u := U) (U := U.calling g mk a) (Vm.Alike.refl U.vm) qK⟩, va_recv hK hP (ci := 1) (q0 := 0) rfl rfl, fun U hU hW => ⟨rfl, by rw [hU]; exact hP, va_K.moved hW.alike hK⟩⟩ rfl rfl hl.1 rfl (lv_room (Nat.le_of_ble_eq_true rfl)) dX1_about_71 ⟨Nat.le_of_ble_eq_true rfl, Nat.le_of_ble_eq_true rfl⟩).run (fun r_5 er_5 => ?_)
              subst er_5
              refine lv_goto (tgt := 82) hx hb dX1_about_74 (by decide) ?_
              exact W.iret (v := (fX1_bytes mk1 mk2 p0)) hx hb hr (fun t ht hW => ⟨⟨(fX1_bytes mk1 mk2 p0), (mk1, mk2, mk3, 0, mf1, mf2, mf3, mf4, mf5, mf6, mf7, mf8, mf9), rfl, (by rw [fX1_about, if_neg c_1, if_neg c_2, if_pos c_3, if_neg c_4, if_neg c_5, if_pos c_6]), by rw [ht]; exact hP, va_K.moved hW.alike hK, hD⟩, hS.F ht⟩) hS.2.2 dX1_about_82
          · refine lv_aload_n hx hb dX1_about_56 rfl (lv_at hl 0 rfl) ?_
            refine lv_iload_n hx hb dX1_about_57 rfl (lv_at hl 1 rfl) ?_
            refine vp_callSi (va_runV (As := [.int p0]) (rest := []) ⟨hx, hb, hml, hown, htG⟩ (mX1_home l dC dI mh0 mh1 mh2 mh3 mc1 mc2 mc3 mk1 mk2 mk3 0 mf1 mf2 mf3 mf4 mf5 mf6 mf7 mf8 mf9 p0 (in_le (isThere_in hN c_1 c_4)) (fun _ => (isThere_in hN c_1 c_4))) (cwV 1 htG (wG_V wd_391 wd_393 wd_12 wd_23 wd_394) rfl rfl rfl (by decide +kernel) ⟨Nat.le_of_ble_eq_true rfl, Nat.le_of_ble_eq_true rfl⟩) ⟨fun a U g mk q => by obtain ⟨q0, qP, qK⟩ := q; exact ⟨q0, qP, va_K.moved (u := U) (U := U.calling g mk a) (Vm.Alike.refl U.vm) qK⟩, va_recv hK hP (ci := 1) (q0 := 0) rfl rfl, fun U hU hW => ⟨rfl, by rw [hU]; exact hP, va_K.moved hW.alike hK⟩⟩ rfl rfl hl.1 rfl (lv_room (Nat.le_of_ble_eq_true rfl)) dX1_about_58 ⟨Nat.le_of_ble_eq_true rfl, Nat.le_of_ble_eq_true rfl⟩).run (fun r_6 er_6 => ?_)
            subst er_6
            refine lv_goto (tgt := 82) hx hb dX1_about_61 (by decide) ?_
            exact W.iret (v := (fX1_home mk1 mk2 mk3 mf1 mf2 p0)) hx hb hr (fun t ht hW => ⟨⟨(fX1_home mk1 mk2 mk3 mf1 mf2 p0), (mk1, mk2, mk3, 0, mf1, mf2, mf3, mf4, mf5, mf6, mf7, mf8, mf9), rfl, (by rw [fX1_about, if_neg c_1, if_neg c_2, if_pos c_3, if_neg c_4, if_pos c_5]), by rw [ht]; exact hP, va_K.moved hW.alike hK, hD⟩, hS.F ht⟩) hS.2.2 dX1_about_82
        · refine lv_iload_n hx hb dX1_about_33 rfl (lv_at hl 2 rfl) ?_
          refine lv_if_ne (tgt := 41) hx hb dX1_about_34 (by decide) (fun c_7 => ?_) (fun c_7 => ?_)
          · refine lv_iload_n hx hb dX1_about_41 rfl (lv_at hl 2 rfl) ?_
            refine lv_iconst (v := 1) hx hb dX1_about_42 (by decide) ?_
            refine lv_icmp_ne (tgt := 50) hx hb dX1_about_43 (by decide) (fun c_8 => ?_) (fun c_8 => ?_)
            · refine lv_iconst (v := 1) hx hb dX1_about_50 (by decide) ?_
              exact W.iret (v := 1) hx hb hr (fun t ht hW => ⟨⟨1, (mk1, mk2, mk3, 0, mf1, mf2, mf3, mf4, mf5, mf6, mf7, mf8, mf9), rfl, (by rw [fX1_about, if_neg c_1, if_neg c_2, if_pos c_3, if_pos c_4, if_neg c_7, if_neg c_8]), by rw [ht]; exact hP, va_K.moved hW.alike hK, hD⟩, hS.F ht⟩) hS.2.2 dX1_about_51
            · refine lv_iconst (v := 4) hx hb dX1_about_46 (by decide) ?_
              refine lv_goto (tgt := 51) hx hb dX1_about_47 (by decide) ?_
              exact W.iret (v := 4) hx hb hr (fun t ht hW => ⟨⟨4, (mk1, mk2, mk3, 0, mf1, mf2, mf3, mf4, mf5, mf6, mf7, mf8, mf9), rfl, (by rw [fX1_about, if_neg c_1, if_neg c_2, if_pos c_3, if_pos c_4, if_neg c_7, if_pos c_8]), by rw [ht]; exact hP, va_K.moved hW.alike hK, hD⟩, hS.F ht⟩) hS.2.2 dX1_about_51
          · refine lv_iconst (v := 0) hx hb dX1_about_37 (by decide) ?_
            refine lv_goto (tgt := 51) hx hb dX1_about_38 (by decide) ?_
            exact W.iret (v := 0) hx hb hr (fun t ht hW => ⟨⟨0, (mk1, mk2, mk3, 0, mf1, mf2, mf3, mf4, mf5, mf6, mf7, mf8, mf9), rfl, (by rw [fX1_about, if_neg c_1, if_neg c_2, if_pos c_3, if_pos c_4, if_pos c_7]), by rw [ht]; exact hP, va_K.moved hW.alike hK, hD⟩, hS.F ht⟩) hS.2.2 dX1_about_51
      · refine lv_aload_n hx hb dX1_about_22 rfl (lv_at hl 0 rfl) ?_
        refine lv_iconst (v := 1) hx hb dX1_about_23 (by decide) ?_
        have hFc := va_free (wc := (mW mh0 mh1 mh2 mh3 mc1 mc2 mc3 mk1 mk2 mk3 0 mf1 mf2 mf3 mf4 mf5 mf6 mf7 mf8 mf9)) hD hS hA [0, 1, 2, 3] rfl
        refine va_calli (va_runV (As := [.int 1]) (rest := []) ⟨hx, hb, hml, hown, htG⟩ (mX1_fail l dC dI mh0 mh1 mh2 mh3 H.size mc1 mc2 mc3 mk1 mk2 mk3 0 mf1 mf2 mf3 mf4 mf5 mf6 mf7 mf8 mf9 1) (cwV 1 htG (wG_V wd_387 wd_389 wd_11 wd_23 wd_390) rfl rfl rfl (by decide +kernel) ⟨Nat.le_of_ble_eq_true rfl, Nat.le_of_ble_eq_true rfl⟩) ⟨fun a U g mk q => by obtain ⟨q0, q1, qP, qK, qD⟩ := q; exact ⟨q0, q1, qP, va_K.moved (u := U) (U := U.calling g mk a) (Vm.Alike.refl U.vm) qK, qD⟩, va_recv hK hP (ci := 1) (q0 := 0) rfl rfl, fun U hU hW => ⟨rfl, by rw [hU], by rw [hU]; exact hP, va_K.moved hW.alike hK, hD.weaken (fun _ _ _ _ => trivial)⟩⟩ rfl rfl hl.1 rfl (lv_room (Nat.le_of_ble_eq_true rfl)) dX1_about_24 ⟨Nat.le_of_ble_eq_true rfl, Nat.le_of_ble_eq_true rfl⟩) hS (fun q _ h => hFc q h) hFc (fun r_7 u t H1 locs ht hvm hw hB hz1 hk1 hS => ?_)
        rw [fX1_fail] at hw
        cases hw
        obtain ⟨hP1, hK1, hD1⟩ := hB
        rw [ht] at hP1
        obtain ⟨hP, hD⟩ := va_join (wr := []) (w1 := (mW mh0 mh1 mh2 mh3 mc1 mc2 mc3 mk1 mk2 mk3 1 mf1 mf2 mf3 mf4 mf5 mf6 mf7 mf8 mf9)) hP hD [0, 1, 2, 3] [] rfl rfl (by decide) (by decide) hk1 hFc hP1 hD1
        generalize H1 = H at hP hS ⊢
        have hP : va_P (dC, dI) vwCl (mW mh0 mh1 mh2 mh3 mc1 mc2 mc3 mk1 mk2 mk3 1 mf1 mf2 mf3 mf4 mf5 mf6 mf7 mf8 mf9) H := hP
        have hD : va_D A (mW mh0 mh1 mh2 mh3 mc1 mc2 mc3 mk1 mk2 mk3 1 mf1 mf2 mf3 mf4 mf5 mf6 mf7 mf8 mf9) := hD
        exact W.iret (v := 0) hx hb hr (fun t ht hW => ⟨⟨0, (mk1, mk2, mk3, 1, mf1, mf2, mf3, mf4, mf5, mf6, mf7, mf8, mf9), rfl, (by rw [fX1_about, if_neg c_1, if_neg c_2, if_neg c_3]), by rw [ht]; exact hP, va_K.moved hW.alike hK, hD⟩, hS.F ht⟩) hS.2.2 dX1_about_27
end
section
def fX1_where (mk1 mk2 mk3 : Nat → Int32) (mf0 mf1 mf2 mf3 mf4 mf5 mf6 mf7 mf8 mf9 : Int32) (p0 p1 : Int32) : Int32 × Int32 × mWS :=
  if (fX1_isThere mf1 mf2 p0) = 0 then (0, 0, (mk1, mk2, mk3, 1, mf1, mf2, mf3, mf4, mf5, mf6, mf7, mf8, mf9))
  else if p1 < 0 then (0, 0, (mk1, mk2, mk3, 1, mf1, mf2, mf3, mf4, mf5, mf6, mf7, mf8, mf9))
    else if p1 < (fX1_words mk1 mk2 p0) then (if p0 = (-1) then (0, 4, (mk1, mk2, mk3, 0, mf1, mf2, mf3, mf4, mf5, mf6, mf7, mf8, mf9))
        else if mf9 = 0 then (if mf1 = 3 then (if 4 ≤ (((fX1_home mk1 mk2 mk3 mf1 mf2 p0) / 4) + p1) then (0, (-1), (mk1, mk2, mk3, 0, mf1, mf2, mf3, mf4, mf5, mf6, mf7, mf8, mf9))
              else (0, (4 + (((fX1_home mk1 mk2 mk3 mf1 mf2 p0) / 4) + p1)), (mk1, mk2, mk3, 0, mf1, mf2, mf3, mf4, mf5, mf6, mf7, mf8, mf9)))
            else if 2 ≤ p0 then (if 4 ≤ (((fX1_home mk1 mk2 mk3 mf1 mf2 p0) / 4) + p1) then (0, (-1), (mk1, mk2, mk3, 0, mf1, mf2, mf3, mf4, mf5, mf6, mf7, mf8, mf9))
                else (0, (4 + (((fX1_home mk1 mk2 mk3 mf1 mf2 p0) / 4) + p1)), (mk1, mk2, mk3, 0, mf1, mf2, mf3, mf4, mf5, mf6, mf7, mf8, mf9)))
              else if (fX1_isFraction mk1 0) = 0 then (if 4 ≤ (((fX1_home mk1 mk2 mk3 mf1 mf2 p0) / 4) + p1) then (0, (-1), (mk1, mk2, mk3, 0, mf1, mf2, mf3, mf4, mf5, mf6, mf7, mf8, mf9))
                  else (0, (4 + (((fX1_home mk1 mk2 mk3 mf1 mf2 p0) / 4) + p1)), (mk1, mk2, mk3, 0, mf1, mf2, mf3, mf4, mf5, mf6, mf7, mf8, mf9)))
                else if (fX1_isFraction mk1 p0) = 0 then (if 4 ≤ (((fX1_home mk1 mk2 mk3 mf1 mf2 p0) / 4) + p1) then (0, (-1), (mk1, mk2, mk3, 0, mf1, mf2, mf3, mf4, mf5, mf6, mf7, mf8, mf9))
                    else (0, (4 + (((fX1_home mk1 mk2 mk3 mf1 mf2 p0) / 4) + p1)), (mk1, mk2, mk3, 0, mf1, mf2, mf3, mf4, mf5, mf6, mf7, mf8, mf9)))
                  else if (mk1 (p0 : Int32).toNatClampNeg) = 2 then (if p1 = 0 then (0, ((44 + (2 * p0)) + 1), (mk1, mk2, mk3, 0, mf1, mf2, mf3, mf4, mf5, mf6, mf7, mf8, mf9))
                      else (0, (44 + (2 * p0)), (mk1, mk2, mk3, 0, mf1, mf2, mf3, mf4, mf5, mf6, mf7, mf8, mf9)))
                    else (0, (44 + (2 * p0)), (mk1, mk2, mk3, 0, mf1, mf2, mf3, mf4, mf5, mf6, mf7, mf8, mf9)))
          else if 4 ≤ (((fX1_home mk1 mk2 mk3 mf1 mf2 p0) / 4) + p1) then (0, (-1), (mk1, mk2, mk3, 0, mf1, mf2, mf3, mf4, mf5, mf6, mf7, mf8, mf9))
            else (0, (4 + (((fX1_home mk1 mk2 mk3 mf1 mf2 p0) / 4) + p1)), (mk1, mk2, mk3, 0, mf1, mf2, mf3, mf4, mf5, mf6, mf7, mf8, mf9)))
      else (0, 0, (mk1, mk2, mk3, 1, mf1, mf2, mf3, mf4, mf5, mf6, mf7, mf8, mf9))

abbrev wsX1_where : List Cond := .code yX1_where cX1_where 5 (some .int) :: wG
set_option maxHeartbeats 4000000 in
set_option maxRecDepth 100000 in
theorem mX1_where (l : Launch) (dC : Nat → ClassId) (dI : Nat → Nat → Nat) (mh0 mh1 mh2 mh3 : Nat) (sz : Nat) (mc1 mc2 mc3 : ClassId) (mk1 mk2 mk3 : Nat → Int32) (mf0 mf1 mf2 mf3 mf4 mf5 mf6 mf7 mf8 mf9 : Int32) (p0 p1 : Int32) (hN : mf2.toNatClampNeg ≤ 60) : Met l yX1_where wsX1_where ({ frames := 2, cells := 0, slots := 0, locals := 44 }) (va_Pc [.ref mh0, .int p0, .int p1] (fun U => U.heap.size = sz ∧ va_P (dC, dI) vwCl (mW mh0 mh1 mh2 mh3 mc1 mc2 mc3 mk1 mk2 mk3 mf0 mf1 mf2 mf3 mf4 mf5 mf6 mf7 mf8 mf9) U.heap ∧ va_K (dC, dI) vwCl [(mc1, .int), (mc2, .int), (mc3, .int)] U ∧ va_D (fun _ => True) (mW mh0 mh1 mh2 mh3 mc1 mc2 mc3 mk1 mk2 mk3 mf0 mf1 mf2 mf3 mf4 mf5 mf6 mf7 mf8 mf9))) (va_Qi (fun r u => (0, r, u) = fX1_where mk1 mk2 mk3 mf0 mf1 mf2 mf3 mf4 mf5 mf6 mf7 mf8 mf9 p0 p1) (mWB dC dI (va_A (mW mh0 mh1 mh2 mh3 mc1 mc2 mc3 mk1 mk2 mk3 mf0 mf1 mf2 mf3 mf4 mf5 mf6 mf7 mf8 mf9) sz) mh0 mh1 mh2 mh3 mc1 mc2 mc3) (va_A (mW mh0 mh1 mh2 mh3 mc1 mc2 mc3 mk1 mk2 mk3 mf0 mf1 mf2 mf3 mf4 mf5 mf6 mf7 mf8 mf9) sz)) 0 0 (va_A (mW mh0 mh1 mh2 mh3 mc1 mc2 mc3 mk1 mk2 mk3 mf0 mf1 mf2 mf3 mf4 mf5 mf6 mf7 mf8 mf9) sz) := by
  refine Met.ofW (cc := cX1_where) (maxL := 5) (ret := (some .int)) (by decide) rfl ?_
  intro p e s m args below meth c s₁ B hml hv
  obtain ⟨rfl, hsz, hP, hK, hD0⟩ := hv
  have hx := B.exec
  have hb := B.bytes
  have hr := B.returns
  have hts := atoms_spec (ws := wsX1_where) B.pre
  have htG := fun (w : Cond) (h : w ∈ wG) => hts w (List.mem_cons_of_mem _ h)
  have hown : s.vm.findClass RX1 = some m.cls := findClass_of_methodNamed B.named
  have hlocks := B.notSynchronized
  subst hsz
  have hD := hD0.self (sz := s.heap.size)
  generalize hAe : va_A (mW mh0 mh1 mh2 mh3 mc1 mc2 mc3 mk1 mk2 mk3 mf0 mf1 mf2 mf3 mf4 mf5 mf6 mf7 mf8 mf9) s.heap.size = A at hD ⊢
  have hA : ∀ q : Nat, s.heap.size ≤ q → A q := fun q h => by rw [← hAe]; exact Or.inr h
  have hS : va_S A s.heap s.heap [] := va_S.rf
  have hP : va_P (dC, dI) vwCl (mW mh0 mh1 mh2 mh3 mc1 mc2 mc3 mk1 mk2 mk3 mf0 mf1 mf2 mf3 mf4 mf5 mf6 mf7 mf8 mf9) s.heap := hP
  have hl := lv_entry ([.ref mh0, .int p0, .int p1]) (n := 5) (Nat.le_of_ble_eq_true rfl)
  rw [lg_entry_eq]
  generalize (lg_sl ([.ref mh0, .int p0, .int p1]) ++ List.replicate (5 - (lg_sl ([.ref mh0, .int p0, .int p1])).length) Slot.unset).toArray = ls at hl ⊢
  have hl : lv_has ls 5 [(0, .ref mh0), (1, .int p0), (2, .int p1)] := hl
  refine lv_aload_n hx hb dX1_where_0 rfl (lv_at hl 0 rfl) ?_
  refine lv_iconst (v := 0) hx hb dX1_where_1 (by decide) ?_
  refine va_put (D := (dC, dI)) (ci := 1) (v := .int 0) (ty := .int) (C := RX1) (T := TX1) (N := 13) hx hb htG inX1 tyX1 tyX1_ok nmX1 hown hK hP hD hS 0 rfl rfl 0 (by decide) (htG _ wd_331) (fun _ h9 => h9) rfl (by decide +kernel) rfl rfl (Nat.le_of_ble_eq_true rfl) dX1_where_2 (fun H locs hP hD hS => ?_)
  have hP : va_P (dC, dI) vwCl (mW mh0 mh1 mh2 mh3 mc1 mc2 mc3 mk1 mk2 mk3 0 mf1 mf2 mf3 mf4 mf5 mf6 mf7 mf8 mf9) H := hP
  have hD : va_D A (mW mh0 mh1 mh2 mh3 mc1 mc2 mc3 mk1 mk2 mk3 0 mf1 mf2 mf3 mf4 mf5 mf6 mf7 mf8 mf9) := hD
  refine lv_aload_n hx hb dX1_where_5 rfl (lv_at hl 0 rfl) ?_
  refine lv_iload_n hx hb dX1_where_6 rfl (lv_at hl 1 rfl) ?_
  refine vp_callSi (va_runV (As := [.int p0]) (rest := []) ⟨hx, hb, hml, hown, htG⟩ (mX1_isThere l dC dI mh0 mh1 mh2 mh3 mc1 mc2 mc3 mk1 mk2 mk3 0 mf1 mf2 mf3 mf4 mf5 mf6 mf7 mf8 mf9 p0) (cwV 1 htG (wG_V wd_411 wd_413 wd_15 wd_23 wd_414) rfl rfl rfl (by decide +kernel) ⟨Nat.le_of_ble_eq_true rfl, Nat.le_of_ble_eq_true rfl⟩) ⟨fun a U g mk q => by obtain ⟨q0, qP, qK⟩ := q; exact ⟨q0, qP, va_K.moved (u := U) (U := U.calling g mk a) (Vm.Alike.refl U.vm) qK⟩, va_recv hK hP (ci := 1) (q0 := 0) rfl rfl, fun U hU hW => ⟨rfl, by rw [hU]; exact hP, va_K.moved hW.alike hK⟩⟩ rfl rfl hl.1 rfl (lv_room (Nat.le_of_ble_eq_true rfl)) dX1_where_7 ⟨Nat.le_of_ble_eq_true rfl, Nat.le_of_ble_eq_true rfl⟩).run (fun r_1 er_1 => ?_)
  subst er_1
  refine lv_if_eq (tgt := 26) hx hb dX1_where_10 (by decide) (fun c_1 => ?_) (fun c_1 => ?_)
  · refine lv_aload_n hx hb dX1_where_26 rfl (lv_at hl 0 rfl) ?_
    refine lv_iconst (v := 1) hx hb dX1_where_27 (by decide) ?_
    have hFc := va_free (wc := (mW mh0 mh1 mh2 mh3 mc1 mc2 mc3 mk1 mk2 mk3 0 mf1 mf2 mf3 mf4 mf5 mf6 mf7 mf8 mf9)) hD hS hA [0, 1, 2, 3] rfl
    refine va_calli (va_runV (As := [.int 1]) (rest := []) ⟨hx, hb, hml, hown, htG⟩ (mX1_fail l dC dI mh0 mh1 mh2 mh3 H.size mc1 mc2 mc3 mk1 mk2 mk3 0 mf1 mf2 mf3 mf4 mf5 mf6 mf7 mf8 mf9 1) (cwV 1 htG (wG_V wd_387 wd_389 wd_11 wd_23 wd_390) rfl rfl rfl (by decide +kernel) ⟨Nat.le_of_ble_eq_true rfl, Nat.le_of_ble_eq_true rfl⟩) ⟨fun a U g mk q => by obtain ⟨q0, q1, qP, qK, qD⟩ := q; exact ⟨q0, q1, qP, va_K.moved (u := U) (U := U.calling g mk a) (Vm.Alike.refl U.vm) qK, qD⟩, va_recv hK hP (ci := 1) (q0 := 0) rfl rfl, fun U hU hW => ⟨rfl, by rw [hU], by rw [hU]; exact hP, va_K.moved hW.alike hK, hD.weaken (fun _ _ _ _ => trivial)⟩⟩ rfl rfl hl.1 rfl (lv_room (Nat.le_of_ble_eq_true rfl)) dX1_where_28 ⟨Nat.le_of_ble_eq_true rfl, Nat.le_of_ble_eq_true rfl⟩) hS (fun q _ h => hFc q h) hFc (fun r_2 u t H1 locs ht hvm hw hB hz1 hk1 hS => ?_)
    rw [fX1_fail] at hw
    cases hw
    obtain ⟨hP1, hK1, hD1⟩ := hB
    rw [ht] at hP1
    obtain ⟨hP, hD⟩ := va_join (wr := []) (w1 := (mW mh0 mh1 mh2 mh3 mc1 mc2 mc3 mk1 mk2 mk3 1 mf1 mf2 mf3 mf4 mf5 mf6 mf7 mf8 mf9)) hP hD [0, 1, 2, 3] [] rfl rfl (by decide) (by decide) hk1 hFc hP1 hD1
    generalize H1 = H at hP hS ⊢
    have hP : va_P (dC, dI) vwCl (mW mh0 mh1 mh2 mh3 mc1 mc2 mc3 mk1 mk2 mk3 1 mf1 mf2 mf3 mf4 mf5 mf6 mf7 mf8 mf9) H := hP
    have hD : va_D A (mW mh0 mh1 mh2 mh3 mc1 mc2 mc3 mk1 mk2 mk3 1 mf1 mf2 mf3 mf4 mf5 mf6 mf7 mf8 mf9) := hD
    exact W.iret (v := 0) hx hb hr (fun t ht hW => ⟨⟨0, (mk1, mk2, mk3, 1, mf1, mf2, mf3, mf4, mf5, mf6, mf7, mf8, mf9), rfl, (by rw [fX1_where, if_pos c_1]), by rw [ht]; exact hP, va_K.moved hW.alike hK, hD⟩, hS.F ht⟩) hS.2.2 dX1_where_31
  · refine lv_iload_n hx hb dX1_where_13 rfl (lv_at hl 2 rfl) ?_
    refine lv_if_lt (tgt := 26) hx hb dX1_where_14 (by decide) (fun c_2 => ?_) (fun c_2 => ?_)
    · refine lv_aload_n hx hb dX1_where_26 rfl (lv_at hl 0 rfl) ?_
      refine lv_iconst (v := 1) hx hb dX1_where_27 (by decide) ?_
      have hFc := va_free (wc := (mW mh0 mh1 mh2 mh3 mc1 mc2 mc3 mk1 mk2 mk3 0 mf1 mf2 mf3 mf4 mf5 mf6 mf7 mf8 mf9)) hD hS hA [0, 1, 2, 3] rfl
      refine va_calli (va_runV (As := [.int 1]) (rest := []) ⟨hx, hb, hml, hown, htG⟩ (mX1_fail l dC dI mh0 mh1 mh2 mh3 H.size mc1 mc2 mc3 mk1 mk2 mk3 0 mf1 mf2 mf3 mf4 mf5 mf6 mf7 mf8 mf9 1) (cwV 1 htG (wG_V wd_387 wd_389 wd_11 wd_23 wd_390) rfl rfl rfl (by decide +kernel) ⟨Nat.le_of_ble_eq_true rfl, Nat.le_of_ble_eq_true rfl⟩) ⟨fun a U g mk q => by obtain ⟨q0, q1, qP, qK, qD⟩ := q; exact ⟨q0, q1, qP, va_K.moved (u := U) (U := U.calling g mk a) (Vm.Alike.refl U.vm) qK, qD⟩, va_recv hK hP (ci := 1) (q0 := 0) rfl rfl, fun U hU hW => ⟨rfl, by rw [hU], by rw [hU]; exact hP, va_K.moved hW.alike hK, hD.weaken (fun _ _ _ _ => trivial)⟩⟩ rfl rfl hl.1 rfl (lv_room (Nat.le_of_ble_eq_true rfl)) dX1_where_28 ⟨Nat.le_of_ble_eq_true rfl, Nat.le_of_ble_eq_true rfl⟩) hS (fun q _ h => hFc q h) hFc (fun r_3 u t H1 locs ht hvm hw hB hz1 hk1 hS => ?_)
      rw [fX1_fail] at hw
      cases hw
      obtain ⟨hP1, hK1, hD1⟩ := hB
      rw [ht] at hP1
      obtain ⟨hP, hD⟩ := va_join (wr := []) (w1 := (mW mh0 mh1 mh2 mh3 mc1 mc2 mc3 mk1 mk2 mk3 1 mf1 mf2 mf3 mf4 mf5 mf6 mf7 mf8 mf9)) hP hD [0, 1, 2, 3] [] rfl rfl (by decide) (by decide) hk1 hFc hP1 hD1
      generalize H1 = H at hP hS ⊢
      have hP : va_P (dC, dI) vwCl (mW mh0 mh1 mh2 mh3 mc1 mc2 mc3 mk1 mk2 mk3 1 mf1 mf2 mf3 mf4 mf5 mf6 mf7 mf8 mf9) H := hP
      have hD : va_D A (mW mh0 mh1 mh2 mh3 mc1 mc2 mc3 mk1 mk2 mk3 1 mf1 mf2 mf3 mf4 mf5 mf6 mf7 mf8 mf9) := hD
      exact W.iret (v := 0) hx hb hr (fun t ht hW => ⟨⟨0, (mk1, mk2, mk3, 1, mf1, mf2, mf3, mf4, mf5, mf6, mf7, mf8, mf9), rfl, (by rw [fX1_where, if_neg c_1, if_pos c_2]), by rw [ht]; exact hP, va_K.moved hW.alike hK, hD⟩, hS.F ht⟩) hS.2.2 dX1_where_31
    · refine lv_iload_n hx hb dX1_where_17 rfl (lv_at hl 2 rfl) ?_
      refine lv_aload_n hx hb dX1_where_18 rfl (lv_at hl 0 rfl) ?_
      refine lv_iload_n hx hb dX1_where_19 rfl (lv_at hl 1 rfl) ?_
      refine vp_callSi (va_runV (As := [.int p0]) (rest := [.int p1]) ⟨hx, hb, hml, hown, htG⟩ (mX1_words l dC dI mh0 mh1 mh2 mh3 mc1 mc2 mc3 mk1 mk2 mk3 0 mf1 mf2 mf3 mf4 mf5 mf6 mf7 mf8 mf9 p0 (isThere_in hN c_1)) (cwV 1 htG (wG_V wd_415 wd_417 wd_16 wd_23 wd_418) rfl rfl rfl (by decide +kernel) ⟨Nat.le_of_ble_eq_true rfl, Nat.le_of_ble_eq_true rfl⟩) ⟨fun a U g mk q => by obtain ⟨q0, qP, qK⟩ := q; exact ⟨q0, qP, va_K.moved (u := U) (U := U.calling g mk a) (Vm.Alike.refl U.vm) qK⟩, va_recv hK hP (ci := 1) (q0 := 0) rfl rfl, fun U hU hW => ⟨rfl, by rw [hU]; exact hP, va_K.moved hW.alike hK⟩⟩ rfl rfl hl.1 rfl (lv_room (Nat.le_of_ble_eq_true rfl)) dX1_where_20 ⟨Nat.le_of_ble_eq_true rfl, Nat.le_of_ble_eq_true rfl⟩).run (fun r_4 er_4 => ?_)
      subst er_4
      refine lv_icmp_lt (tgt := 32) hx hb dX1_where_23 (by decide) (fun c_3 => ?_) (fun c_3 => ?_)
      · refine lv_iload_n hx hb dX1_where_32 rfl (lv_at hl 1 rfl) ?_
        refine lv_iconst (v := (-1)) hx hb dX1_where_33 (by decide) ?_
        refine lv_icmp_ne (tgt := 39) hx hb dX1_where_34 (by decide) (fun c_4 => ?_) (fun c_4 => ?_)
        · refine lv_aload_n hx hb dX1_where_39 rfl (lv_at hl 0 rfl) ?_
          refine va_get (D := (dC, dI)) (ci := 1) (v := .int mf9) (C := RX1) (T := TX1) (N := 13) hx hb htG inX1 hown hK hP 0 rfl rfl 9 (by decide) (htG _ wd_340) (fun _ h9 => h9) rfl dX1_where_40 ?_
          refine lv_if_ne (tgt := 79) hx hb dX1_where_43 (by decide) (fun c_5 => ?_) (fun c_5 => ?_)
          · refine lv_iconst (v := 0) hx hb dX1_where_79 (by decide) ?_
            refine lv_istore_n (lv' := [(3, .int 0), (0, .ref mh0), (1, .int p0), (2, .int p1)]) hx hb dX1_where_80 rfl hl (by decide) rfl (fun ls hl => ?_)
            refine lv_iload_n hx hb dX1_where_81 rfl (lv_at hl 0 rfl) ?_
            refine lv_if_eq (tgt := 117) hx hb dX1_where_82 (by decide) (fun c_6 => ?_) (fun c_6 => ?_)
            · refine lv_aload_n hx hb dX1_where_117 rfl (lv_at hl 1 rfl) ?_
              refine lv_iload_n hx hb dX1_where_118 rfl (lv_at hl 2 rfl) ?_
              refine vp_callSi (va_runV (As := [.int p0]) (rest := []) ⟨hx, hb, hml, hown, htG⟩ (mX1_home l dC dI mh0 mh1 mh2 mh3 mc1 mc2 mc3 mk1 mk2 mk3 0 mf1 mf2 mf3 mf4 mf5 mf6 mf7 mf8 mf9 p0 (in_le (isThere_in hN c_1 c_4)) (fun _ => (isThere_in hN c_1 c_4))) (cwV 1 htG (wG_V wd_391 wd_393 wd_12 wd_23 wd_394) rfl rfl rfl (by decide +kernel) ⟨Nat.le_of_ble_eq_true rfl, Nat.le_of_ble_eq_true rfl⟩) ⟨fun a U g mk q => by obtain ⟨q0, qP, qK⟩ := q; exact ⟨q0, qP, va_K.moved (u := U) (U := U.calling g mk a) (Vm.Alike.refl U.vm) qK⟩, va_recv hK hP (ci := 1) (q0 := 0) rfl rfl, fun U hU hW => ⟨rfl, by rw [hU]; exact hP, va_K.moved hW.alike hK⟩⟩ rfl rfl hl.1 rfl (lv_room (Nat.le_of_ble_eq_true rfl)) dX1_where_119 ⟨Nat.le_of_ble_eq_true rfl, Nat.le_of_ble_eq_true rfl⟩).run (fun r_5 er_5 => ?_)
              subst er_5
              refine lv_iconst (v := 4) hx hb dX1_where_122 (by decide) ?_
              refine lv_idiv hx hb dX1_where_123 (by decide) ?_
              refine lv_iload_n hx hb dX1_where_124 rfl (lv_at hl 3 rfl) ?_
              refine lv_iadd hx hb dX1_where_125 ?_
              refine lv_istore (lv' := [(4, .int (((fX1_home mk1 mk2 mk3 mf1 mf2 p0) / 4) + p1)), (3, .int 0), (0, .ref mh0), (1, .int p0), (2, .int p1)]) hx hb dX1_where_126 hl (by decide) rfl (fun ls hl => ?_)
              refine lv_iload hx hb dX1_where_128 (lv_at hl 0 rfl) ?_
              refine lv_iconst (v := 4) hx hb dX1_where_130 (by decide) ?_
              refine lv_icmp_ge (tgt := 141) hx hb dX1_where_131 (by decide) (fun c_7 => ?_) (fun c_7 => ?_)
              · refine lv_iconst (v := (-1)) hx hb dX1_where_141 (by decide) ?_
                exact W.iret (v := (-1)) hx hb hr (fun t ht hW => ⟨⟨(-1), (mk1, mk2, mk3, 0, mf1, mf2, mf3, mf4, mf5, mf6, mf7, mf8, mf9), rfl, (by rw [fX1_where, if_neg c_1, if_neg c_2, if_pos c_3, if_neg c_4, if_neg c_5, if_pos c_7]), by rw [ht]; exact hP, va_K.moved hW.alike hK, hD⟩, hS.F ht⟩) hS.2.2 dX1_where_142
              · refine lv_iconst (v := 4) hx hb dX1_where_134 (by decide) ?_
                refine lv_iload hx hb dX1_where_135 (lv_at hl 0 rfl) ?_
                refine lv_iadd hx hb dX1_where_137 ?_
                refine lv_goto (tgt := 142) hx hb dX1_where_138 (by decide) ?_
                exact W.iret (v := (4 + (((fX1_home mk1 mk2 mk3 mf1 mf2 p0) / 4) + p1))) hx hb hr (fun t ht hW => ⟨⟨(4 + (((fX1_home mk1 mk2 mk3 mf1 mf2 p0) / 4) + p1)), (mk1, mk2, mk3, 0, mf1, mf2, mf3, mf4, mf5, mf6, mf7, mf8, mf9), rfl, (by rw [fX1_where, if_neg c_1, if_neg c_2, if_pos c_3, if_neg c_4, if_neg c_5, if_neg c_7]), by rw [ht]; exact hP, va_K.moved hW.alike hK, hD⟩, hS.F ht⟩) hS.2.2 dX1_where_142
            · exact absurd c_6 (by decide)
          · refine lv_aload_n hx hb dX1_where_46 rfl (lv_at hl 0 rfl) ?_
            refine va_get (D := (dC, dI)) (ci := 1) (v := .int mf1) (C := RX1) (T := TX1) (N := 13) hx hb htG inX1 hown hK hP 0 rfl rfl 1 (by decide) (htG _ wd_332) (fun _ h9 => h9) rfl dX1_where_47 ?_
            refine lv_iconst (v := 3) hx hb dX1_where_50 (by decide) ?_
            refine lv_icmp_eq (tgt := 79) hx hb dX1_where_51 (by decide) (fun c_8 => ?_) (fun c_8 => ?_)
            · refine lv_iconst (v := 0) hx hb dX1_where_79 (by decide) ?_
              refine lv_istore_n (lv' := [(3, .int 0), (0, .ref mh0), (1, .int p0), (2, .int p1)]) hx hb dX1_where_80 rfl hl (by decide) rfl (fun ls hl => ?_)
              refine lv_iload_n hx hb dX1_where_81 rfl (lv_at hl 0 rfl) ?_
              refine lv_if_eq (tgt := 117) hx hb dX1_where_82 (by decide) (fun c_9 => ?_) (fun c_9 => ?_)
              · refine lv_aload_n hx hb dX1_where_117 rfl (lv_at hl 1 rfl) ?_
                refine lv_iload_n hx hb dX1_where_118 rfl (lv_at hl 2 rfl) ?_
                refine vp_callSi (va_runV (As := [.int p0]) (rest := []) ⟨hx, hb, hml, hown, htG⟩ (mX1_home l dC dI mh0 mh1 mh2 mh3 mc1 mc2 mc3 mk1 mk2 mk3 0 mf1 mf2 mf3 mf4 mf5 mf6 mf7 mf8 mf9 p0 (in_le (isThere_in hN c_1 c_4)) (fun _ => (isThere_in hN c_1 c_4))) (cwV 1 htG (wG_V wd_391 wd_393 wd_12 wd_23 wd_394) rfl rfl rfl (by decide +kernel) ⟨Nat.le_of_ble_eq_true rfl, Nat.le_of_ble_eq_true rfl⟩) ⟨fun a U g mk q => by obtain ⟨q0, qP, qK⟩ := q; exact ⟨q0, qP, va_K.moved (u := U) (U := U.calling g mk a) (Vm.Alike.refl U.vm) qK⟩, va_recv hK hP (ci := 1) (q0 := 0) rfl rfl, fun U hU hW => ⟨rfl, by rw [hU]; exact hP, va_K.moved hW.alike hK⟩⟩ rfl rfl hl.1 rfl (lv_room (Nat.le_of_ble_eq_true rfl)) dX1_where_119 ⟨Nat.le_of_ble_eq_true rfl, Nat.le_of_ble_eq_true rfl⟩).run (fun r_6 er_6 => ?_)
                subst er_6
                refine lv_iconst (v := 4) hx hb dX1_where_122 (by decide) ?_
                refine lv_idiv hx hb dX1_where_123 (by decide) ?_
                refine lv_iload_n hx hb dX1_where_124 rfl (lv_at hl 3 rfl) ?_
                refine lv_iadd hx hb dX1_where_125 ?_
                refine lv_istore (lv' := [(4, .int (((fX1_home mk1 mk2 mk3 mf1 mf2 p0) / 4) + p1)), (3, .int 0), (0, .ref mh0), (1, .int p0), (2, .int p1)]) hx hb dX1_where_126 hl (by decide) rfl (fun ls hl => ?_)
                refine lv_iload hx hb dX1_where_128 (lv_at hl 0 rfl) ?_
                refine lv_iconst (v := 4) hx hb dX1_where_130 (by decide) ?_
                refine lv_icmp_ge (tgt := 141) hx hb dX1_where_131 (by decide) (fun c_10 => ?_) (fun c_10 => ?_)
                · refine lv_iconst (v := (-1)) hx hb dX1_where_141 (by decide) ?_
                  exact W.iret (v := (-1)) hx hb hr (fun t ht hW => ⟨⟨(-1), (mk1, mk2, mk3, 0, mf1, mf2, mf3, mf4, mf5, mf6, mf7, mf8, mf9), rfl, (by rw [fX1_where, if_neg c_1, if_neg c_2, if_pos c_3, if_neg c_4, if_pos c_5, if_pos c_8, if_pos c_10]), by rw [ht]; exact hP, va_K.moved hW.alike hK, hD⟩, hS.F ht⟩) hS.2.2 dX1_where_142
                · refine lv_iconst (v := 4) hx hb dX1_where_134 (by decide) ?_
                  refine lv_iload hx hb dX1_where_135 (lv_at hl 0 rfl) ?_
                  refine lv_iadd hx hb dX1_where_137 ?_
                  refine lv_goto (tgt := 142) hx hb dX1_where_138 (by decide) ?_
                  exact W.iret (v := (4 + (((fX1_home mk1 mk2 mk3 mf1 mf2 p0) / 4) + p1))) hx hb hr (fun t ht hW => ⟨⟨(4 + (((fX1_home mk1 mk2 mk3 mf1 mf2 p0) / 4) + p1)), (mk1, mk2, mk3, 0, mf1, mf2, mf3, mf4, mf5, mf6, mf7, mf8, mf9), rfl, (by rw [fX1_where, if_neg c_1, if_neg c_2, if_pos c_3, if_neg c_4, if_pos c_5, if_pos c_8, if_neg c_10]), by rw [ht]; exact hP, va_K.moved hW.alike hK, hD⟩, hS.F ht⟩) hS.2.2 dX1_where_142
              · exact absurd c_9 (by decide)
            · refine lv_iload_n hx hb dX1_where_54 rfl (lv_at hl 1 rfl) ?_
              refine lv_iconst (v := 2) hx hb dX1_where_55 (by decide) ?_
              refine lv_icmp_ge (tgt := 79) hx hb dX1_where_56 (by decide) (fun c_11 => ?_) (fun c_11 => ?_)
              · refine lv_iconst (v := 0) hx hb dX1_where_79 (by decide) ?_
                refine lv_istore_n (lv' := [(3, .int 0), (0, .ref mh0), (1, .int p0), (2, .int p1)]) hx hb dX1_where_80 rfl hl (by decide) rfl (fun ls hl => ?_)
                refine lv_iload_n hx hb dX1_where_81 rfl (lv_at hl 0 rfl) ?_
                refine lv_if_eq (tgt := 117) hx hb dX1_where_82 (by decide) (fun c_12 => ?_) (fun c_12 => ?_)
                · refine lv_aload_n hx hb dX1_where_117 rfl (lv_at hl 1 rfl) ?_
                  refine lv_iload_n hx hb dX1_where_118 rfl (lv_at hl 2 rfl) ?_
                  refine vp_callSi (va_runV (As := [.int p0]) (rest := []) ⟨hx, hb, hml, hown, htG⟩ (mX1_home l dC dI mh0 mh1 mh2 mh3 mc1 mc2 mc3 mk1 mk2 mk3 0 mf1 mf2 mf3 mf4 mf5 mf6 mf7 mf8 mf9 p0 (in_le (isThere_in hN c_1 c_4)) (fun _ => (isThere_in hN c_1 c_4))) (cwV 1 htG (wG_V wd_391 wd_393 wd_12 wd_23 wd_394) rfl rfl rfl (by decide +kernel) ⟨Nat.le_of_ble_eq_true rfl, Nat.le_of_ble_eq_true rfl⟩) ⟨fun a U g mk q => by obtain ⟨q0, qP, qK⟩ := q; exact ⟨q0, qP, va_K.moved (u := U) (U := U.calling g mk a) (Vm.Alike.refl U.vm) qK⟩, va_recv hK hP (ci := 1) (q0 := 0) rfl rfl, fun U hU hW => ⟨rfl, by rw [hU]; exact hP, va_K.moved hW.alike hK⟩⟩ rfl rfl hl.1 rfl (lv_room (Nat.le_of_ble_eq_true rfl)) dX1_where_119 ⟨Nat.le_of_ble_eq_true rfl, Nat.le_of_ble_eq_true rfl⟩).run (fun r_7 er_7 => ?_)
                  subst er_7
                  refine lv_iconst (v := 4) hx hb dX1_where_122 (by decide) ?_
                  refine lv_idiv hx hb dX1_where_123 (by decide) ?_
                  refine lv_iload_n hx hb dX1_where_124 rfl (lv_at hl 3 rfl) ?_
                  refine lv_iadd hx hb dX1_where_125 ?_
                  refine lv_istore (lv' := [(4, .int (((fX1_home mk1 mk2 mk3 mf1 mf2 p0) / 4) + p1)), (3, .int 0), (0, .ref mh0), (1, .int p0), (2, .int p1)]) hx hb dX1_where_126 hl (by decide) rfl (fun ls hl => ?_)
                  refine lv_iload hx hb dX1_where_128 (lv_at hl 0 rfl) ?_
                  refine lv_iconst (v := 4) hx hb dX1_where_130 (by decide) ?_
                  refine lv_icmp_ge (tgt := 141) hx hb dX1_where_131 (by decide) (fun c_13 => ?_) (fun c_13 => ?_)
                  · refine lv_iconst (v := (-1)) hx hb dX1_where_141 (by decide) ?_
                    exact W.iret (v := (-1)) hx hb hr (fun t ht hW => ⟨⟨(-1), (mk1, mk2, mk3, 0, mf1, mf2, mf3, mf4, mf5, mf6, mf7, mf8, mf9), rfl, (by rw [fX1_where, if_neg c_1, if_neg c_2, if_pos c_3, if_neg c_4, if_pos c_5, if_neg c_8, if_pos c_11, if_pos c_13]), by rw [ht]; exact hP, va_K.moved hW.alike hK, hD⟩, hS.F ht⟩) hS.2.2 dX1_where_142
                  · refine lv_iconst (v := 4) hx hb dX1_where_134 (by decide) ?_
                    refine lv_iload hx hb dX1_where_135 (lv_at hl 0 rfl) ?_
                    refine lv_iadd hx hb dX1_where_137 ?_
                    refine lv_goto (tgt := 142) hx hb dX1_where_138 (by decide) ?_
                    exact W.iret (v := (4 + (((fX1_home mk1 mk2 mk3 mf1 mf2 p0) / 4) + p1))) hx hb hr (fun t ht hW => ⟨⟨(4 + (((fX1_home mk1 mk2 mk3 mf1 mf2 p0) / 4) + p1)), (mk1, mk2, mk3, 0, mf1, mf2, mf3, mf4, mf5, mf6, mf7, mf8, mf9), rfl, (by rw [fX1_where, if_neg c_1, if_neg c_2, if_pos c_3, if_neg c_4, if_pos c_5, if_neg c_8, if_pos c_11, if_neg c_13]), by rw [ht]; exact hP, va_K.moved hW.alike hK, hD⟩, hS.F ht⟩) hS.2.2 dX1_where_142
                · exact absurd c_12 (by decide)
              · refine lv_aload_n hx hb dX1_where_59 rfl (lv_at hl 0 rfl) ?_
                refine lv_iconst (v := 0) hx hb dX1_where_60 (by decide) ?_
                refine vp_callSi (va_runV (As := [.int 0]) (rest := []) ⟨hx, hb, hml, hown, htG⟩ (mX1_isFraction l dC dI mh0 mh1 mh2 mh3 mc1 mc2 mc3 mk1 mk2 mk3 0 mf1 mf2 mf3 mf4 mf5 mf6 mf7 mf8 mf9 0 in_0) (cwV 1 htG (wG_V wd_419 wd_421 wd_17 wd_23 wd_422) rfl rfl rfl (by decide +kernel) ⟨Nat.le_of_ble_eq_true rfl, Nat.le_of_ble_eq_true rfl⟩) ⟨fun a U g mk q => by obtain ⟨q0, qP, qK⟩ := q; exact ⟨q0, qP, va_K.moved (u := U) (U := U.calling g mk a) (Vm.Alike.refl U.vm) qK⟩, va_recv hK hP (ci := 1) (q0 := 0) rfl rfl, fun U hU hW => ⟨rfl, by rw [hU]; exact hP, va_K.moved hW.alike hK⟩⟩ rfl rfl hl.1 rfl (lv_room (Nat.le_of_ble_eq_true rfl)) dX1_where_61 ⟨Nat.le_of_ble_eq_true rfl, Nat.le_of_ble_eq_true rfl⟩).run (fun r_8 er_8 => ?_)
                subst er_8
                refine lv_if_eq (tgt := 79) hx hb dX1_where_64 (by decide) (fun c_14 => ?_) (fun c_14 => ?_)
                · refine lv_iconst (v := 0) hx hb dX1_where_79 (by decide) ?_
                  refine lv_istore_n (lv' := [(3, .int 0), (0, .ref mh0), (1, .int p0), (2, .int p1)]) hx hb dX1_where_80 rfl hl (by decide) rfl (fun ls hl => ?_)
                  refine lv_iload_n hx hb dX1_where_81 rfl (lv_at hl 0 rfl) ?_
                  refine lv_if_eq (tgt := 117) hx hb dX1_where_82 (by decide) (fun c_15 => ?_) (fun c_15 => ?_)
                  · refine lv_aload_n hx hb dX1_where_117 rfl (lv_at hl 1 rfl) ?_
                    refine lv_iload_n hx hb dX1_where_118 rfl (lv_at hl 2 rfl) ?_
                    refine vp_callSi (va_runV (As := [.int p0]) (rest := []) ⟨hx, hb, hml, hown, htG⟩ (mX1_home l dC dI mh0 mh1 mh2 mh3 mc1 mc2 mc3 mk1 mk2 mk3 0 mf1 mf2 mf3 mf4 mf5 mf6 mf7 mf8 mf9 p0 (in_le (isThere_in hN c_1 c_4)) (fun _ => (isThere_in hN c_1 c_4))) (cwV 1 htG (wG_V wd_391 wd_393 wd_12 wd_23 wd_394) rfl rfl rfl (by decide +kernel) ⟨Nat.le_of_ble_eq_true rfl, Nat.le_of_ble_eq_true rfl⟩) ⟨fun a U g mk q => by obtain ⟨q0, qP, qK⟩ := q; exact ⟨q0, qP, va_K.moved (u := U) (U := U.calling g mk a) (Vm.Alike.refl U.vm) qK⟩, va_recv hK hP (ci := 1) (q0 := 0) rfl rfl, fun U hU hW => ⟨rfl, by rw [hU]; exact hP, va_K.moved hW.alike hK⟩⟩ rfl rfl hl.1 rfl (lv_room (Nat.le_of_ble_eq_true rfl)) dX1_where_119 ⟨Nat.le_of_ble_eq_true rfl, Nat.le_of_ble_eq_true rfl⟩).run (fun r_9 er_9 => ?_)
                    subst er_9
                    refine lv_iconst (v := 4) hx hb dX1_where_122 (by decide) ?_
                    refine lv_idiv hx hb dX1_where_123 (by decide) ?_
                    refine lv_iload_n hx hb dX1_where_124 rfl (lv_at hl 3 rfl) ?_
                    refine lv_iadd hx hb dX1_where_125 ?_
                    refine lv_istore (lv' := [(4, .int (((fX1_home mk1 mk2 mk3 mf1 mf2 p0) / 4) + p1)), (3, .int 0), (0, .ref mh0), (1, .int p0), (2, .int p1)]) hx hb dX1_where_126 hl (by decide) rfl (fun ls hl => ?_)
                    refine lv_iload hx hb dX1_where_128 (lv_at hl 0 rfl) ?_
                    refine lv_iconst (v := 4) hx hb dX1_where_130 (by decide) ?_
                    refine lv_icmp_ge (tgt := 141) hx hb dX1_where_131 (by decide) (fun c_16 => ?_) (fun c_16 => ?_)
                    · refine lv_iconst (v := (-1)) hx hb dX1_where_141 (by decide) ?_
                      exact W.iret (v := (-1)) hx hb hr (fun t ht hW => ⟨⟨(-1), (mk1, mk2, mk3, 0, mf1, mf2, mf3, mf4, mf5, mf6, mf7, mf8, mf9), rfl, (by rw [fX1_where, if_neg c_1, if_neg c_2, if_pos c_3, if_neg c_4, if_pos c_5, if_neg c_8, if_neg c_11, if_pos c_14, if_pos c_16]), by rw [ht]; exact hP, va_K.moved hW.alike hK, hD⟩, hS.F ht⟩) hS.2.2 dX1_where_142
                    · refine lv_iconst (v := 4) hx hb dX1_where_134 (by decide) ?_
                      refine lv_iload hx hb dX1_where_135 (lv_at hl 0 rfl) ?_
                      refine lv_iadd hx hb dX1_where_137 ?_
                      refine lv_goto (tgt := 142) hx hb dX1_where_138 (by decide) ?_
                      exact W.iret (v := (4 + (((fX1_home mk1 mk2 mk3 mf1 mf2 p0) / 4) + p1))) hx hb hr (fun t ht hW => ⟨⟨(4 + (((fX1_home mk1 mk2 mk3 mf1 mf2 p0) / 4) + p1)), (mk1, mk2, mk3, 0, mf1, mf2, mf3, mf4, mf5, mf6, mf7, mf8, mf9), rfl, (by rw [fX1_where, if_neg c_1, if_neg c_2, if_pos c_3, if_neg c_4, if_pos c_5, if_neg c_8, if_neg c_11, if_pos c_14, if_neg c_16]), by rw [ht]; exact hP, va_K.moved hW.alike hK, hD⟩, hS.F ht⟩) hS.2.2 dX1_where_142
                  · exact absurd c_15 (by decide)
                · refine lv_aload_n hx hb dX1_where_67 rfl (lv_at hl 0 rfl) ?_
                  refine lv_iload_n hx hb dX1_where_68 rfl (lv_at hl 1 rfl) ?_
                  refine vp_callSi (va_runV (As := [.int p0]) (rest := []) ⟨hx, hb, hml, hown, htG⟩ (mX1_isFraction l dC dI mh0 mh1 mh2 mh3 mc1 mc2 mc3 mk1 mk2 mk3 0 mf1 mf2 mf3 mf4 mf5 mf6 mf7 mf8 mf9 p0 (isThere_in hN c_1 c_4)) (cwV 1 htG (wG_V wd_419 wd_421 wd_17 wd_23 wd_422) rfl rfl rfl (by decide +kernel) ⟨Nat.le_of_ble_eq_true rfl, Nat.le_of_ble_eq_true rfl⟩) ⟨fun a U g mk q => by obtain ⟨q0, qP, qK⟩ := q; exact ⟨q0, qP, va_K.moved (u := U) (U := U.calling g mk a) (Vm.Alike.refl U.vm) qK⟩, va_recv hK hP (ci := 1) (q0 := 0) rfl rfl, fun U hU hW => ⟨rfl, by rw [hU]; exact hP, va_K.moved hW.alike hK⟩⟩ rfl rfl hl.1 rfl (lv_room (Nat.le_of_ble_eq_true rfl)) dX1_where_69 ⟨Nat.le_of_ble_eq_true rfl, Nat.le_of_ble_eq_true rfl⟩).run (fun r_10 er_10 => ?_)
                  subst er_10
                  refine lv_if_eq (tgt := 79) hx hb dX1_where_72 (by decide) (fun c_17 => ?_) (fun c_17 => ?_)
                  · refine lv_iconst (v := 0) hx hb dX1_where_79 (by decide) ?_
                    refine lv_istore_n (lv' := [(3, .int 0), (0, .ref mh0), (1, .int p0), (2, .int p1)]) hx hb dX1_where_80 rfl hl (by decide) rfl (fun ls hl => ?_)
                    refine lv_iload_n hx hb dX1_where_81 rfl (lv_at hl 0 rfl) ?_
                    refine lv_if_eq (tgt := 117) hx hb dX1_where_82 (by decide) (fun c_18 => ?_) (fun c_18 => ?_)
                    · refine lv_aload_n hx hb dX1_where_117 rfl (lv_at hl 1 rfl) ?_
                      refine lv_iload_n hx hb dX1_where_118 rfl (lv_at hl 2 rfl) ?_
                      refine vp_callSi (va_runV (As := [.int p0]) (rest := []) ⟨hx, hb, hml, hown, htG⟩ (mX1_home l dC dI mh0 mh1 mh2 mh3 mc1 mc2 mc3 mk1 mk2 mk3 0 mf1 mf2 mf3 mf4 mf5 mf6 mf7 mf8 mf9 p0 (in_le (isThere_in hN c_1 c_4)) (fun _ => (isThere_in hN c_1 c_4))) (cwV 1 htG (wG_V wd_391 wd_393 wd_12 wd_23 wd_394) rfl rfl rfl (by decide +kernel) ⟨Nat.le_of_ble_eq_true rfl, Nat.le_of_ble_eq_true rfl⟩) ⟨fun a U g mk q => by obtain ⟨q0, qP, qK⟩ := q; exact ⟨q0, qP, va_K.moved (u := U) (U := U.calling g mk a) (Vm.Alike.refl U.vm) qK⟩, va_recv hK hP (ci := 1) (q0 := 0) rfl rfl, fun U hU hW => ⟨rfl, by rw [hU]; exact hP, va_K.moved hW.alike hK⟩⟩ rfl rfl hl.1 rfl (lv_room (Nat.le_of_ble_eq_true rfl)) dX1_where_119 ⟨Nat.le_of_ble_eq_true rfl, Nat.le_of_ble_eq_true rfl⟩).run (fun r_11 er_11 => ?_)
                      subst er_11
                      refine lv_iconst (v := 4) hx hb dX1_where_122 (by decide) ?_
                      refine lv_idiv hx hb dX1_where_123 (by decide) ?_
                      refine lv_iload_n hx hb dX1_where_124 rfl (lv_at hl 3 rfl) ?_
                      refine lv_iadd hx hb dX1_where_125 ?_
                      refine lv_istore (lv' := [(4, .int (((fX1_home mk1 mk2 mk3 mf1 mf2 p0) / 4) + p1)), (3, .int 0), (0, .ref mh0), (1, .int p0), (2, .int p1)]) hx hb dX1_where_126 hl (by decide) rfl (fun ls hl => ?_)
                      refine lv_iload hx hb dX1_where_128 (lv_at hl 0 rfl) ?_
                      refine lv_iconst (v := 4) hx hb dX1_where_130 (by decide) ?_
                      refine lv_icmp_ge (tgt := 141) hx hb dX1_where_131 (by decide) (fun c_19 => ?_) (fun c_19 => ?_)
                      · refine lv_iconst (v := (-1)) hx hb dX1_where_141 (by decide) ?_
                        exact W.iret (v := (-1)) hx hb hr (fun t ht hW => ⟨⟨(-1), (mk1, mk2, mk3, 0, mf1, mf2, mf3, mf4, mf5, mf6, mf7, mf8, mf9), rfl, (by rw [fX1_where, if_neg c_1, if_neg c_2, if_pos c_3, if_neg c_4, if_pos c_5, if_neg c_8, if_neg c_11, if_neg c_14, if_pos c_17, if_pos c_19]), by rw [ht]; exact hP, va_K.moved hW.alike hK, hD⟩, hS.F ht⟩) hS.2.2 dX1_where_142
                      · refine lv_iconst (v := 4) hx hb dX1_where_134 (by decide) ?_
                        refine lv_iload hx hb dX1_where_135 (lv_at hl 0 rfl) ?_
                        refine lv_iadd hx hb dX1_where_137 ?_
                        refine lv_goto (tgt := 142) hx hb dX1_where_138 (by decide) ?_
                        exact W.iret (v := (4 + (((fX1_home mk1 mk2 mk3 mf1 mf2 p0) / 4) + p1))) hx hb hr (fun t ht hW => ⟨⟨(4 + (((fX1_home mk1 mk2 mk3 mf1 mf2 p0) / 4) + p1)), (mk1, mk2, mk3, 0, mf1, mf2, mf3, mf4, mf5, mf6, mf7, mf8, mf9), rfl, (by rw [fX1_where, if_neg c_1, if_neg c_2, if_pos c_3, if_neg c_4, if_pos c_5, if_neg c_8, if_neg c_11, if_neg c_14, if_pos c_17, if_neg c_19]), by rw [ht]; exact hP, va_K.moved hW.alike hK, hD⟩, hS.F ht⟩) hS.2.2 dX1_where_142
                    · exact absurd c_18 (by decide)
                  · refine lv_iconst (v := 1) hx hb dX1_where_75 (by decide) ?_
                    refine lv_goto (tgt := 80) hx hb dX1_where_76 (by decide) ?_
                    refine lv_istore_n (lv' := [(3, .int 1), (0, .ref mh0), (1, .int p0), (2, .int p1)]) hx hb dX1_where_80 rfl hl (by decide) rfl (fun ls hl => ?_)
                    refine lv_iload_n hx hb dX1_where_81 rfl (lv_at hl 0 rfl) ?_
                    refine lv_if_eq (tgt := 117) hx hb dX1_where_82 (by decide) (fun c_20 => ?_) (fun c_20 => ?_)
                    · exact absurd c_20 (by decide)
                    · refine lv_bipush (v := 44) hx hb dX1_where_85 (by decide) ?_
                      refine lv_iconst (v := 2) hx hb dX1_where_87 (by decide) ?_
                      refine lv_iload_n hx hb dX1_where_88 rfl (lv_at hl 2 rfl) ?_
                      refine lv_imul hx hb dX1_where_89 ?_
                      refine lv_iadd hx hb dX1_where_90 ?_
                      refine lv_istore (lv' := [(4, .int (44 + (2 * p0))), (3, .int 1), (0, .ref mh0), (1, .int p0), (2, .int p1)]) hx hb dX1_where_91 hl (by decide) rfl (fun ls hl => ?_)
                      refine lv_aload_n hx hb dX1_where_93 rfl (lv_at hl 2 rfl) ?_
                      refine va_get (D := (dC, dI)) (ci := 1) (v := .ref mh1) (C := RX1) (T := TX1) (N := 13) hx hb htG inX1 hown hK hP 0 rfl rfl 10 (by decide) (htG _ wd_341) (fun _ h9 => h9) rfl dX1_where_94 ?_
                      refine lv_iload_n hx hb dX1_where_97 rfl (lv_at hl 3 rfl) ?_
                      refine va_iald hx hb hK hP 1 0 rfl rfl (isThere_in hN c_1 c_4) dX1_where_98 ?_
                      refine lv_iconst (v := 2) hx hb dX1_where_99 (by decide) ?_
                      refine lv_icmp_ne (tgt := 114) hx hb dX1_where_100 (by decide) (fun c_21 => ?_) (fun c_21 => ?_)
                      · refine lv_iload hx hb dX1_where_114 (lv_at hl 0 rfl) ?_
                        exact W.iret (v := (44 + (2 * p0))) hx hb hr (fun t ht hW => ⟨⟨(44 + (2 * p0)), (mk1, mk2, mk3, 0, mf1, mf2, mf3, mf4, mf5, mf6, mf7, mf8, mf9), rfl, (by rw [fX1_where, if_neg c_1, if_neg c_2, if_pos c_3, if_neg c_4, if_pos c_5, if_neg c_8, if_neg c_11, if_neg c_14, if_neg c_17, if_neg c_21]), by rw [ht]; exact hP, va_K.moved hW.alike hK, hD⟩, hS.F ht⟩) hS.2.2 dX1_where_116
                      · refine lv_iload_n hx hb dX1_where_103 rfl (lv_at hl 4 rfl) ?_
                        refine lv_if_ne (tgt := 114) hx hb dX1_where_104 (by decide) (fun c_22 => ?_) (fun c_22 => ?_)
                        · refine lv_iload hx hb dX1_where_114 (lv_at hl 0 rfl) ?_
                          exact W.iret (v := (44 + (2 * p0))) hx hb hr (fun t ht hW => ⟨⟨(44 + (2 * p0)), (mk1, mk2, mk3, 0, mf1, mf2, mf3, mf4, mf5, mf6, mf7, mf8, mf9), rfl, (by rw [fX1_where, if_neg c_1, if_neg c_2, if_pos c_3, if_neg c_4, if_pos c_5, if_neg c_8, if_neg c_11, if_neg c_14, if_neg c_17, if_pos c_21, if_neg c_22]), by rw [ht]; exact hP, va_K.moved hW.alike hK, hD⟩, hS.F ht⟩) hS.2.2 dX1_where_116
                        · refine lv_iload hx hb dX1_where_107 (lv_at hl 0 rfl) ?_
                          refine lv_iconst (v := 1) hx hb dX1_where_109 (by decide) ?_
                          refine lv_iadd hx hb dX1_where_110 ?_
                          refine lv_goto (tgt := 116) hx hb dX1_where_111 (by decide) ?_
                          exact W.iret (v := ((44 + (2 * p0)) + 1)) hx hb hr (fun t ht hW => ⟨⟨((44 + (2 * p0)) + 1), (mk1, mk2, mk3, 0, mf1, mf2, mf3, mf4, mf5, mf6, mf7, mf8, mf9), rfl, (by rw [fX1_where, if_neg c_1, if_neg c_2, if_pos c_3, if_neg c_4, if_pos c_5, if_neg c_8, if_neg c_11, if_neg c_14, if_neg c_17, if_pos c_21, if_pos c_22]), by rw [ht]; exact hP, va_K.moved hW.alike hK, hD⟩, hS.F ht⟩) hS.2.2 dX1_where_116
        · refine lv_iconst (v := 4) hx hb dX1_where_37 (by decide) ?_
          exact W.iret (v := 4) hx hb hr (fun t ht hW => ⟨⟨4, (mk1, mk2, mk3, 0, mf1, mf2, mf3, mf4, mf5, mf6, mf7, mf8, mf9), rfl, (by rw [fX1_where, if_neg c_1, if_neg c_2, if_pos c_3, if_pos c_4]), by rw [ht]; exact hP, va_K.moved hW.alike hK, hD⟩, hS.F ht⟩) hS.2.2 dX1_where_38
      · refine lv_aload_n hx hb dX1_where_26 rfl (lv_at hl 0 rfl) ?_
        refine lv_iconst (v := 1) hx hb dX1_where_27 (by decide) ?_
        have hFc := va_free (wc := (mW mh0 mh1 mh2 mh3 mc1 mc2 mc3 mk1 mk2 mk3 0 mf1 mf2 mf3 mf4 mf5 mf6 mf7 mf8 mf9)) hD hS hA [0, 1, 2, 3] rfl
        refine va_calli (va_runV (As := [.int 1]) (rest := []) ⟨hx, hb, hml, hown, htG⟩ (mX1_fail l dC dI mh0 mh1 mh2 mh3 H.size mc1 mc2 mc3 mk1 mk2 mk3 0 mf1 mf2 mf3 mf4 mf5 mf6 mf7 mf8 mf9 1) (cwV 1 htG (wG_V wd_387 wd_389 wd_11 wd_23 wd_390) rfl rfl rfl (by decide +kernel) ⟨Nat.le_of_ble_eq_true rfl, Nat.le_of_ble_eq_true rfl⟩) ⟨fun a U g mk q => by obtain ⟨q0, q1, qP, qK, qD⟩ := q; exact ⟨q0, q1, qP, va_K.moved (u := U) (U := U.calling g mk a) (Vm.Alike.refl U.vm) qK, qD⟩, va_recv hK hP (ci := 1) (q0 := 0) rfl rfl, fun U hU hW => ⟨rfl, by rw [hU], by rw [hU]; exact hP, va_K.moved hW.alike hK, hD.weaken (fun _ _ _ _ => trivial)⟩⟩ rfl rfl hl.1 rfl (lv_room (Nat.le_of_ble_eq_true rfl)) dX1_where_28 ⟨Nat.le_of_ble_eq_true rfl, Nat.le_of_ble_eq_true rfl⟩) hS (fun q _ h => hFc q h) hFc (fun r_12 u t H1 locs ht hvm hw hB hz1 hk1 hS => ?_)
        rw [fX1_fail] at hw
        cases hw
        obtain ⟨hP1, hK1, hD1⟩ := hB
        rw [ht] at hP1
        obtain ⟨hP, hD⟩ := va_join (wr := []) (w1 := (mW mh0 mh1 mh2 mh3 mc1 mc2 mc3 mk1 mk2 mk3 1 mf1 mf2 mf3 mf4 mf5 mf6 mf7 mf8 mf9)) hP hD [0, 1, 2, 3] [] rfl rfl (by decide) (by decide) hk1 hFc hP1 hD1
        generalize H1 = H at hP hS ⊢
        have hP : va_P (dC, dI) vwCl (mW mh0 mh1 mh2 mh3 mc1 mc2 mc3 mk1 mk2 mk3 1 mf1 mf2 mf3 mf4 mf5 mf6 mf7 mf8 mf9) H := hP
        have hD : va_D A (mW mh0 mh1 mh2 mh3 mc1 mc2 mc3 mk1 mk2 mk3 1 mf1 mf2 mf3 mf4 mf5 mf6 mf7 mf8 mf9) := hD
        exact W.iret (v := 0) hx hb hr (fun t ht hW => ⟨⟨0, (mk1, mk2, mk3, 1, mf1, mf2, mf3, mf4, mf5, mf6, mf7, mf8, mf9), rfl, (by rw [fX1_where, if_neg c_1, if_neg c_2, if_neg c_3]), by rw [ht]; exact hP, va_K.moved hW.alike hK, hD⟩, hS.F ht⟩) hS.2.2 dX1_where_31

def fX1_place (mk1 mk2 mk3 : Nat → Int32) (mf0 mf1 mf2 mf3 mf4 mf5 mf6 mf7 mf8 mf9 : Int32) (p0 p1 : Int32) : Int32 × Int32 × mWS :=
  if p0 < 0 then (0, 0, (mk1, mk2, mk3, 1, mf1, mf2, mf3, mf4, mf5, mf6, mf7, mf8, mf9))
  else if 2 < p0 then (0, 0, (mk1, mk2, mk3, 1, mf1, mf2, mf3, mf4, mf5, mf6, mf7, mf8, mf9))
    else if p1 < 0 then (0, 0, (mk1, mk2, mk3, 1, mf1, mf2, mf3, mf4, mf5, mf6, mf7, mf8, mf9))
      else if p1 ≤ 31 then (if p0 = 0 then (0, mf8, (mk1, mk2, mk3, 0, mf1, mf2, mf3, mf4, mf5, mf6, mf7, mf8, mf9))
          else if p0 = 1 then (if ((mf5 >>> (p1 &&& 31)) &&& 1) = 0 then (0, (-1), (mk1, mk2, mk3, 0, mf1, mf2, mf3, mf4, mf5, mf6, mf7, mf8, mf9))
              else (0, ((fX1_generalAt mf6 mf7 mf8) + (fX1_saved mf5 p1 4)), (mk1, mk2, mk3, 0, mf1, mf2, mf3, mf4, mf5, mf6, mf7, mf8, mf9)))
            else if ((mf6 >>> (p1 &&& 31)) &&& 1) = 0 then (0, (-1), (mk1, mk2, mk3, 0, mf1, mf2, mf3, mf4, mf5, mf6, mf7, mf8, mf9))
              else (0, ((fX1_fractionsAt mf7 mf8) + (fX1_saved mf6 p1 8)), (mk1, mk2, mk3, 0, mf1, mf2, mf3, mf4, mf5, mf6, mf7, mf8, mf9)))
        else (0, 0, (mk1, mk2, mk3, 1, mf1, mf2, mf3, mf4, mf5, mf6, mf7, mf8, mf9))

abbrev wsX1_place : List Cond := .code yX1_place cX1_place 4 (some .int) :: wG
set_option maxHeartbeats 4000000 in
set_option maxRecDepth 100000 in
theorem mX1_place (l : Launch) (dC : Nat → ClassId) (dI : Nat → Nat → Nat) (mh0 mh1 mh2 mh3 : Nat) (sz : Nat) (mc1 mc2 mc3 : ClassId) (mk1 mk2 mk3 : Nat → Int32) (mf0 mf1 mf2 mf3 mf4 mf5 mf6 mf7 mf8 mf9 : Int32) (p0 p1 : Int32)  : Met l yX1_place wsX1_place ({ frames := 3, cells := 0, slots := 0, locals := 61 }) (va_Pc [.ref mh0, .int p0, .int p1] (fun U => U.heap.size = sz ∧ va_P (dC, dI) vwCl (mW mh0 mh1 mh2 mh3 mc1 mc2 mc3 mk1 mk2 mk3 mf0 mf1 mf2 mf3 mf4 mf5 mf6 mf7 mf8 mf9) U.heap ∧ va_K (dC, dI) vwCl [(mc1, .int), (mc2, .int), (mc3, .int)] U ∧ va_D (fun _ => True) (mW mh0 mh1 mh2 mh3 mc1 mc2 mc3 mk1 mk2 mk3 mf0 mf1 mf2 mf3 mf4 mf5 mf6 mf7 mf8 mf9))) (va_Qi (fun r u => (0, r, u) = fX1_place mk1 mk2 mk3 mf0 mf1 mf2 mf3 mf4 mf5 mf6 mf7 mf8 mf9 p0 p1) (mWB dC dI (va_A (mW mh0 mh1 mh2 mh3 mc1 mc2 mc3 mk1 mk2 mk3 mf0 mf1 mf2 mf3 mf4 mf5 mf6 mf7 mf8 mf9) sz) mh0 mh1 mh2 mh3 mc1 mc2 mc3) (va_A (mW mh0 mh1 mh2 mh3 mc1 mc2 mc3 mk1 mk2 mk3 mf0 mf1 mf2 mf3 mf4 mf5 mf6 mf7 mf8 mf9) sz)) 0 0 (va_A (mW mh0 mh1 mh2 mh3 mc1 mc2 mc3 mk1 mk2 mk3 mf0 mf1 mf2 mf3 mf4 mf5 mf6 mf7 mf8 mf9) sz) := by
  refine Met.ofW (cc := cX1_place) (maxL := 4) (ret := (some .int)) (by decide) rfl ?_
  intro p e s m args below meth c s₁ B hml hv
  obtain ⟨rfl, hsz, hP, hK, hD0⟩ := hv
  have hx := B.exec
  have hb := B.bytes
  have hr := B.returns
  have hts := atoms_spec (ws := wsX1_place) B.pre
  have htG := fun (w : Cond) (h : w ∈ wG) => hts w (List.mem_cons_of_mem _ h)
  have hown : s.vm.findClass RX1 = some m.cls := findClass_of_methodNamed B.named
  have hlocks := B.notSynchronized
  subst hsz
  have hD := hD0.self (sz := s.heap.size)
  generalize hAe : va_A (mW mh0 mh1 mh2 mh3 mc1 mc2 mc3 mk1 mk2 mk3 mf0 mf1 mf2 mf3 mf4 mf5 mf6 mf7 mf8 mf9) s.heap.size = A at hD ⊢
  have hA : ∀ q : Nat, s.heap.size ≤ q → A q := fun q h => by rw [← hAe]; exact Or.inr h
  have hS : va_S A s.heap s.heap [] := va_S.rf
  have hP : va_P (dC, dI) vwCl (mW mh0 mh1 mh2 mh3 mc1 mc2 mc3 mk1 mk2 mk3 mf0 mf1 mf2 mf3 mf4 mf5 mf6 mf7 mf8 mf9) s.heap := hP
  have hl := lv_entry ([.ref mh0, .int p0, .int p1]) (n := 4) (Nat.le_of_ble_eq_true rfl)
  rw [lg_entry_eq]
  generalize (lg_sl ([.ref mh0, .int p0, .int p1]) ++ List.replicate (4 - (lg_sl ([.ref mh0, .int p0, .int p1])).length) Slot.unset).toArray = ls at hl ⊢
  have hl : lv_has ls 4 [(0, .ref mh0), (1, .int p0), (2, .int p1)] := hl
  refine lv_aload_n hx hb dX1_place_0 rfl (lv_at hl 0 rfl) ?_
  refine lv_iconst (v := 0) hx hb dX1_place_1 (by decide) ?_
  refine va_put (D := (dC, dI)) (ci := 1) (v := .int 0) (ty := .int) (C := RX1) (T := TX1) (N := 13) hx hb htG inX1 tyX1 tyX1_ok nmX1 hown hK hP hD hS 0 rfl rfl 0 (by decide) (htG _ wd_331) (fun _ h9 => h9) rfl (by decide +kernel) rfl rfl (Nat.le_of_ble_eq_true rfl) dX1_place_2 (fun H locs hP hD hS => ?_)
  have hP : va_P (dC, dI) vwCl (mW mh0 mh1 mh2 mh3 mc1 mc2 mc3 mk1 mk2 mk3 0 mf1 mf2 mf3 mf4 mf5 mf6 mf7 mf8 mf9) H := hP
  have hD : va_D A (mW mh0 mh1 mh2 mh3 mc1 mc2 mc3 mk1 mk2 mk3 0 mf1 mf2 mf3 mf4 mf5 mf6 mf7 mf8 mf9) := hD
  refine lv_iload_n hx hb dX1_place_5 rfl (lv_at hl 1 rfl) ?_
  refine lv_if_lt (tgt := 24) hx hb dX1_place_6 (by decide) (fun c_1 => ?_) (fun c_1 => ?_)
  · refine lv_aload_n hx hb dX1_place_24 rfl (lv_at hl 0 rfl) ?_
    refine lv_iconst (v := 1) hx hb dX1_place_25 (by decide) ?_
    have hFc := va_free (wc := (mW mh0 mh1 mh2 mh3 mc1 mc2 mc3 mk1 mk2 mk3 0 mf1 mf2 mf3 mf4 mf5 mf6 mf7 mf8 mf9)) hD hS hA [0, 1, 2, 3] rfl
    refine va_calli (va_runV (As := [.int 1]) (rest := []) ⟨hx, hb, hml, hown, htG⟩ (mX1_fail l dC dI mh0 mh1 mh2 mh3 H.size mc1 mc2 mc3 mk1 mk2 mk3 0 mf1 mf2 mf3 mf4 mf5 mf6 mf7 mf8 mf9 1) (cwV 1 htG (wG_V wd_387 wd_389 wd_11 wd_23 wd_390) rfl rfl rfl (by decide +kernel) ⟨Nat.le_of_ble_eq_true rfl, Nat.le_of_ble_eq_true rfl⟩) ⟨fun a U g mk q => by obtain ⟨q0, q1, qP, qK, qD⟩ := q; exact ⟨q0, q1, qP, va_K.moved (u := U) (U := U.calling g mk a) (Vm.Alike.refl U.vm) qK, qD⟩, va_recv hK hP (ci := 1) (q0 := 0) rfl rfl, fun U hU hW => ⟨rfl, by rw [hU], by rw [hU]; exact hP, va_K.moved hW.alike hK, hD.weaken (fun _ _ _ _ => trivial)⟩⟩ rfl rfl hl.1 rfl (lv_room (Nat.le_of_ble_eq_true rfl)) dX1_place_26 ⟨Nat.le_of_ble_eq_true rfl, Nat.le_of_ble_eq_true rfl⟩) hS (fun q _ h => hFc q h) hFc (fun r_1 u t H1 locs ht hvm hw hB hz1 hk1 hS => ?_)
    rw [fX1_fail] at hw
    cases hw
    obtain ⟨hP1, hK1, hD1⟩ := hB
    rw [ht] at hP1
    obtain ⟨hP, hD⟩ := va_join (wr := []) (w1 := (mW mh0 mh1 mh2 mh3 mc1 mc2 mc3 mk1 mk2 mk3 1 mf1 mf2 mf3 mf4 mf5 mf6 mf7 mf8 mf9)) hP hD [0, 1, 2, 3] [] rfl rfl (by decide) (by decide) hk1 hFc hP1 hD1
    generalize H1 = H at hP hS ⊢
    have hP : va_P (dC, dI) vwCl (mW mh0 mh1 mh2 mh3 mc1 mc2 mc3 mk1 mk2 mk3 1 mf1 mf2 mf3 mf4 mf5 mf6 mf7 mf8 mf9) H := hP
    have hD : va_D A (mW mh0 mh1 mh2 mh3 mc1 mc2 mc3 mk1 mk2 mk3 1 mf1 mf2 mf3 mf4 mf5 mf6 mf7 mf8 mf9) := hD
    exact W.iret (v := 0) hx hb hr (fun t ht hW => ⟨⟨0, (mk1, mk2, mk3, 1, mf1, mf2, mf3, mf4, mf5, mf6, mf7, mf8, mf9), rfl, (by rw [fX1_place, if_pos c_1]), by rw [ht]; exact hP, va_K.moved hW.alike hK, hD⟩, hS.F ht⟩) hS.2.2 dX1_place_29
  · refine lv_iload_n hx hb dX1_place_9 rfl (lv_at hl 1 rfl) ?_
    refine lv_iconst (v := 2) hx hb dX1_place_10 (by decide) ?_
    refine lv_icmp_gt (tgt := 24) hx hb dX1_place_11 (by decide) (fun c_2 => ?_) (fun c_2 => ?_)
    · refine lv_aload_n hx hb dX1_place_24 rfl (lv_at hl 0 rfl) ?_
      refine lv_iconst (v := 1) hx hb dX1_place_25 (by decide) ?_
      have hFc := va_free (wc := (mW mh0 mh1 mh2 mh3 mc1 mc2 mc3 mk1 mk2 mk3 0 mf1 mf2 mf3 mf4 mf5 mf6 mf7 mf8 mf9)) hD hS hA [0, 1, 2, 3] rfl
      refine va_calli (va_runV (As := [.int 1]) (rest := []) ⟨hx, hb, hml, hown, htG⟩ (mX1_fail l dC dI mh0 mh1 mh2 mh3 H.size mc1 mc2 mc3 mk1 mk2 mk3 0 mf1 mf2 mf3 mf4 mf5 mf6 mf7 mf8 mf9 1) (cwV 1 htG (wG_V wd_387 wd_389 wd_11 wd_23 wd_390) rfl rfl rfl (by decide +kernel) ⟨Nat.le_of_ble_eq_true rfl, Nat.le_of_ble_eq_true rfl⟩) ⟨fun a U g mk q => by obtain ⟨q0, q1, qP, qK, qD⟩ := q; exact ⟨q0, q1, qP, va_K.moved (u := U) (U := U.calling g mk a) (Vm.Alike.refl U.vm) qK, qD⟩, va_recv hK hP (ci := 1) (q0 := 0) rfl rfl, fun U hU hW => ⟨rfl, by rw [hU], by rw [hU]; exact hP, va_K.moved hW.alike hK, hD.weaken (fun _ _ _ _ => trivial)⟩⟩ rfl rfl hl.1 rfl (lv_room (Nat.le_of_ble_eq_true rfl)) dX1_place_26 ⟨Nat.le_of_ble_eq_true rfl, Nat.le_of_ble_eq_true rfl⟩) hS (fun q _ h => hFc q h) hFc (fun r_2 u t H1 locs ht hvm hw hB hz1 hk1 hS => ?_)
      rw [fX1_fail] at hw
      cases hw
      obtain ⟨hP1, hK1, hD1⟩ := hB
      rw [ht] at hP1
      obtain ⟨hP, hD⟩ := va_join (wr := []) (w1 := (mW mh0 mh1 mh2 mh3 mc1 mc2 mc3 mk1 mk2 mk3 1 mf1 mf2 mf3 mf4 mf5 mf6 mf7 mf8 mf9)) hP hD [0, 1, 2, 3] [] rfl rfl (by decide) (by decide) hk1 hFc hP1 hD1
      generalize H1 = H at hP hS ⊢
      have hP : va_P (dC, dI) vwCl (mW mh0 mh1 mh2 mh3 mc1 mc2 mc3 mk1 mk2 mk3 1 mf1 mf2 mf3 mf4 mf5 mf6 mf7 mf8 mf9) H := hP
      have hD : va_D A (mW mh0 mh1 mh2 mh3 mc1 mc2 mc3 mk1 mk2 mk3 1 mf1 mf2 mf3 mf4 mf5 mf6 mf7 mf8 mf9) := hD
      exact W.iret (v := 0) hx hb hr (fun t ht hW => ⟨⟨0, (mk1, mk2, mk3, 1, mf1, mf2, mf3, mf4, mf5, mf6, mf7, mf8, mf9), rfl, (by rw [fX1_place, if_neg c_1, if_pos c_2]), by rw [ht]; exact hP, va_K.moved hW.alike hK, hD⟩, hS.F ht⟩) hS.2.2 dX1_place_29
    · refine lv_iload_n hx hb dX1_place_14 rfl (lv_at hl 2 rfl) ?_
      refine lv_if_lt (tgt := 24) hx hb dX1_place_15 (by decide) (fun c_3 => ?_) (fun c_3 => ?_)
      · refine lv_aload_n hx hb dX1_place_24 rfl (lv_at hl 0 rfl) ?_
        refine lv_iconst (v := 1) hx hb dX1_place_25 (by decide) ?_
        have hFc := va_free (wc := (mW mh0 mh1 mh2 mh3 mc1 mc2 mc3 mk1 mk2 mk3 0 mf1 mf2 mf3 mf4 mf5 mf6 mf7 mf8 mf9)) hD hS hA [0, 1, 2, 3] rfl
        refine va_calli (va_runV (As := [.int 1]) (rest := []) ⟨hx, hb, hml, hown, htG⟩ (mX1_fail l dC dI mh0 mh1 mh2 mh3 H.size mc1 mc2 mc3 mk1 mk2 mk3 0 mf1 mf2 mf3 mf4 mf5 mf6 mf7 mf8 mf9 1) (cwV 1 htG (wG_V wd_387 wd_389 wd_11 wd_23 wd_390) rfl rfl rfl (by decide +kernel) ⟨Nat.le_of_ble_eq_true rfl, Nat.le_of_ble_eq_true rfl⟩) ⟨fun a U g mk q => by obtain ⟨q0, q1, qP, qK, qD⟩ := q; exact ⟨q0, q1, qP, va_K.moved (u := U) (U := U.calling g mk a) (Vm.Alike.refl U.vm) qK, qD⟩, va_recv hK hP (ci := 1) (q0 := 0) rfl rfl, fun U hU hW => ⟨rfl, by rw [hU], by rw [hU]; exact hP, va_K.moved hW.alike hK, hD.weaken (fun _ _ _ _ => trivial)⟩⟩ rfl rfl hl.1 rfl (lv_room (Nat.le_of_ble_eq_true rfl)) dX1_place_26 ⟨Nat.le_of_ble_eq_true rfl, Nat.le_of_ble_eq_true rfl⟩) hS (fun q _ h => hFc q h) hFc (fun r_3 u t H1 locs ht hvm hw hB hz1 hk1 hS => ?_)
        rw [fX1_fail] at hw
        cases hw
        obtain ⟨hP1, hK1, hD1⟩ := hB
        rw [ht] at hP1
        obtain ⟨hP, hD⟩ := va_join (wr := []) (w1 := (mW mh0 mh1 mh2 mh3 mc1 mc2 mc3 mk1 mk2 mk3 1 mf1 mf2 mf3 mf4 mf5 mf6 mf7 mf8 mf9)) hP hD [0, 1, 2, 3] [] rfl rfl (by decide) (by decide) hk1 hFc hP1 hD1
        generalize H1 = H at hP hS ⊢
        have hP : va_P (dC, dI) vwCl (mW mh0 mh1 mh2 mh3 mc1 mc2 mc3 mk1 mk2 mk3 1 mf1 mf2 mf3 mf4 mf5 mf6 mf7 mf8 mf9) H := hP
        have hD : va_D A (mW mh0 mh1 mh2 mh3 mc1 mc2 mc3 mk1 mk2 mk3 1 mf1 mf2 mf3 mf4 mf5 mf6 mf7 mf8 mf9) := hD
        exact W.iret (v := 0) hx hb hr (fun t ht hW => ⟨⟨0, (mk1, mk2, mk3, 1, mf1, mf2, mf3, mf4, mf5, mf6, mf7, mf8, mf9), rfl, (by rw [fX1_place, if_neg c_1, if_neg c_2, if_pos c_3]), by rw [ht]; exact hP, va_K.moved hW.alike hK, hD⟩, hS.F ht⟩) hS.2.2 dX1_place_29
      · refine lv_iload_n hx hb dX1_place_18 rfl (lv_at hl 2 rfl) ?_
        refine lv_bipush (v := 31) hx hb dX1_place_19 (by decide) ?_
        refine lv_icmp_le (tgt := 30) hx hb dX1_place_21 (by decide) (fun c_4 => ?_) (fun c_4 => ?_)
        · refine lv_iload_n hx hb dX1_place_30 rfl (lv_at hl 1 rfl) ?_
          refine lv_if_ne (tgt := 39) hx hb dX1_place_31 (by decide) (fun c_5 => ?_) (fun c_5 => ?_)
          · refine lv_iload_n hx hb dX1_place_39 rfl (lv_at hl 1 rfl) ?_
            refine lv_iconst (v := 1) hx hb dX1_place_40 (by decide) ?_
            refine lv_icmp_ne (tgt := 51) hx hb dX1_place_41 (by decide) (fun c_6 => ?_) (fun c_6 => ?_)
            · refine lv_aload_n hx hb dX1_place_51 rfl (lv_at hl 0 rfl) ?_
              refine va_get (D := (dC, dI)) (ci := 1) (v := .int mf6) (C := RX1) (T := TX1) (N := 13) hx hb htG inX1 hown hK hP 0 rfl rfl 6 (by decide) (htG _ wd_337) (fun _ h9 => h9) rfl dX1_place_52 ?_
              refine lv_istore_n (lv' := [(3, .int mf6), (0, .ref mh0), (1, .int p0), (2, .int p1)]) hx hb dX1_place_55 rfl hl (by decide) rfl (fun ls hl => ?_)
              refine lv_iload_n hx hb dX1_place_56 rfl (lv_at hl 0 rfl) ?_
              refine lv_iload_n hx hb dX1_place_57 rfl (lv_at hl 3 rfl) ?_
              refine lv_ishr hx hb dX1_place_58 ?_
              refine lv_iconst (v := 1) hx hb dX1_place_59 (by decide) ?_
              refine lv_iand hx hb dX1_place_60 ?_
              refine lv_if_ne (tgt := 66) hx hb dX1_place_61 (by decide) (fun c_7 => ?_) (fun c_7 => ?_)
              · refine lv_iload_n hx hb dX1_place_66 rfl (lv_at hl 2 rfl) ?_
                refine lv_iconst (v := 1) hx hb dX1_place_67 (by decide) ?_
                refine lv_icmp_ne (tgt := 85) hx hb dX1_place_68 (by decide) (fun c_8 => ?_) (fun c_8 => ?_)
                · refine lv_aload_n hx hb dX1_place_85 rfl (lv_at hl 1 rfl) ?_
                  refine vp_callSi (va_runV (As := []) (rest := []) ⟨hx, hb, hml, hown, htG⟩ (mX1_fractionsAt l dC dI mh0 mh1 mh2 mh3 mc1 mc2 mc3 mk1 mk2 mk3 0 mf1 mf2 mf3 mf4 mf5 mf6 mf7 mf8 mf9) (cwV 0 htG (wG_V wd_450 wd_452 wd_20 wd_23 wd_453) rfl rfl rfl (by decide +kernel) ⟨Nat.le_of_ble_eq_true rfl, Nat.le_of_ble_eq_true rfl⟩) ⟨fun a U g mk q => by obtain ⟨q0, qP, qK⟩ := q; exact ⟨q0, qP, va_K.moved (u := U) (U := U.calling g mk a) (Vm.Alike.refl U.vm) qK⟩, va_recv hK hP (ci := 1) (q0 := 0) rfl rfl, fun U hU hW => ⟨rfl, by rw [hU]; exact hP, va_K.moved hW.alike hK⟩⟩ rfl rfl hl.1 rfl (lv_room (Nat.le_of_ble_eq_true rfl)) dX1_place_86 ⟨Nat.le_of_ble_eq_true rfl, Nat.le_of_ble_eq_true rfl⟩).run (fun r_4 er_4 => ?_)
                  subst er_4
                  refine lv_iload_n hx hb dX1_place_89 rfl (lv_at hl 0 rfl) ?_
                  refine lv_iload_n hx hb dX1_place_90 rfl (lv_at hl 3 rfl) ?_
                  refine lv_bipush (v := 8) hx hb dX1_place_91 (by decide) ?_
                  refine vp_callSi (va_runS (As := [.int mf6, .int p1, .int 8]) (rest := [.int (fX1_fractionsAt mf7 mf8)]) ⟨hx, hb, hml, hown, htG⟩ (mX1_saved l mf6 p1 8) (va_cwS 3 htG (wG_S wd_454 wd_455 wd_23 wd_456) rfl rfl rfl (by decide +kernel) ⟨Nat.le_of_ble_eq_true rfl, Nat.le_of_ble_eq_true rfl⟩) ⟨fun _ _ _ _ q => q, fun U hU hW => ⟨rfl, trivial⟩⟩ rfl rfl hl.1 rfl (lv_room (Nat.le_of_ble_eq_true rfl)) dX1_place_93 ⟨Nat.le_of_ble_eq_true rfl, Nat.le_of_ble_eq_true rfl⟩).run (fun r_5 er_5 => ?_)
                  subst er_5
                  refine lv_iadd hx hb dX1_place_96 ?_
                  exact W.iret (v := ((fX1_fractionsAt mf7 mf8) + (fX1_saved mf6 p1 8))) hx hb hr (fun t ht hW => ⟨⟨((fX1_fractionsAt mf7 mf8) + (fX1_saved mf6 p1 8)), (mk1, mk2, mk3, 0, mf1, mf2, mf3, mf4, mf5, mf6, mf7, mf8, mf9), rfl, (by rw [fX1_place, if_neg c_1, if_neg c_2, if_neg c_3, if_pos c_4, if_neg c_5, if_neg c_6, if_neg c_7]), by rw [ht]; exact hP, va_K.moved hW.alike hK, hD⟩, hS.F ht⟩) hS.2.2 dX1_place_97
                · exact absurd c_8 c_6
              · refine lv_iconst (v := (-1)) hx hb dX1_place_64 (by decide) ?_
                exact W.iret (v := (-1)) hx hb hr (fun t ht hW => ⟨⟨(-1), (mk1, mk2, mk3, 0, mf1, mf2, mf3, mf4, mf5, mf6, mf7, mf8, mf9), rfl, (by rw [fX1_place, if_neg c_1, if_neg c_2, if_neg c_3, if_pos c_4, if_neg c_5, if_neg c_6, if_pos c_7]), by rw [ht]; exact hP, va_K.moved hW.alike hK, hD⟩, hS.F ht⟩) hS.2.2 dX1_place_65
            · refine lv_aload_n hx hb dX1_place_44 rfl (lv_at hl 0 rfl) ?_
              refine va_get (D := (dC, dI)) (ci := 1) (v := .int mf5) (C := RX1) (T := TX1) (N := 13) hx hb htG inX1 hown hK hP 0 rfl rfl 5 (by decide) (htG _ wd_336) (fun _ h9 => h9) rfl dX1_place_45 ?_
              refine lv_goto (tgt := 55) hx hb dX1_place_48 (by decide) ?_
              refine lv_istore_n (lv' := [(3, .int mf5), (0, .ref mh0), (1, .int p0), (2, .int p1)]) hx hb dX1_place_55 rfl hl (by decide) rfl (fun ls hl => ?_)
              refine lv_iload_n hx hb dX1_place_56 rfl (lv_at hl 0 rfl) ?_
              refine lv_iload_n hx hb dX1_place_57 rfl (lv_at hl 3 rfl) ?_
              refine lv_ishr hx hb dX1_place_58 ?_
              refine lv_iconst (v := 1) hx hb dX1_place_59 (by decide) ?_
              refine lv_iand hx hb dX1_place_60 ?_
              refine lv_if_ne (tgt := 66) hx hb dX1_place_61 (by decide) (fun c_9 => ?_) (fun c_9 => ?_)
              · refine lv_iload_n hx hb dX1_place_66 rfl (lv_at hl 2 rfl) ?_
                refine lv_iconst (v := 1) hx hb dX1_place_67 (by decide) ?_
                refine lv_icmp_ne (tgt := 85) hx hb dX1_place_68 (by decide) (fun c_10 => ?_) (fun c_10 => ?_)
                · exact absurd c_6 c_10
                · refine lv_aload_n hx hb dX1_place_71 rfl (lv_at hl 1 rfl) ?_
                  refine vp_callSi (va_runV (As := []) (rest := []) ⟨hx, hb, hml, hown, htG⟩ (mX1_generalAt l dC dI mh0 mh1 mh2 mh3 mc1 mc2 mc3 mk1 mk2 mk3 0 mf1 mf2 mf3 mf4 mf5 mf6 mf7 mf8 mf9) (cwV 0 htG (wG_V wd_446 wd_448 wd_19 wd_23 wd_449) rfl rfl rfl (by decide +kernel) ⟨Nat.le_of_ble_eq_true rfl, Nat.le_of_ble_eq_true rfl⟩) ⟨fun a U g mk q => by obtain ⟨q0, qP, qK⟩ := q; exact ⟨q0, qP, va_K.moved (u := U) (U := U.calling g mk a) (Vm.Alike.refl U.vm) qK⟩, va_recv hK hP (ci := 1) (q0 := 0) rfl rfl, fun U hU hW => ⟨rfl, by rw [hU]; exact hP, va_K.moved hW.alike hK⟩⟩ rfl rfl hl.1 rfl (lv_room (Nat.le_of_ble_eq_true rfl)) dX1_place_72 ⟨Nat.le_of_ble_eq_true rfl, Nat.le_of_ble_eq_true rfl⟩).run (fun r_6 er_6 => ?_)
                  subst er_6
                  refine lv_iload_n hx hb dX1_place_75 rfl (lv_at hl 0 rfl) ?_
                  refine lv_iload_n hx hb dX1_place_76 rfl (lv_at hl 3 rfl) ?_
                  refine lv_iconst (v := 4) hx hb dX1_place_77 (by decide) ?_
                  refine vp_callSi (va_runS (As := [.int mf5, .int p1, .int 4]) (rest := [.int (fX1_generalAt mf6 mf7 mf8)]) ⟨hx, hb, hml, hown, htG⟩ (mX1_saved l mf5 p1 4) (va_cwS 3 htG (wG_S wd_454 wd_455 wd_23 wd_456) rfl rfl rfl (by decide +kernel) ⟨Nat.le_of_ble_eq_true rfl, Nat.le_of_ble_eq_true rfl⟩) ⟨fun _ _ _ _ q => q, fun U hU hW => ⟨rfl, trivial⟩⟩ rfl rfl hl.1 rfl (lv_room (Nat.le_of_ble_eq_true rfl)) dX1_place_78 ⟨Nat.le_of_ble_eq_true rfl, Nat.le_of_ble_eq_true rfl⟩).run (fun r_7 er_7 => ?_)
                  subst er_7
                  refine lv_iadd hx hb dX1_place_81 ?_
                  refine lv_goto (tgt := 97) hx hb dX1_place_82 (by decide) ?_
                  exact W.iret (v := ((fX1_generalAt mf6 mf7 mf8) + (fX1_saved mf5 p1 4))) hx hb hr (fun t ht hW => ⟨⟨((fX1_generalAt mf6 mf7 mf8) + (fX1_saved mf5 p1 4)), (mk1, mk2, mk3, 0, mf1, mf2, mf3, mf4, mf5, mf6, mf7, mf8, mf9), rfl, (by rw [fX1_place, if_neg c_1, if_neg c_2, if_neg c_3, if_pos c_4, if_neg c_5, if_pos c_6, if_neg c_9]), by rw [ht]; exact hP, va_K.moved hW.alike hK, hD⟩, hS.F ht⟩) hS.2.2 dX1_place_97
              · refine lv_iconst (v := (-1)) hx hb dX1_place_64 (by decide) ?_
                exact W.iret (v := (-1)) hx hb hr (fun t ht hW => ⟨⟨(-1), (mk1, mk2, mk3, 0, mf1, mf2, mf3, mf4, mf5, mf6, mf7, mf8, mf9), rfl, (by rw [fX1_place, if_neg c_1, if_neg c_2, if_neg c_3, if_pos c_4, if_neg c_5, if_pos c_6, if_pos c_9]), by rw [ht]; exact hP, va_K.moved hW.alike hK, hD⟩, hS.F ht⟩) hS.2.2 dX1_place_65
          · refine lv_aload_n hx hb dX1_place_34 rfl (lv_at hl 0 rfl) ?_
            refine va_get (D := (dC, dI)) (ci := 1) (v := .int mf8) (C := RX1) (T := TX1) (N := 13) hx hb htG inX1 hown hK hP 0 rfl rfl 8 (by decide) (htG _ wd_339) (fun _ h9 => h9) rfl dX1_place_35 ?_
            exact W.iret (v := mf8) hx hb hr (fun t ht hW => ⟨⟨mf8, (mk1, mk2, mk3, 0, mf1, mf2, mf3, mf4, mf5, mf6, mf7, mf8, mf9), rfl, (by rw [fX1_place, if_neg c_1, if_neg c_2, if_neg c_3, if_pos c_4, if_pos c_5]), by rw [ht]; exact hP, va_K.moved hW.alike hK, hD⟩, hS.F ht⟩) hS.2.2 dX1_place_38
        · refine lv_aload_n hx hb dX1_place_24 rfl (lv_at hl 0 rfl) ?_
          refine lv_iconst (v := 1) hx hb dX1_place_25 (by decide) ?_
          have hFc := va_free (wc := (mW mh0 mh1 mh2 mh3 mc1 mc2 mc3 mk1 mk2 mk3 0 mf1 mf2 mf3 mf4 mf5 mf6 mf7 mf8 mf9)) hD hS hA [0, 1, 2, 3] rfl
          refine va_calli (va_runV (As := [.int 1]) (rest := []) ⟨hx, hb, hml, hown, htG⟩ (mX1_fail l dC dI mh0 mh1 mh2 mh3 H.size mc1 mc2 mc3 mk1 mk2 mk3 0 mf1 mf2 mf3 mf4 mf5 mf6 mf7 mf8 mf9 1) (cwV 1 htG (wG_V wd_387 wd_389 wd_11 wd_23 wd_390) rfl rfl rfl (by decide +kernel) ⟨Nat.le_of_ble_eq_true rfl, Nat.le_of_ble_eq_true rfl⟩) ⟨fun a U g mk q => by obtain ⟨q0, q1, qP, qK, qD⟩ := q; exact ⟨q0, q1, qP, va_K.moved (u := U) (U := U.calling g mk a) (Vm.Alike.refl U.vm) qK, qD⟩, va_recv hK hP (ci := 1) (q0 := 0) rfl rfl, fun U hU hW => ⟨rfl, by rw [hU], by rw [hU]; exact hP, va_K.moved hW.alike hK, hD.weaken (fun _ _ _ _ => trivial)⟩⟩ rfl rfl hl.1 rfl (lv_room (Nat.le_of_ble_eq_true rfl)) dX1_place_26 ⟨Nat.le_of_ble_eq_true rfl, Nat.le_of_ble_eq_true rfl⟩) hS (fun q _ h => hFc q h) hFc (fun r_8 u t H1 locs ht hvm hw hB hz1 hk1 hS => ?_)
          rw [fX1_fail] at hw
          cases hw
          obtain ⟨hP1, hK1, hD1⟩ := hB
          rw [ht] at hP1
          obtain ⟨hP, hD⟩ := va_join (wr := []) (w1 := (mW mh0 mh1 mh2 mh3 mc1 mc2 mc3 mk1 mk2 mk3 1 mf1 mf2 mf3 mf4 mf5 mf6 mf7 mf8 mf9)) hP hD [0, 1, 2, 3] [] rfl rfl (by decide) (by decide) hk1 hFc hP1 hD1
          generalize H1 = H at hP hS ⊢
          have hP : va_P (dC, dI) vwCl (mW mh0 mh1 mh2 mh3 mc1 mc2 mc3 mk1 mk2 mk3 1 mf1 mf2 mf3 mf4 mf5 mf6 mf7 mf8 mf9) H := hP
          have hD : va_D A (mW mh0 mh1 mh2 mh3 mc1 mc2 mc3 mk1 mk2 mk3 1 mf1 mf2 mf3 mf4 mf5 mf6 mf7 mf8 mf9) := hD
          exact W.iret (v := 0) hx hb hr (fun t ht hW => ⟨⟨0, (mk1, mk2, mk3, 1, mf1, mf2, mf3, mf4, mf5, mf6, mf7, mf8, mf9), rfl, (by rw [fX1_place, if_neg c_1, if_neg c_2, if_neg c_3, if_neg c_4]), by rw [ht]; exact hP, va_K.moved hW.alike hK, hD⟩, hS.F ht⟩) hS.2.2 dX1_place_29
end
section
def fX1_frame (mk1 mk2 mk3 : Nat → Int32) (mf0 mf1 mf2 mf3 mf4 mf5 mf6 mf7 mf8 mf9 : Int32) (p0 p1 p2 : Int32) : Int32 × Int32 × mWS :=
  if p0 < 0 then (0, 0, (mk1, mk2, mk3, 1, mf1, mf2, mf3, mf4, mf5, mf6, mf7, mf8, mf9))
  else if 1000000 < p0 then (0, 0, (mk1, mk2, mk3, 1, mf1, mf2, mf3, mf4, mf5, mf6, mf7, mf8, mf9))
    else if (p1 &&& ((-1057030144) ^^^ (-1))) = 0 then (if (p2 &&& (1431306240 ^^^ (-1))) = 0 then (if mf3 ≤ 0 then (0, (fX1_filled ((fX1_generalAt p2 p0 0) + (fX1_saved p1 32 4)) 8), (mk1, mk2, mk3, 0, mf1, mf2, mf3, mf4, p1, p2, p0, 0, mf9))
          else (0, (fX1_filled ((fX1_generalAt p2 p0 mf4) + (fX1_saved (p1 ||| (-2147483648)) 32 4)) 8), (mk1, mk2, mk3, 0, mf1, mf2, mf3, mf4, (p1 ||| (-2147483648)), p2, p0, mf4, mf9)))
        else (0, 0, (mk1, mk2, mk3, 1, mf1, mf2, mf3, mf4, mf5, mf6, mf7, mf8, mf9)))
      else (0, 0, (mk1, mk2, mk3, 1, mf1, mf2, mf3, mf4, mf5, mf6, mf7, mf8, mf9))

abbrev wsX1_frame : List Cond := .code yX1_frame cX1_frame 6 (some .int) :: wG
set_option maxHeartbeats 4000000 in
set_option maxRecDepth 100000 in
theorem mX1_frame (l : Launch) (dC : Nat → ClassId) (dI : Nat → Nat → Nat) (mh0 mh1 mh2 mh3 : Nat) (sz : Nat) (mc1 mc2 mc3 : ClassId) (mk1 mk2 mk3 : Nat → Int32) (mf0 mf1 mf2 mf3 mf4 mf5 mf6 mf7 mf8 mf9 : Int32) (p0 p1 p2 : Int32)  : Met l yX1_frame wsX1_frame ({ frames := 3, cells := 0, slots := 0, locals := 61 }) (va_Pc [.ref mh0, .int p0, .int p1, .int p2] (fun U => U.heap.size = sz ∧ va_P (dC, dI) vwCl (mW mh0 mh1 mh2 mh3 mc1 mc2 mc3 mk1 mk2 mk3 mf0 mf1 mf2 mf3 mf4 mf5 mf6 mf7 mf8 mf9) U.heap ∧ va_K (dC, dI) vwCl [(mc1, .int), (mc2, .int), (mc3, .int)] U ∧ va_D (fun _ => True) (mW mh0 mh1 mh2 mh3 mc1 mc2 mc3 mk1 mk2 mk3 mf0 mf1 mf2 mf3 mf4 mf5 mf6 mf7 mf8 mf9))) (va_Qi (fun r u => (0, r, u) = fX1_frame mk1 mk2 mk3 mf0 mf1 mf2 mf3 mf4 mf5 mf6 mf7 mf8 mf9 p0 p1 p2) (mWB dC dI (va_A (mW mh0 mh1 mh2 mh3 mc1 mc2 mc3 mk1 mk2 mk3 mf0 mf1 mf2 mf3 mf4 mf5 mf6 mf7 mf8 mf9) sz) mh0 mh1 mh2 mh3 mc1 mc2 mc3) (va_A (mW mh0 mh1 mh2 mh3 mc1 mc2 mc3 mk1 mk2 mk3 mf0 mf1 mf2 mf3 mf4 mf5 mf6 mf7 mf8 mf9) sz)) 0 0 (va_A (mW mh0 mh1 mh2 mh3 mc1 mc2 mc3 mk1 mk2 mk3 mf0 mf1 mf2 mf3 mf4 mf5 mf6 mf7 mf8 mf9) sz) := by
  refine Met.ofW (cc := cX1_frame) (maxL := 6) (ret := (some .int)) (by decide) rfl ?_
  intro p e s m args below meth c s₁ B hml hv
  obtain ⟨rfl, hsz, hP, hK, hD0⟩ := hv
  have hx := B.exec
  have hb := B.bytes
  have hr := B.returns
  have hts := atoms_spec (ws := wsX1_frame) B.pre
  have htG := fun (w : Cond) (h : w ∈ wG) => hts w (List.mem_cons_of_mem _ h)
  have hown : s.vm.findClass RX1 = some m.cls := findClass_of_methodNamed B.named
  have hlocks := B.notSynchronized
  subst hsz
  have hD := hD0.self (sz := s.heap.size)
  generalize hAe : va_A (mW mh0 mh1 mh2 mh3 mc1 mc2 mc3 mk1 mk2 mk3 mf0 mf1 mf2 mf3 mf4 mf5 mf6 mf7 mf8 mf9) s.heap.size = A at hD ⊢
  have hA : ∀ q : Nat, s.heap.size ≤ q → A q := fun q h => by rw [← hAe]; exact Or.inr h
  have hS : va_S A s.heap s.heap [] := va_S.rf
  have hP : va_P (dC, dI) vwCl (mW mh0 mh1 mh2 mh3 mc1 mc2 mc3 mk1 mk2 mk3 mf0 mf1 mf2 mf3 mf4 mf5 mf6 mf7 mf8 mf9) s.heap := hP
  have hl := lv_entry ([.ref mh0, .int p0, .int p1, .int p2]) (n := 6) (Nat.le_of_ble_eq_true rfl)
  rw [lg_entry_eq]
  generalize (lg_sl ([.ref mh0, .int p0, .int p1, .int p2]) ++ List.replicate (6 - (lg_sl ([.ref mh0, .int p0, .int p1, .int p2])).length) Slot.unset).toArray = ls at hl ⊢
  have hl : lv_has ls 6 [(0, .ref mh0), (1, .int p0), (2, .int p1), (3, .int p2)] := hl
  refine lv_aload_n hx hb dX1_frame_0 rfl (lv_at hl 0 rfl) ?_
  refine lv_iconst (v := 0) hx hb dX1_frame_1 (by decide) ?_
  refine va_put (D := (dC, dI)) (ci := 1) (v := .int 0) (ty := .int) (C := RX1) (T := TX1) (N := 13) hx hb htG inX1 tyX1 tyX1_ok nmX1 hown hK hP hD hS 0 rfl rfl 0 (by decide) (htG _ wd_331) (fun _ h9 => h9) rfl (by decide +kernel) rfl rfl (Nat.le_of_ble_eq_true rfl) dX1_frame_2 (fun H locs hP hD hS => ?_)
  have hP : va_P (dC, dI) vwCl (mW mh0 mh1 mh2 mh3 mc1 mc2 mc3 mk1 mk2 mk3 0 mf1 mf2 mf3 mf4 mf5 mf6 mf7 mf8 mf9) H := hP
  have hD : va_D A (mW mh0 mh1 mh2 mh3 mc1 mc2 mc3 mk1 mk2 mk3 0 mf1 mf2 mf3 mf4 mf5 mf6 mf7 mf8 mf9) := hD
  refine lv_ldc (v := (-1057030144)) hx hb hown (htG _ wd_443) dX1_frame_5 ?_
  refine lv_istore (lv' := [(4, .int (-1057030144)), (0, .ref mh0), (1, .int p0), (2, .int p1), (3, .int p2)]) hx hb dX1_frame_7 hl (by decide) rfl (fun ls hl => ?_)
  refine lv_ldc (v := 1431306240) hx hb hown (htG _ wd_444) dX1_frame_9 ?_
  refine lv_istore (lv' := [(5, .int 1431306240), (4, .int (-1057030144)), (0, .ref mh0), (1, .int p0), (2, .int p1), (3, .int p2)]) hx hb dX1_frame_11 hl (by decide) rfl (fun ls hl => ?_)
  refine lv_iload_n hx hb dX1_frame_13 rfl (lv_at hl 3 rfl) ?_
  refine lv_if_lt (tgt := 41) hx hb dX1_frame_14 (by decide) (fun c_1 => ?_) (fun c_1 => ?_)
  · refine lv_aload_n hx hb dX1_frame_41 rfl (lv_at hl 2 rfl) ?_
    refine lv_iconst (v := 1) hx hb dX1_frame_42 (by decide) ?_
    have hFc := va_free (wc := (mW mh0 mh1 mh2 mh3 mc1 mc2 mc3 mk1 mk2 mk3 0 mf1 mf2 mf3 mf4 mf5 mf6 mf7 mf8 mf9)) hD hS hA [0, 1, 2, 3] rfl
    refine va_calli (va_runV (As := [.int 1]) (rest := []) ⟨hx, hb, hml, hown, htG⟩ (mX1_fail l dC dI mh0 mh1 mh2 mh3 H.size mc1 mc2 mc3 mk1 mk2 mk3 0 mf1 mf2 mf3 mf4 mf5 mf6 mf7 mf8 mf9 1) (cwV 1 htG (wG_V wd_387 wd_389 wd_11 wd_23 wd_390) rfl rfl rfl (by decide +kernel) ⟨Nat.le_of_ble_eq_true rfl, Nat.le_of_ble_eq_true rfl⟩) ⟨fun a U g mk q => by obtain ⟨q0, q1, qP, qK, qD⟩ := q; exact ⟨q0, q1, qP, va_K.moved (u := U) (U := U.calling g mk a) (Vm.Alike.refl U.vm) qK, qD⟩, va_recv hK hP (ci := 1) (q0 := 0) rfl rfl, fun U hU hW => ⟨rfl, by rw [hU], by rw [hU]; exact hP, va_K.moved hW.alike hK, hD.weaken (fun _ _ _ _ => trivial)⟩⟩ rfl rfl hl.1 rfl (lv_room (Nat.le_of_ble_eq_true rfl)) dX1_frame_43 ⟨Nat.le_of_ble_eq_true rfl, Nat.le_of_ble_eq_true rfl⟩) hS (fun q _ h => hFc q h) hFc (fun r_1 u t H1 locs ht hvm hw hB hz1 hk1 hS => ?_)
    rw [fX1_fail] at hw
    cases hw
    obtain ⟨hP1, hK1, hD1⟩ := hB
    rw [ht] at hP1
    obtain ⟨hP, hD⟩ := va_join (wr := []) (w1 := (mW mh0 mh1 mh2 mh3 mc1 mc2 mc3 mk1 mk2 mk3 1 mf1 mf2 mf3 mf4 mf5 mf6 mf7 mf8 mf9)) hP hD [0, 1, 2, 3] [] rfl rfl (by decide) (by decide) hk1 hFc hP1 hD1
    generalize H1 = H at hP hS ⊢
    have hP : va_P (dC, dI) vwCl (mW mh0 mh1 mh2 mh3 mc1 mc2 mc3 mk1 mk2 mk3 1 mf1 mf2 mf3 mf4 mf5 mf6 mf7 mf8 mf9) H := hP
    have hD : va_D A (mW mh0 mh1 mh2 mh3 mc1 mc2 mc3 mk1 mk2 mk3 1 mf1 mf2 mf3 mf4 mf5 mf6 mf7 mf8 mf9) := hD
    exact W.iret (v := 0) hx hb hr (fun t ht hW => ⟨⟨0, (mk1, mk2, mk3, 1, mf1, mf2, mf3, mf4, mf5, mf6, mf7, mf8, mf9), rfl, (by rw [fX1_frame, if_pos c_1]), by rw [ht]; exact hP, va_K.moved hW.alike hK, hD⟩, hS.F ht⟩) hS.2.2 dX1_frame_46
  · refine lv_iload_n hx hb dX1_frame_17 rfl (lv_at hl 3 rfl) ?_
    refine lv_ldc (v := 1000000) hx hb hown (htG _ wd_406) dX1_frame_18 ?_
    refine lv_icmp_gt (tgt := 41) hx hb dX1_frame_20 (by decide) (fun c_2 => ?_) (fun c_2 => ?_)
    · refine lv_aload_n hx hb dX1_frame_41 rfl (lv_at hl 2 rfl) ?_
      refine lv_iconst (v := 1) hx hb dX1_frame_42 (by decide) ?_
      have hFc := va_free (wc := (mW mh0 mh1 mh2 mh3 mc1 mc2 mc3 mk1 mk2 mk3 0 mf1 mf2 mf3 mf4 mf5 mf6 mf7 mf8 mf9)) hD hS hA [0, 1, 2, 3] rfl
      refine va_calli (va_runV (As := [.int 1]) (rest := []) ⟨hx, hb, hml, hown, htG⟩ (mX1_fail l dC dI mh0 mh1 mh2 mh3 H.size mc1 mc2 mc3 mk1 mk2 mk3 0 mf1 mf2 mf3 mf4 mf5 mf6 mf7 mf8 mf9 1) (cwV 1 htG (wG_V wd_387 wd_389 wd_11 wd_23 wd_390) rfl rfl rfl (by decide +kernel) ⟨Nat.le_of_ble_eq_true rfl, Nat.le_of_ble_eq_true rfl⟩) ⟨fun a U g mk q => by obtain ⟨q0, q1, qP, qK, qD⟩ := q; exact ⟨q0, q1, qP, va_K.moved (u := U) (U := U.calling g mk a) (Vm.Alike.refl U.vm) qK, qD⟩, va_recv hK hP (ci := 1) (q0 := 0) rfl rfl, fun U hU hW => ⟨rfl, by rw [hU], by rw [hU]; exact hP, va_K.moved hW.alike hK, hD.weaken (fun _ _ _ _ => trivial)⟩⟩ rfl rfl hl.1 rfl (lv_room (Nat.le_of_ble_eq_true rfl)) dX1_frame_43 ⟨Nat.le_of_ble_eq_true rfl, Nat.le_of_ble_eq_true rfl⟩) hS (fun q _ h => hFc q h) hFc (fun r_2 u t H1 locs ht hvm hw hB hz1 hk1 hS => ?_)
      rw [fX1_fail] at hw
      cases hw
      obtain ⟨hP1, hK1, hD1⟩ := hB
      rw [ht] at hP1
      obtain ⟨hP, hD⟩ := va_join (wr := []) (w1 := (mW mh0 mh1 mh2 mh3 mc1 mc2 mc3 mk1 mk2 mk3 1 mf1 mf2 mf3 mf4 mf5 mf6 mf7 mf8 mf9)) hP hD [0, 1, 2, 3] [] rfl rfl (by decide) (by decide) hk1 hFc hP1 hD1
      generalize H1 = H at hP hS ⊢
      have hP : va_P (dC, dI) vwCl (mW mh0 mh1 mh2 mh3 mc1 mc2 mc3 mk1 mk2 mk3 1 mf1 mf2 mf3 mf4 mf5 mf6 mf7 mf8 mf9) H := hP
      have hD : va_D A (mW mh0 mh1 mh2 mh3 mc1 mc2 mc3 mk1 mk2 mk3 1 mf1 mf2 mf3 mf4 mf5 mf6 mf7 mf8 mf9) := hD
      exact W.iret (v := 0) hx hb hr (fun t ht hW => ⟨⟨0, (mk1, mk2, mk3, 1, mf1, mf2, mf3, mf4, mf5, mf6, mf7, mf8, mf9), rfl, (by rw [fX1_frame, if_neg c_1, if_pos c_2]), by rw [ht]; exact hP, va_K.moved hW.alike hK, hD⟩, hS.F ht⟩) hS.2.2 dX1_frame_46
    · refine lv_iload_n hx hb dX1_frame_23 rfl (lv_at hl 4 rfl) ?_
      refine lv_iload hx hb dX1_frame_24 (lv_at hl 1 rfl) ?_
      refine lv_iconst (v := (-1)) hx hb dX1_frame_26 (by decide) ?_
      refine lv_ixor hx hb dX1_frame_27 ?_
      refine lv_iand hx hb dX1_frame_28 ?_
      refine lv_if_ne (tgt := 41) hx hb dX1_frame_29 (by decide) (fun c_3 => ?_) (fun c_3 => ?_)
      · refine lv_aload_n hx hb dX1_frame_41 rfl (lv_at hl 2 rfl) ?_
        refine lv_iconst (v := 1) hx hb dX1_frame_42 (by decide) ?_
        have hFc := va_free (wc := (mW mh0 mh1 mh2 mh3 mc1 mc2 mc3 mk1 mk2 mk3 0 mf1 mf2 mf3 mf4 mf5 mf6 mf7 mf8 mf9)) hD hS hA [0, 1, 2, 3] rfl
        refine va_calli (va_runV (As := [.int 1]) (rest := []) ⟨hx, hb, hml, hown, htG⟩ (mX1_fail l dC dI mh0 mh1 mh2 mh3 H.size mc1 mc2 mc3 mk1 mk2 mk3 0 mf1 mf2 mf3 mf4 mf5 mf6 mf7 mf8 mf9 1) (cwV 1 htG (wG_V wd_387 wd_389 wd_11 wd_23 wd_390) rfl rfl rfl (by decide +kernel) ⟨Nat.le_of_ble_eq_true rfl, Nat.le_of_ble_eq_true rfl⟩) ⟨fun a U g mk q => by obtain ⟨q0, q1, qP, qK, qD⟩ := q; exact ⟨q0, q1, qP, va_K.moved (u := U) (U := U.calling g mk a) (Vm.Alike.refl U.vm) qK, qD⟩, va_recv hK hP (ci := 1) (q0 := 0) rfl rfl, fun U hU hW => ⟨rfl, by rw [hU], by rw [hU]; exact hP, va_K.moved hW.alike hK, hD.weaken (fun _ _ _ _ => trivial)⟩⟩ rfl rfl hl.1 rfl (lv_room (Nat.le_of_ble_eq_true rfl)) dX1_frame_43 ⟨Nat.le_of_ble_eq_true rfl, Nat.le_of_ble_eq_true rfl⟩) hS (fun q _ h => hFc q h) hFc (fun r_3 u t H1 locs ht hvm hw hB hz1 hk1 hS => ?_)
        rw [fX1_fail] at hw
        cases hw
        obtain ⟨hP1, hK1, hD1⟩ := hB
        rw [ht] at hP1
        obtain ⟨hP, hD⟩ := va_join (wr := []) (w1 := (mW mh0 mh1 mh2 mh3 mc1 mc2 mc3 mk1 mk2 mk3 1 mf1 mf2 mf3 mf4 mf5 mf6 mf7 mf8 mf9)) hP hD [0, 1, 2, 3] [] rfl rfl (by decide) (by decide) hk1 hFc hP1 hD1
        generalize H1 = H at hP hS ⊢
        have hP : va_P (dC, dI) vwCl (mW mh0 mh1 mh2 mh3 mc1 mc2 mc3 mk1 mk2 mk3 1 mf1 mf2 mf3 mf4 mf5 mf6 mf7 mf8 mf9) H := hP
        have hD : va_D A (mW mh0 mh1 mh2 mh3 mc1 mc2 mc3 mk1 mk2 mk3 1 mf1 mf2 mf3 mf4 mf5 mf6 mf7 mf8 mf9) := hD
        exact W.iret (v := 0) hx hb hr (fun t ht hW => ⟨⟨0, (mk1, mk2, mk3, 1, mf1, mf2, mf3, mf4, mf5, mf6, mf7, mf8, mf9), rfl, (by rw [fX1_frame, if_neg c_1, if_neg c_2, if_neg c_3]), by rw [ht]; exact hP, va_K.moved hW.alike hK, hD⟩, hS.F ht⟩) hS.2.2 dX1_frame_46
      · refine lv_iload_n hx hb dX1_frame_32 rfl (lv_at hl 5 rfl) ?_
        refine lv_iload hx hb dX1_frame_33 (lv_at hl 0 rfl) ?_
        refine lv_iconst (v := (-1)) hx hb dX1_frame_35 (by decide) ?_
        refine lv_ixor hx hb dX1_frame_36 ?_
        refine lv_iand hx hb dX1_frame_37 ?_
        refine lv_if_eq (tgt := 47) hx hb dX1_frame_38 (by decide) (fun c_4 => ?_) (fun c_4 => ?_)
        · refine lv_aload_n hx hb dX1_frame_47 rfl (lv_at hl 2 rfl) ?_
          refine lv_aload_n hx hb dX1_frame_48 rfl (lv_at hl 2 rfl) ?_
          refine va_get (D := (dC, dI)) (ci := 1) (v := .int mf3) (C := RX1) (T := TX1) (N := 13) hx hb htG inX1 hown hK hP 0 rfl rfl 3 (by decide) (htG _ wd_334) (fun _ h9 => h9) rfl dX1_frame_49 ?_
          refine lv_if_le (tgt := 62) hx hb dX1_frame_52 (by decide) (fun c_5 => ?_) (fun c_5 => ?_)
          · refine lv_iconst (v := 0) hx hb dX1_frame_62 (by decide) ?_
            refine va_put (D := (dC, dI)) (ci := 1) (v := .int 0) (ty := .int) (C := RX1) (T := TX1) (N := 13) hx hb htG inX1 tyX1 tyX1_ok nmX1 hown hK hP hD hS 0 rfl rfl 8 (by decide) (htG _ wd_339) (fun _ h9 => h9) rfl (by decide +kernel) rfl rfl (Nat.le_of_ble_eq_true rfl) dX1_frame_63 (fun H locs hP hD hS => ?_)
            have hP : va_P (dC, dI) vwCl (mW mh0 mh1 mh2 mh3 mc1 mc2 mc3 mk1 mk2 mk3 0 mf1 mf2 mf3 mf4 mf5 mf6 mf7 0 mf9) H := hP
            have hD : va_D A (mW mh0 mh1 mh2 mh3 mc1 mc2 mc3 mk1 mk2 mk3 0 mf1 mf2 mf3 mf4 mf5 mf6 mf7 0 mf9) := hD
            refine lv_aload_n hx hb dX1_frame_66 rfl (lv_at hl 2 rfl) ?_
            refine lv_iload_n hx hb dX1_frame_67 rfl (lv_at hl 3 rfl) ?_
            refine va_put (D := (dC, dI)) (ci := 1) (v := .int p0) (ty := .int) (C := RX1) (T := TX1) (N := 13) hx hb htG inX1 tyX1 tyX1_ok nmX1 hown hK hP hD hS 0 rfl rfl 7 (by decide) (htG _ wd_338) (fun _ h9 => h9) rfl (by decide +kernel) rfl rfl (Nat.le_of_ble_eq_true rfl) dX1_frame_68 (fun H locs hP hD hS => ?_)
            have hP : va_P (dC, dI) vwCl (mW mh0 mh1 mh2 mh3 mc1 mc2 mc3 mk1 mk2 mk3 0 mf1 mf2 mf3 mf4 mf5 mf6 p0 0 mf9) H := hP
            have hD : va_D A (mW mh0 mh1 mh2 mh3 mc1 mc2 mc3 mk1 mk2 mk3 0 mf1 mf2 mf3 mf4 mf5 mf6 p0 0 mf9) := hD
            refine lv_aload_n hx hb dX1_frame_71 rfl (lv_at hl 2 rfl) ?_
            refine lv_aload_n hx hb dX1_frame_72 rfl (lv_at hl 2 rfl) ?_
            refine va_get (D := (dC, dI)) (ci := 1) (v := .int mf3) (C := RX1) (T := TX1) (N := 13) hx hb htG inX1 hown hK hP 0 rfl rfl 3 (by decide) (htG _ wd_334) (fun _ h9 => h9) rfl dX1_frame_73 ?_
            refine lv_if_le (tgt := 86) hx hb dX1_frame_76 (by decide) (fun c_6 => ?_) (fun c_6 => ?_)
            · refine lv_iload_n hx hb dX1_frame_86 rfl (lv_at hl 4 rfl) ?_
              refine va_put (D := (dC, dI)) (ci := 1) (v := .int p1) (ty := .int) (C := RX1) (T := TX1) (N := 13) hx hb htG inX1 tyX1 tyX1_ok nmX1 hown hK hP hD hS 0 rfl rfl 5 (by decide) (htG _ wd_336) (fun _ h9 => h9) rfl (by decide +kernel) rfl rfl (Nat.le_of_ble_eq_true rfl) dX1_frame_87 (fun H locs hP hD hS => ?_)
              have hP : va_P (dC, dI) vwCl (mW mh0 mh1 mh2 mh3 mc1 mc2 mc3 mk1 mk2 mk3 0 mf1 mf2 mf3 mf4 p1 mf6 p0 0 mf9) H := hP
              have hD : va_D A (mW mh0 mh1 mh2 mh3 mc1 mc2 mc3 mk1 mk2 mk3 0 mf1 mf2 mf3 mf4 p1 mf6 p0 0 mf9) := hD
              refine lv_aload_n hx hb dX1_frame_90 rfl (lv_at hl 2 rfl) ?_
              refine lv_iload_n hx hb dX1_frame_91 rfl (lv_at hl 5 rfl) ?_
              refine va_put (D := (dC, dI)) (ci := 1) (v := .int p2) (ty := .int) (C := RX1) (T := TX1) (N := 13) hx hb htG inX1 tyX1 tyX1_ok nmX1 hown hK hP hD hS 0 rfl rfl 6 (by decide) (htG _ wd_337) (fun _ h9 => h9) rfl (by decide +kernel) rfl rfl (Nat.le_of_ble_eq_true rfl) dX1_frame_92 (fun H locs hP hD hS => ?_)
              have hP : va_P (dC, dI) vwCl (mW mh0 mh1 mh2 mh3 mc1 mc2 mc3 mk1 mk2 mk3 0 mf1 mf2 mf3 mf4 p1 p2 p0 0 mf9) H := hP
              have hD : va_D A (mW mh0 mh1 mh2 mh3 mc1 mc2 mc3 mk1 mk2 mk3 0 mf1 mf2 mf3 mf4 p1 p2 p0 0 mf9) := hD
              refine lv_aload_n hx hb dX1_frame_95 rfl (lv_at hl 2 rfl) ?_
              refine vp_callSi (va_runV (As := []) (rest := []) ⟨hx, hb, hml, hown, htG⟩ (mX1_generalAt l dC dI mh0 mh1 mh2 mh3 mc1 mc2 mc3 mk1 mk2 mk3 0 mf1 mf2 mf3 mf4 p1 p2 p0 0 mf9) (cwV 0 htG (wG_V wd_446 wd_448 wd_19 wd_23 wd_449) rfl rfl rfl (by decide +kernel) ⟨Nat.le_of_ble_eq_true rfl, Nat.le_of_ble_eq_true rfl⟩) ⟨fun a U g mk q => by obtain ⟨q0, qP, qK⟩ := q; exact ⟨q0, qP, va_K.moved (u := U) (U := U.calling g mk a) (Vm.Alike.refl U.vm) qK⟩, va_recv hK hP (ci := 1) (q0 := 0) rfl rfl, fun U hU hW => ⟨rfl, by rw [hU]; exact hP, va_K.moved hW.alike hK⟩⟩ rfl rfl hl.1 rfl (lv_room (Nat.le_of_ble_eq_true rfl)) dX1_frame_96 ⟨Nat.le_of_ble_eq_true rfl, Nat.le_of_ble_eq_true rfl⟩).run (fun r_4 er_4 => ?_)
              subst er_4
              refine lv_aload_n hx hb dX1_frame_99 rfl (lv_at hl 2 rfl) ?_
              refine va_get (D := (dC, dI)) (ci := 1) (v := .int p1) (C := RX1) (T := TX1) (N := 13) hx hb htG inX1 hown hK hP 0 rfl rfl 5 (by decide) (htG _ wd_336) (fun _ h9 => h9) rfl dX1_frame_100 ?_
              refine lv_bipush (v := 32) hx hb dX1_frame_103 (by decide) ?_
              refine lv_iconst (v := 4) hx hb dX1_frame_105 (by decide) ?_
              refine vp_callSi (va_runS (As := [.int p1, .int 32, .int 4]) (rest := [.int (fX1_generalAt p2 p0 0)]) ⟨hx, hb, hml, hown, htG⟩ (mX1_saved l p1 32 4) (va_cwS 3 htG (wG_S wd_454 wd_455 wd_23 wd_456) rfl rfl rfl (by decide +kernel) ⟨Nat.le_of_ble_eq_true rfl, Nat.le_of_ble_eq_true rfl⟩) ⟨fun _ _ _ _ q => q, fun U hU hW => ⟨rfl, trivial⟩⟩ rfl rfl hl.1 rfl (lv_room (Nat.le_of_ble_eq_true rfl)) dX1_frame_106 ⟨Nat.le_of_ble_eq_true rfl, Nat.le_of_ble_eq_true rfl⟩).run (fun r_5 er_5 => ?_)
              subst er_5
              refine lv_iadd hx hb dX1_frame_109 ?_
              refine lv_bipush (v := 8) hx hb dX1_frame_110 (by decide) ?_
              refine vp_callSi (va_runS (As := [.int ((fX1_generalAt p2 p0 0) + (fX1_saved p1 32 4)), .int 8]) (rest := []) ⟨hx, hb, hml, hown, htG⟩ (mX1_filled l ((fX1_generalAt p2 p0 0) + (fX1_saved p1 32 4)) 8 (by decide)) (va_cwS 2 htG (wG_S wd_399 wd_400 wd_23 wd_401) rfl rfl rfl (by decide +kernel) ⟨Nat.le_of_ble_eq_true rfl, Nat.le_of_ble_eq_true rfl⟩) ⟨fun _ _ _ _ q => q, fun U hU hW => ⟨rfl, trivial⟩⟩ rfl rfl hl.1 rfl (lv_room (Nat.le_of_ble_eq_true rfl)) dX1_frame_112 ⟨Nat.le_of_ble_eq_true rfl, Nat.le_of_ble_eq_true rfl⟩).run (fun r_6 er_6 => ?_)
              subst er_6
              exact W.iret (v := (fX1_filled ((fX1_generalAt p2 p0 0) + (fX1_saved p1 32 4)) 8)) hx hb hr (fun t ht hW => ⟨⟨(fX1_filled ((fX1_generalAt p2 p0 0) + (fX1_saved p1 32 4)) 8), (mk1, mk2, mk3, 0, mf1, mf2, mf3, mf4, p1, p2, p0, 0, mf9), rfl, (by rw [fX1_frame, if_neg c_1, if_neg c_2, if_pos c_3, if_pos c_4, if_pos c_5]), by rw [ht]; exact hP, va_K.moved hW.alike hK, hD⟩, hS.F ht⟩) hS.2.2 dX1_frame_115
            · exact absurd c_5 c_6
          · refine lv_aload_n hx hb dX1_frame_55 rfl (lv_at hl 2 rfl) ?_
            refine va_get (D := (dC, dI)) (ci := 1) (v := .int mf4) (C := RX1) (T := TX1) (N := 13) hx hb htG inX1 hown hK hP 0 rfl rfl 4 (by decide) (htG _ wd_335) (fun _ h9 => h9) rfl dX1_frame_56 ?_
            refine lv_goto (tgt := 63) hx hb dX1_frame_59 (by decide) ?_
            refine va_put (D := (dC, dI)) (ci := 1) (v := .int mf4) (ty := .int) (C := RX1) (T := TX1) (N := 13) hx hb htG inX1 tyX1 tyX1_ok nmX1 hown hK hP hD hS 0 rfl rfl 8 (by decide) (htG _ wd_339) (fun _ h9 => h9) rfl (by decide +kernel) rfl rfl (Nat.le_of_ble_eq_true rfl) dX1_frame_63 (fun H locs hP hD hS => ?_)
            have hP : va_P (dC, dI) vwCl (mW mh0 mh1 mh2 mh3 mc1 mc2 mc3 mk1 mk2 mk3 0 mf1 mf2 mf3 mf4 mf5 mf6 mf7 mf4 mf9) H := hP
            have hD : va_D A (mW mh0 mh1 mh2 mh3 mc1 mc2 mc3 mk1 mk2 mk3 0 mf1 mf2 mf3 mf4 mf5 mf6 mf7 mf4 mf9) := hD
            refine lv_aload_n hx hb dX1_frame_66 rfl (lv_at hl 2 rfl) ?_
            refine lv_iload_n hx hb dX1_frame_67 rfl (lv_at hl 3 rfl) ?_
            refine va_put (D := (dC, dI)) (ci := 1) (v := .int p0) (ty := .int) (C := RX1) (T := TX1) (N := 13) hx hb htG inX1 tyX1 tyX1_ok nmX1 hown hK hP hD hS 0 rfl rfl 7 (by decide) (htG _ wd_338) (fun _ h9 => h9) rfl (by decide +kernel) rfl rfl (Nat.le_of_ble_eq_true rfl) dX1_frame_68 (fun H locs hP hD hS => ?_)
            have hP : va_P (dC, dI) vwCl (mW mh0 mh1 mh2 mh3 mc1 mc2 mc3 mk1 mk2 mk3 0 mf1 mf2 mf3 mf4 mf5 mf6 p0 mf4 mf9) H := hP
            have hD : va_D A (mW mh0 mh1 mh2 mh3 mc1 mc2 mc3 mk1 mk2 mk3 0 mf1 mf2 mf3 mf4 mf5 mf6 p0 mf4 mf9) := hD
            refine lv_aload_n hx hb dX1_frame_71 rfl (lv_at hl 2 rfl) ?_
            refine lv_aload_n hx hb dX1_frame_72 rfl (lv_at hl 2 rfl) ?_
            refine va_get (D := (dC, dI)) (ci := 1) (v := .int mf3) (C := RX1) (T := TX1) (N := 13) hx hb htG inX1 hown hK hP 0 rfl rfl 3 (by decide) (htG _ wd_334) (fun _ h9 => h9) rfl dX1_frame_73 ?_
            refine lv_if_le (tgt := 86) hx hb dX1_frame_76 (by decide) (fun c_7 => ?_) (fun c_7 => ?_)
            · exact absurd c_7 c_5
            · refine lv_iload_n hx hb dX1_frame_79 rfl (lv_at hl 4 rfl) ?_
              refine lv_ldc (v := (-2147483648)) hx hb hown (htG _ wd_445) dX1_frame_80 ?_
              refine lv_ior hx hb dX1_frame_82 ?_
              refine lv_goto (tgt := 87) hx hb dX1_frame_83 (by decide) ?_
              refine va_put (D := (dC, dI)) (ci := 1) (v := .int (p1 ||| (-2147483648))) (ty := .int) (C := RX1) (T := TX1) (N := 13) hx hb htG inX1 tyX1 tyX1_ok nmX1 hown hK hP hD hS 0 rfl rfl 5 (by decide) (htG _ wd_336) (fun _ h9 => h9) rfl (by decide +kernel) rfl rfl (Nat.le_of_ble_eq_true rfl) dX1_frame_87 (fun H locs hP hD hS => ?_)
              have hP : va_P (dC, dI) vwCl (mW mh0 mh1 mh2 mh3 mc1 mc2 mc3 mk1 mk2 mk3 0 mf1 mf2 mf3 mf4 (p1 ||| (-2147483648)) mf6 p0 mf4 mf9) H := hP
              have hD : va_D A (mW mh0 mh1 mh2 mh3 mc1 mc2 mc3 mk1 mk2 mk3 0 mf1 mf2 mf3 mf4 (p1 ||| (-2147483648)) mf6 p0 mf4 mf9) := hD
              refine lv_aload_n hx hb dX1_frame_90 rfl (lv_at hl 2 rfl) ?_
              refine lv_iload_n hx hb dX1_frame_91 rfl (lv_at hl 5 rfl) ?_
              refine va_put (D := (dC, dI)) (ci := 1) (v := .int p2) (ty := .int) (C := RX1) (T := TX1) (N := 13) hx hb htG inX1 tyX1 tyX1_ok nmX1 hown hK hP hD hS 0 rfl rfl 6 (by decide) (htG _ wd_337) (fun _ h9 => h9) rfl (by decide +kernel) rfl rfl (Nat.le_of_ble_eq_true rfl) dX1_frame_92 (fun H locs hP hD hS => ?_)
              have hP : va_P (dC, dI) vwCl (mW mh0 mh1 mh2 mh3 mc1 mc2 mc3 mk1 mk2 mk3 0 mf1 mf2 mf3 mf4 (p1 ||| (-2147483648)) p2 p0 mf4 mf9) H := hP
              have hD : va_D A (mW mh0 mh1 mh2 mh3 mc1 mc2 mc3 mk1 mk2 mk3 0 mf1 mf2 mf3 mf4 (p1 ||| (-2147483648)) p2 p0 mf4 mf9) := hD
              refine lv_aload_n hx hb dX1_frame_95 rfl (lv_at hl 2 rfl) ?_
              refine vp_callSi (va_runV (As := []) (rest := []) ⟨hx, hb, hml, hown, htG⟩ (mX1_generalAt l dC dI mh0 mh1 mh2 mh3 mc1 mc2 mc3 mk1 mk2 mk3 0 mf1 mf2 mf3 mf4 (p1 ||| (-2147483648)) p2 p0 mf4 mf9) (cwV 0 htG (wG_V wd_446 wd_448 wd_19 wd_23 wd_449) rfl rfl rfl (by decide +kernel) ⟨Nat.le_of_ble_eq_true rfl, Nat.le_of_ble_eq_true rfl⟩) ⟨fun a U g mk q => by obtain ⟨q0, qP, qK⟩ := q; exact ⟨q0, qP, va_K.moved (u := U) (U := U.calling g mk a) (Vm.Alike.refl U.vm) qK⟩, va_recv hK hP (ci := 1) (q0 := 0) rfl rfl, fun U hU hW => ⟨rfl, by rw [hU]; exact hP, va_K.moved hW.alike hK⟩⟩ rfl rfl hl.1 rfl (lv_room (Nat.le_of_ble_eq_true rfl)) dX1_frame_96 ⟨Nat.le_of_ble_eq_true rfl, Nat.le_of_ble_eq_true rfl⟩).run (fun r_7 er_7 => ?_)
              subst er_7
              refine lv_aload_n hx hb dX1_frame_99 rfl (lv_at hl 2 rfl) ?_
              refine va_get (D := (dC, dI)) (ci := 1) (v := .int (p1 ||| (-2147483648))) (C := RX1) (T := TX1) (N := 13) hx hb htG inX1 hown hK hP 0 rfl rfl 5 (by decide) (htG _ wd_336) (fun _ h9 => h9) rfl dX1_frame_100 ?_
              refine lv_bipush (v := 32) hx hb dX1_frame_103 (by decide) ?_
              refine lv_iconst (v := 4) hx hb dX1_frame_105 (by decide) ?_
              refine vp_callSi (va_runS (As := [.int (p1 ||| (-2147483648)), .int 32, .int 4]) (rest := [.int (fX1_generalAt p2 p0 mf4)]) ⟨hx, hb, hml, hown, htG⟩ (mX1_saved l (p1 ||| (-2147483648)) 32 4) (va_cwS 3 htG (wG_S wd_454 wd_455 wd_23 wd_456) rfl rfl rfl (by decide +kernel) ⟨Nat.le_of_ble_eq_true rfl, Nat.le_of_ble_eq_true rfl⟩) ⟨fun _ _ _ _ q => q, fun U hU hW => ⟨rfl, trivial⟩⟩ rfl rfl hl.1 rfl (lv_room (Nat.le_of_ble_eq_true rfl)) dX1_frame_106 ⟨Nat.le_of_ble_eq_true rfl, Nat.le_of_ble_eq_true rfl⟩).run (fun r_8 er_8 => ?_)
              subst er_8
              refine lv_iadd hx hb dX1_frame_109 ?_
              refine lv_bipush (v := 8) hx hb dX1_frame_110 (by decide) ?_
              refine vp_callSi (va_runS (As := [.int ((fX1_generalAt p2 p0 mf4) + (fX1_saved (p1 ||| (-2147483648)) 32 4)), .int 8]) (rest := []) ⟨hx, hb, hml, hown, htG⟩ (mX1_filled l ((fX1_generalAt p2 p0 mf4) + (fX1_saved (p1 ||| (-2147483648)) 32 4)) 8 (by decide)) (va_cwS 2 htG (wG_S wd_399 wd_400 wd_23 wd_401) rfl rfl rfl (by decide +kernel) ⟨Nat.le_of_ble_eq_true rfl, Nat.le_of_ble_eq_true rfl⟩) ⟨fun _ _ _ _ q => q, fun U hU hW => ⟨rfl, trivial⟩⟩ rfl rfl hl.1 rfl (lv_room (Nat.le_of_ble_eq_true rfl)) dX1_frame_112 ⟨Nat.le_of_ble_eq_true rfl, Nat.le_of_ble_eq_true rfl⟩).run (fun r_9 er_9 => ?_)
              subst er_9
              exact W.iret (v := (fX1_filled ((fX1_generalAt p2 p0 mf4) + (fX1_saved (p1 ||| (-2147483648)) 32 4)) 8)) hx hb hr (fun t ht hW => ⟨⟨(fX1_filled ((fX1_generalAt p2 p0 mf4) + (fX1_saved (p1 ||| (-2147483648)) 32 4)) 8), (mk1, mk2, mk3, 0, mf1, mf2, mf3, mf4, (p1 ||| (-2147483648)), p2, p0, mf4, mf9), rfl, (by rw [fX1_frame, if_neg c_1, if_neg c_2, if_pos c_3, if_pos c_4, if_neg c_5]), by rw [ht]; exact hP, va_K.moved hW.alike hK, hD⟩, hS.F ht⟩) hS.2.2 dX1_frame_115
        · refine lv_aload_n hx hb dX1_frame_41 rfl (lv_at hl 2 rfl) ?_
          refine lv_iconst (v := 1) hx hb dX1_frame_42 (by decide) ?_
          have hFc := va_free (wc := (mW mh0 mh1 mh2 mh3 mc1 mc2 mc3 mk1 mk2 mk3 0 mf1 mf2 mf3 mf4 mf5 mf6 mf7 mf8 mf9)) hD hS hA [0, 1, 2, 3] rfl
          refine va_calli (va_runV (As := [.int 1]) (rest := []) ⟨hx, hb, hml, hown, htG⟩ (mX1_fail l dC dI mh0 mh1 mh2 mh3 H.size mc1 mc2 mc3 mk1 mk2 mk3 0 mf1 mf2 mf3 mf4 mf5 mf6 mf7 mf8 mf9 1) (cwV 1 htG (wG_V wd_387 wd_389 wd_11 wd_23 wd_390) rfl rfl rfl (by decide +kernel) ⟨Nat.le_of_ble_eq_true rfl, Nat.le_of_ble_eq_true rfl⟩) ⟨fun a U g mk q => by obtain ⟨q0, q1, qP, qK, qD⟩ := q; exact ⟨q0, q1, qP, va_K.moved (u := U) (U := U.calling g mk a) (Vm.Alike.refl U.vm) qK, qD⟩, va_recv hK hP (ci := 1) (q0 := 0) rfl rfl, fun U hU hW => ⟨rfl, by rw [hU], by rw [hU]; exact hP, va_K.moved hW.alike hK, hD.weaken (fun _ _ _ _ => trivial)⟩⟩ rfl rfl hl.1 rfl (lv_room (Nat.le_of_ble_eq_true rfl)) dX1_frame_43 ⟨Nat.le_of_ble_eq_true rfl, Nat.le_of_ble_eq_true rfl⟩) hS (fun q _ h => hFc q h) hFc (fun r_10 u t H1 locs ht hvm hw hB hz1 hk1 hS => ?_)
          rw [fX1_fail] at hw
          cases hw
          obtain ⟨hP1, hK1, hD1⟩ := hB
          rw [ht] at hP1
          obtain ⟨hP, hD⟩ := va_join (wr := []) (w1 := (mW mh0 mh1 mh2 mh3 mc1 mc2 mc3 mk1 mk2 mk3 1 mf1 mf2 mf3 mf4 mf5 mf6 mf7 mf8 mf9)) hP hD [0, 1, 2, 3] [] rfl rfl (by decide) (by decide) hk1 hFc hP1 hD1
          generalize H1 = H at hP hS ⊢
          have hP : va_P (dC, dI) vwCl (mW mh0 mh1 mh2 mh3 mc1 mc2 mc3 mk1 mk2 mk3 1 mf1 mf2 mf3 mf4 mf5 mf6 mf7 mf8 mf9) H := hP
          have hD : va_D A (mW mh0 mh1 mh2 mh3 mc1 mc2 mc3 mk1 mk2 mk3 1 mf1 mf2 mf3 mf4 mf5 mf6 mf7 mf8 mf9) := hD
          exact W.iret (v := 0) hx hb hr (fun t ht hW => ⟨⟨0, (mk1, mk2, mk3, 1, mf1, mf2, mf3, mf4, mf5, mf6, mf7, mf8, mf9), rfl, (by rw [fX1_frame, if_neg c_1, if_neg c_2, if_pos c_3, if_neg c_4]), by rw [ht]; exact hP, va_K.moved hW.alike hK, hD⟩, hS.F ht⟩) hS.2.2 dX1_frame_46

def fX1_add (mk1 mk2 mk3 : Nat → Int32) (mf0 mf1 mf2 mf3 mf4 mf5 mf6 mf7 mf8 mf9 : Int32) (p0 p1 p2 : Int32) : Int32 × Int32 × mWS :=
  if (fX1_isGood p0 3 p1 p2) = 0 then (0, 0, (mk1, mk2, mk3, 1, mf1, mf2, mf3, mf4, mf5, mf6, mf7, mf8, mf9))
  else if mf2 = 60 then (0, 0, (mk1, mk2, mk3, 2, mf1, mf2, mf3, mf4, mf5, mf6, mf7, mf8, mf9))
    else if ((fX1_home (upd mk1 (mf2 : Int32).toNatClampNeg p0) (upd mk2 (mf2 : Int32).toNatClampNeg p1) (upd mk3 (mf2 : Int32).toNatClampNeg p2) mf1 (mf2 + 1) ((mf2 + 1) - 1)) + (fX1_filled (fX1_bytes (upd mk1 (mf2 : Int32).toNatClampNeg p0) (upd mk2 (mf2 : Int32).toNatClampNeg p1) ((mf2 + 1) - 1)) 4)) ≤ 1000000 then (0, (fX1_home (upd mk1 (mf2 : Int32).toNatClampNeg p0) (upd mk2 (mf2 : Int32).toNatClampNeg p1) (upd mk3 (mf2 : Int32).toNatClampNeg p2) mf1 (mf2 + 1) ((mf2 + 1) - 1)), ((upd mk1 (mf2 : Int32).toNatClampNeg p0), (upd mk2 (mf2 : Int32).toNatClampNeg p1), (upd mk3 (mf2 : Int32).toNatClampNeg p2), 0, mf1, (mf2 + 1), mf3, mf4, mf5, mf6, mf7, mf8, mf9))
      else (0, 0, ((upd mk1 (mf2 : Int32).toNatClampNeg p0), (upd mk2 (mf2 : Int32).toNatClampNeg p1), (upd mk3 (mf2 : Int32).toNatClampNeg p2), 2, mf1, ((mf2 + 1) - 1), mf3, mf4, mf5, mf6, mf7, mf8, mf9))

abbrev wsX1_add : List Cond := .code yX1_add cX1_add 5 (some .int) :: wG
set_option maxHeartbeats 4000000 in
set_option maxRecDepth 100000 in
theorem mX1_add (l : Launch) (dC : Nat → ClassId) (dI : Nat → Nat → Nat) (mh0 mh1 mh2 mh3 : Nat) (sz : Nat) (mc1 mc2 mc3 : ClassId) (mk1 mk2 mk3 : Nat → Int32) (mf0 mf1 mf2 mf3 mf4 mf5 mf6 mf7 mf8 mf9 : Int32) (p0 p1 p2 : Int32) (hN : mf2.toNatClampNeg ≤ 60) (h0 : ¬ mf2 < 0) : Met l yX1_add wsX1_add ({ frames := 2, cells := 0, slots := 0, locals := 44 }) (va_Pc [.ref mh0, .int p0, .int p1, .int p2] (fun U => U.heap.size = sz ∧ va_P (dC, dI) vwCl (mW mh0 mh1 mh2 mh3 mc1 mc2 mc3 mk1 mk2 mk3 mf0 mf1 mf2 mf3 mf4 mf5 mf6 mf7 mf8 mf9) U.heap ∧ va_K (dC, dI) vwCl [(mc1, .int), (mc2, .int), (mc3, .int)] U ∧ va_D (fun _ => True) (mW mh0 mh1 mh2 mh3 mc1 mc2 mc3 mk1 mk2 mk3 mf0 mf1 mf2 mf3 mf4 mf5 mf6 mf7 mf8 mf9))) (va_Qi (fun r u => (0, r, u) = fX1_add mk1 mk2 mk3 mf0 mf1 mf2 mf3 mf4 mf5 mf6 mf7 mf8 mf9 p0 p1 p2) (mWB dC dI (va_A (mW mh0 mh1 mh2 mh3 mc1 mc2 mc3 mk1 mk2 mk3 mf0 mf1 mf2 mf3 mf4 mf5 mf6 mf7 mf8 mf9) sz) mh0 mh1 mh2 mh3 mc1 mc2 mc3) (va_A (mW mh0 mh1 mh2 mh3 mc1 mc2 mc3 mk1 mk2 mk3 mf0 mf1 mf2 mf3 mf4 mf5 mf6 mf7 mf8 mf9) sz)) 0 0 (va_A (mW mh0 mh1 mh2 mh3 mc1 mc2 mc3 mk1 mk2 mk3 mf0 mf1 mf2 mf3 mf4 mf5 mf6 mf7 mf8 mf9) sz) := by
  refine Met.ofW (cc := cX1_add) (maxL := 5) (ret := (some .int)) (by decide) rfl ?_
  intro p e s m args below meth c s₁ B hml hv
  obtain ⟨rfl, hsz, hP, hK, hD0⟩ := hv
  have hx := B.exec
  have hb := B.bytes
  have hr := B.returns
  have hts := atoms_spec (ws := wsX1_add) B.pre
  have htG := fun (w : Cond) (h : w ∈ wG) => hts w (List.mem_cons_of_mem _ h)
  have hown : s.vm.findClass RX1 = some m.cls := findClass_of_methodNamed B.named
  have hlocks := B.notSynchronized
  subst hsz
  have hD := hD0.self (sz := s.heap.size)
  generalize hAe : va_A (mW mh0 mh1 mh2 mh3 mc1 mc2 mc3 mk1 mk2 mk3 mf0 mf1 mf2 mf3 mf4 mf5 mf6 mf7 mf8 mf9) s.heap.size = A at hD ⊢
  have hA : ∀ q : Nat, s.heap.size ≤ q → A q := fun q h => by rw [← hAe]; exact Or.inr h
  have hS : va_S A s.heap s.heap [] := va_S.rf
  have hP : va_P (dC, dI) vwCl (mW mh0 mh1 mh2 mh3 mc1 mc2 mc3 mk1 mk2 mk3 mf0 mf1 mf2 mf3 mf4 mf5 mf6 mf7 mf8 mf9) s.heap := hP
  have hl := lv_entry ([.ref mh0, .int p0, .int p1, .int p2]) (n := 5) (Nat.le_of_ble_eq_true rfl)
  rw [lg_entry_eq]
  generalize (lg_sl ([.ref mh0, .int p0, .int p1, .int p2]) ++ List.replicate (5 - (lg_sl ([.ref mh0, .int p0, .int p1, .int p2])).length) Slot.unset).toArray = ls at hl ⊢
  have hl : lv_has ls 5 [(0, .ref mh0), (1, .int p0), (2, .int p1), (3, .int p2)] := hl
  refine lv_aload_n hx hb dX1_add_0 rfl (lv_at hl 0 rfl) ?_
  refine lv_iconst (v := 0) hx hb dX1_add_1 (by decide) ?_
  refine va_put (D := (dC, dI)) (ci := 1) (v := .int 0) (ty := .int) (C := RX1) (T := TX1) (N := 13) hx hb htG inX1 tyX1 tyX1_ok nmX1 hown hK hP hD hS 0 rfl rfl 0 (by decide) (htG _ wd_331) (fun _ h9 => h9) rfl (by decide +kernel) rfl rfl (Nat.le_of_ble_eq_true rfl) dX1_add_2 (fun H locs hP hD hS => ?_)
  have hP : va_P (dC, dI) vwCl (mW mh0 mh1 mh2 mh3 mc1 mc2 mc3 mk1 mk2 mk3 0 mf1 mf2 mf3 mf4 mf5 mf6 mf7 mf8 mf9) H := hP
  have hD : va_D A (mW mh0 mh1 mh2 mh3 mc1 mc2 mc3 mk1 mk2 mk3 0 mf1 mf2 mf3 mf4 mf5 mf6 mf7 mf8 mf9) := hD
  refine lv_iload_n hx hb dX1_add_5 rfl (lv_at hl 1 rfl) ?_
  refine lv_iconst (v := 3) hx hb dX1_add_6 (by decide) ?_
  refine lv_iload_n hx hb dX1_add_7 rfl (lv_at hl 2 rfl) ?_
  refine lv_iload_n hx hb dX1_add_8 rfl (lv_at hl 3 rfl) ?_
  refine vp_callSi (va_runS (As := [.int p0, .int 3, .int p1, .int p2]) (rest := []) ⟨hx, hb, hml, hown, htG⟩ (mX1_isGood l p0 3 p1 p2) (va_cwS 4 htG (wG_S wd_379 wd_380 wd_23 wd_381) rfl rfl rfl (by decide +kernel) ⟨Nat.le_of_ble_eq_true rfl, Nat.le_of_ble_eq_true rfl⟩) ⟨fun _ _ _ _ q => q, fun U hU hW => ⟨rfl, trivial⟩⟩ rfl rfl hl.1 rfl (lv_room (Nat.le_of_ble_eq_true rfl)) dX1_add_9 ⟨Nat.le_of_ble_eq_true rfl, Nat.le_of_ble_eq_true rfl⟩).run (fun r_1 er_1 => ?_)
  subst er_1
  refine lv_if_ne (tgt := 21) hx hb dX1_add_12 (by decide) (fun c_1 => ?_) (fun c_1 => ?_)
  · refine lv_aload_n hx hb dX1_add_21 rfl (lv_at hl 0 rfl) ?_
    refine va_get (D := (dC, dI)) (ci := 1) (v := .int mf2) (C := RX1) (T := TX1) (N := 13) hx hb htG inX1 hown hK hP 0 rfl rfl 2 (by decide) (htG _ wd_333) (fun _ h9 => h9) rfl dX1_add_22 ?_
    refine lv_bipush (v := 60) hx hb dX1_add_25 (by decide) ?_
    refine lv_icmp_ne (tgt := 36) hx hb dX1_add_27 (by decide) (fun c_2 => ?_) (fun c_2 => ?_)
    · refine lv_aload_n hx hb dX1_add_36 rfl (lv_at hl 0 rfl) ?_
      refine va_get (D := (dC, dI)) (ci := 1) (v := .ref mh1) (C := RX1) (T := TX1) (N := 13) hx hb htG inX1 hown hK hP 0 rfl rfl 10 (by decide) (htG _ wd_341) (fun _ h9 => h9) rfl dX1_add_37 ?_
      refine lv_aload_n hx hb dX1_add_40 rfl (lv_at hl 0 rfl) ?_
      refine va_get (D := (dC, dI)) (ci := 1) (v := .int mf2) (C := RX1) (T := TX1) (N := 13) hx hb htG inX1 hown hK hP 0 rfl rfl 2 (by decide) (htG _ wd_333) (fun _ h9 => h9) rfl dX1_add_41 ?_
      refine lv_iload_n hx hb dX1_add_44 rfl (lv_at hl 1 rfl) ?_
      refine va_iast hx hb hK hP hD hS 1 0 rfl rfl (add_in h0 hN c_2) dX1_add_45 (fun H locs hP hD hS => ?_)
      have hP : va_P (dC, dI) vwCl (mW mh0 mh1 mh2 mh3 mc1 mc2 mc3 (upd mk1 (mf2 : Int32).toNatClampNeg p0) mk2 mk3 0 mf1 mf2 mf3 mf4 mf5 mf6 mf7 mf8 mf9) H := hP
      have hD : va_D A (mW mh0 mh1 mh2 mh3 mc1 mc2 mc3 (upd mk1 (mf2 : Int32).toNatClampNeg p0) mk2 mk3 0 mf1 mf2 mf3 mf4 mf5 mf6 mf7 mf8 mf9) := hD
      refine lv_aload_n hx hb dX1_add_46 rfl (lv_at hl 0 rfl) ?_
      refine va_get (D := (dC, dI)) (ci := 1) (v := .ref mh2) (C := RX1) (T := TX1) (N := 13) hx hb htG inX1 hown hK hP 0 rfl rfl 11 (by decide) (htG _ wd_342) (fun _ h9 => h9) rfl dX1_add_47 ?_
      refine lv_aload_n hx hb dX1_add_50 rfl (lv_at hl 0 rfl) ?_
      refine va_get (D := (dC, dI)) (ci := 1) (v := .int mf2) (C := RX1) (T := TX1) (N := 13) hx hb htG inX1 hown hK hP 0 rfl rfl 2 (by decide) (htG _ wd_333) (fun _ h9 => h9) rfl dX1_add_51 ?_
      refine lv_iload_n hx hb dX1_add_54 rfl (lv_at hl 2 rfl) ?_
      refine va_iast hx hb hK hP hD hS 2 1 rfl rfl (add_in h0 hN c_2) dX1_add_55 (fun H locs hP hD hS => ?_)
      have hP : va_P (dC, dI) vwCl (mW mh0 mh1 mh2 mh3 mc1 mc2 mc3 (upd mk1 (mf2 : Int32).toNatClampNeg p0) (upd mk2 (mf2 : Int32).toNatClampNeg p1) mk3 0 mf1 mf2 mf3 mf4 mf5 mf6 mf7 mf8 mf9) H := hP
      have hD : va_D A (mW mh0 mh1 mh2 mh3 mc1 mc2 mc3 (upd mk1 (mf2 : Int32).toNatClampNeg p0) (upd mk2 (mf2 : Int32).toNatClampNeg p1) mk3 0 mf1 mf2 mf3 mf4 mf5 mf6 mf7 mf8 mf9) := hD
      refine lv_aload_n hx hb dX1_add_56 rfl (lv_at hl 0 rfl) ?_
      refine va_get (D := (dC, dI)) (ci := 1) (v := .ref mh3) (C := RX1) (T := TX1) (N := 13) hx hb htG inX1 hown hK hP 0 rfl rfl 12 (by decide) (htG _ wd_343) (fun _ h9 => h9) rfl dX1_add_57 ?_
      refine lv_aload_n hx hb dX1_add_60 rfl (lv_at hl 0 rfl) ?_
      refine va_get (D := (dC, dI)) (ci := 1) (v := .int mf2) (C := RX1) (T := TX1) (N := 13) hx hb htG inX1 hown hK hP 0 rfl rfl 2 (by decide) (htG _ wd_333) (fun _ h9 => h9) rfl dX1_add_61 ?_
      refine lv_iload_n hx hb dX1_add_64 rfl (lv_at hl 3 rfl) ?_
      refine va_iast hx hb hK hP hD hS 3 2 rfl rfl (add_in h0 hN c_2) dX1_add_65 (fun H locs hP hD hS => ?_)
      have hP : va_P (dC, dI) vwCl (mW mh0 mh1 mh2 mh3 mc1 mc2 mc3 (upd mk1 (mf2 : Int32).toNatClampNeg p0) (upd mk2 (mf2 : Int32).toNatClampNeg p1) (upd mk3 (mf2 : Int32).toNatClampNeg p2) 0 mf1 mf2 mf3 mf4 mf5 mf6 mf7 mf8 mf9) H := hP
      have hD : va_D A (mW mh0 mh1 mh2 mh3 mc1 mc2 mc3 (upd mk1 (mf2 : Int32).toNatClampNeg p0) (upd mk2 (mf2 : Int32).toNatClampNeg p1) (upd mk3 (mf2 : Int32).toNatClampNeg p2) 0 mf1 mf2 mf3 mf4 mf5 mf6 mf7 mf8 mf9) := hD
      refine lv_aload_n hx hb dX1_add_66 rfl (lv_at hl 0 rfl) ?_
      refine lv_dup hx hb dX1_add_67 rfl ?_
      refine va_get (D := (dC, dI)) (ci := 1) (v := .int mf2) (C := RX1) (T := TX1) (N := 13) hx hb htG inX1 hown hK hP 0 rfl rfl 2 (by decide) (htG _ wd_333) (fun _ h9 => h9) rfl dX1_add_68 ?_
      refine lv_iconst (v := 1) hx hb dX1_add_71 (by decide) ?_
      refine lv_iadd hx hb dX1_add_72 ?_
      refine va_put (D := (dC, dI)) (ci := 1) (v := .int (mf2 + 1)) (ty := .int) (C := RX1) (T := TX1) (N := 13) hx hb htG inX1 tyX1 tyX1_ok nmX1 hown hK hP hD hS 0 rfl rfl 2 (by decide) (htG _ wd_333) (fun _ h9 => h9) rfl (by decide +kernel) rfl rfl (Nat.le_of_ble_eq_true rfl) dX1_add_73 (fun H locs hP hD hS => ?_)
      have hP : va_P (dC, dI) vwCl (mW mh0 mh1 mh2 mh3 mc1 mc2 mc3 (upd mk1 (mf2 : Int32).toNatClampNeg p0) (upd mk2 (mf2 : Int32).toNatClampNeg p1) (upd mk3 (mf2 : Int32).toNatClampNeg p2) 0 mf1 (mf2 + 1) mf3 mf4 mf5 mf6 mf7 mf8 mf9) H := hP
      have hD : va_D A (mW mh0 mh1 mh2 mh3 mc1 mc2 mc3 (upd mk1 (mf2 : Int32).toNatClampNeg p0) (upd mk2 (mf2 : Int32).toNatClampNeg p1) (upd mk3 (mf2 : Int32).toNatClampNeg p2) 0 mf1 (mf2 + 1) mf3 mf4 mf5 mf6 mf7 mf8 mf9) := hD
      refine lv_aload_n hx hb dX1_add_76 rfl (lv_at hl 0 rfl) ?_
      refine lv_aload_n hx hb dX1_add_77 rfl (lv_at hl 0 rfl) ?_
      refine va_get (D := (dC, dI)) (ci := 1) (v := .int (mf2 + 1)) (C := RX1) (T := TX1) (N := 13) hx hb htG inX1 hown hK hP 0 rfl rfl 2 (by decide) (htG _ wd_333) (fun _ h9 => h9) rfl dX1_add_78 ?_
      refine lv_iconst (v := 1) hx hb dX1_add_81 (by decide) ?_
      refine lv_isub hx hb dX1_add_82 ?_
      refine vp_callSi (va_runV (As := [.int ((mf2 + 1) - 1)]) (rest := []) ⟨hx, hb, hml, hown, htG⟩ (mX1_home l dC dI mh0 mh1 mh2 mh3 mc1 mc2 mc3 (upd mk1 (mf2 : Int32).toNatClampNeg p0) (upd mk2 (mf2 : Int32).toNatClampNeg p1) (upd mk3 (mf2 : Int32).toNatClampNeg p2) 0 mf1 (mf2 + 1) mf3 mf4 mf5 mf6 mf7 mf8 mf9 ((mf2 + 1) - 1) (by rw [inc_dec]; exact hN) (fun _ => by rw [inc_dec]; exact (add_in h0 hN c_2))) (cwV 1 htG (wG_V wd_391 wd_393 wd_12 wd_23 wd_394) rfl rfl rfl (by decide +kernel) ⟨Nat.le_of_ble_eq_true rfl, Nat.le_of_ble_eq_true rfl⟩) ⟨fun a U g mk q => by obtain ⟨q0, qP, qK⟩ := q; exact ⟨q0, qP, va_K.moved (u := U) (U := U.calling g mk a) (Vm.Alike.refl U.vm) qK⟩, va_recv hK hP (ci := 1) (q0 := 0) rfl rfl, fun U hU hW => ⟨rfl, by rw [hU]; exact hP, va_K.moved hW.alike hK⟩⟩ rfl rfl hl.1 rfl (lv_room (Nat.le_of_ble_eq_true rfl)) dX1_add_83 ⟨Nat.le_of_ble_eq_true rfl, Nat.le_of_ble_eq_true rfl⟩).run (fun r_2 er_2 => ?_)
      subst er_2
      refine lv_istore (lv' := [(4, .int (fX1_home (upd mk1 (mf2 : Int32).toNatClampNeg p0) (upd mk2 (mf2 : Int32).toNatClampNeg p1) (upd mk3 (mf2 : Int32).toNatClampNeg p2) mf1 (mf2 + 1) ((mf2 + 1) - 1))), (0, .ref mh0), (1, .int p0), (2, .int p1), (3, .int p2)]) hx hb dX1_add_86 hl (by decide) rfl (fun ls hl => ?_)
      refine lv_iload hx hb dX1_add_88 (lv_at hl 0 rfl) ?_
      refine lv_aload_n hx hb dX1_add_90 rfl (lv_at hl 1 rfl) ?_
      refine lv_aload_n hx hb dX1_add_91 rfl (lv_at hl 1 rfl) ?_
      refine va_get (D := (dC, dI)) (ci := 1) (v := .int (mf2 + 1)) (C := RX1) (T := TX1) (N := 13) hx hb htG inX1 hown hK hP 0 rfl rfl 2 (by decide) (htG _ wd_333) (fun _ h9 => h9) rfl dX1_add_92 ?_
      refine lv_iconst (v := 1) hx hb dX1_add_95 (by decide) ?_
      refine lv_isub hx hb dX1_add_96 ?_
      refine vp_callSi (va_runV (As := [.int ((mf2 + 1) - 1)]) (rest := [.int (fX1_home (upd mk1 (mf2 : Int32).toNatClampNeg p0) (upd mk2 (mf2 : Int32).toNatClampNeg p1) (upd mk3 (mf2 : Int32).toNatClampNeg p2) mf1 (mf2 + 1) ((mf2 + 1) - 1))]) ⟨hx, hb, hml, hown, htG⟩ (mX1_bytes l dC dI mh0 mh1 mh2 mh3 mc1 mc2 mc3 (upd mk1 (mf2 : Int32).toNatClampNeg p0) (upd mk2 (mf2 : Int32).toNatClampNeg p1) (upd mk3 (mf2 : Int32).toNatClampNeg p2) 0 mf1 (mf2 + 1) mf3 mf4 mf5 mf6 mf7 mf8 mf9 ((mf2 + 1) - 1) (by rw [inc_dec]; exact add_in h0 hN c_2)) (cwV 1 htG (wG_V wd_402 wd_404 wd_14 wd_23 wd_405) rfl rfl rfl (by decide +kernel) ⟨Nat.le_of_ble_eq_true rfl, Nat.le_of_ble_eq_true rfl⟩) ⟨fun a U g mk q => by obtain ⟨q0, qP, qK⟩ := q; exact ⟨q0, qP, va_K.moved (u := U) (U := U.calling g mk a) (Vm.Alike.refl U.vm) qK⟩, va_recv hK hP (ci := 1) (q0 := 0) rfl rfl, fun U hU hW => ⟨rfl, by rw [hU]; exact hP, va_K.moved hW.alike hK⟩⟩ rfl rfl hl.1 rfl (lv_room (Nat.le_of_ble_eq_true rfl)) dX1_add_97 ⟨Nat.le_of_ble_eq_true rfl, Nat.le_of_ble_eq_true rfl⟩).run (fun r_3 er_3 => ?_)
      subst er_3
      refine lv_iconst (v := 4) hx hb dX1_add_100 (by decide) ?_
      refine vp_callSi (va_runS (As := [.int (fX1_bytes (upd mk1 (mf2 : Int32).toNatClampNeg p0) (upd mk2 (mf2 : Int32).toNatClampNeg p1) ((mf2 + 1) - 1)), .int 4]) (rest := [.int (fX1_home (upd mk1 (mf2 : Int32).toNatClampNeg p0) (upd mk2 (mf2 : Int32).toNatClampNeg p1) (upd mk3 (mf2 : Int32).toNatClampNeg p2) mf1 (mf2 + 1) ((mf2 + 1) - 1))]) ⟨hx, hb, hml, hown, htG⟩ (mX1_filled l (fX1_bytes (upd mk1 (mf2 : Int32).toNatClampNeg p0) (upd mk2 (mf2 : Int32).toNatClampNeg p1) ((mf2 + 1) - 1)) 4 (by decide)) (va_cwS 2 htG (wG_S wd_399 wd_400 wd_23 wd_401) rfl rfl rfl (by decide +kernel) ⟨Nat.le_of_ble_eq_true rfl, Nat.le_of_ble_eq_true rfl⟩) ⟨fun _ _ _ _ q => q, fun U hU hW => ⟨rfl, trivial⟩⟩ rfl rfl hl.1 rfl (lv_room (Nat.le_of_ble_eq_true rfl)) dX1_add_101 ⟨Nat.le_of_ble_eq_true rfl, Nat.le_of_ble_eq_true rfl⟩).run (fun r_4 er_4 => ?_)
      subst er_4
      refine lv_iadd hx hb dX1_add_104 ?_
      refine lv_ldc (v := 1000000) hx hb hown (htG _ wd_406) dX1_add_105 ?_
      refine lv_icmp_le (tgt := 126) hx hb dX1_add_107 (by decide) (fun c_3 => ?_) (fun c_3 => ?_)
      · refine lv_iload hx hb dX1_add_126 (lv_at hl 0 rfl) ?_
        exact W.iret (v := (fX1_home (upd mk1 (mf2 : Int32).toNatClampNeg p0) (upd mk2 (mf2 : Int32).toNatClampNeg p1) (upd mk3 (mf2 : Int32).toNatClampNeg p2) mf1 (mf2 + 1) ((mf2 + 1) - 1))) hx hb hr (fun t ht hW => ⟨⟨(fX1_home (upd mk1 (mf2 : Int32).toNatClampNeg p0) (upd mk2 (mf2 : Int32).toNatClampNeg p1) (upd mk3 (mf2 : Int32).toNatClampNeg p2) mf1 (mf2 + 1) ((mf2 + 1) - 1)), ((upd mk1 (mf2 : Int32).toNatClampNeg p0), (upd mk2 (mf2 : Int32).toNatClampNeg p1), (upd mk3 (mf2 : Int32).toNatClampNeg p2), 0, mf1, (mf2 + 1), mf3, mf4, mf5, mf6, mf7, mf8, mf9), rfl, (by rw [fX1_add, if_neg c_1, if_neg c_2, if_pos c_3]), by rw [ht]; exact hP, va_K.moved hW.alike hK, hD⟩, hS.F ht⟩) hS.2.2 dX1_add_128
      · refine lv_aload_n hx hb dX1_add_110 rfl (lv_at hl 1 rfl) ?_
        refine lv_dup hx hb dX1_add_111 rfl ?_
        refine va_get (D := (dC, dI)) (ci := 1) (v := .int (mf2 + 1)) (C := RX1) (T := TX1) (N := 13) hx hb htG inX1 hown hK hP 0 rfl rfl 2 (by decide) (htG _ wd_333) (fun _ h9 => h9) rfl dX1_add_112 ?_
        refine lv_iconst (v := 1) hx hb dX1_add_115 (by decide) ?_
        refine lv_isub hx hb dX1_add_116 ?_
        refine va_put (D := (dC, dI)) (ci := 1) (v := .int ((mf2 + 1) - 1)) (ty := .int) (C := RX1) (T := TX1) (N := 13) hx hb htG inX1 tyX1 tyX1_ok nmX1 hown hK hP hD hS 0 rfl rfl 2 (by decide) (htG _ wd_333) (fun _ h9 => h9) rfl (by decide +kernel) rfl rfl (Nat.le_of_ble_eq_true rfl) dX1_add_117 (fun H locs hP hD hS => ?_)
        have hP : va_P (dC, dI) vwCl (mW mh0 mh1 mh2 mh3 mc1 mc2 mc3 (upd mk1 (mf2 : Int32).toNatClampNeg p0) (upd mk2 (mf2 : Int32).toNatClampNeg p1) (upd mk3 (mf2 : Int32).toNatClampNeg p2) 0 mf1 ((mf2 + 1) - 1) mf3 mf4 mf5 mf6 mf7 mf8 mf9) H := hP
        have hD : va_D A (mW mh0 mh1 mh2 mh3 mc1 mc2 mc3 (upd mk1 (mf2 : Int32).toNatClampNeg p0) (upd mk2 (mf2 : Int32).toNatClampNeg p1) (upd mk3 (mf2 : Int32).toNatClampNeg p2) 0 mf1 ((mf2 + 1) - 1) mf3 mf4 mf5 mf6 mf7 mf8 mf9) := hD
        refine lv_aload_n hx hb dX1_add_120 rfl (lv_at hl 1 rfl) ?_
        refine lv_iconst (v := 2) hx hb dX1_add_121 (by decide) ?_
        have hFc := va_free (wc := (mW mh0 mh1 mh2 mh3 mc1 mc2 mc3 (upd mk1 (mf2 : Int32).toNatClampNeg p0) (upd mk2 (mf2 : Int32).toNatClampNeg p1) (upd mk3 (mf2 : Int32).toNatClampNeg p2) 0 mf1 ((mf2 + 1) - 1) mf3 mf4 mf5 mf6 mf7 mf8 mf9)) hD hS hA [0, 1, 2, 3] rfl
        refine va_calli (va_runV (As := [.int 2]) (rest := []) ⟨hx, hb, hml, hown, htG⟩ (mX1_fail l dC dI mh0 mh1 mh2 mh3 H.size mc1 mc2 mc3 (upd mk1 (mf2 : Int32).toNatClampNeg p0) (upd mk2 (mf2 : Int32).toNatClampNeg p1) (upd mk3 (mf2 : Int32).toNatClampNeg p2) 0 mf1 ((mf2 + 1) - 1) mf3 mf4 mf5 mf6 mf7 mf8 mf9 2) (cwV 1 htG (wG_V wd_387 wd_389 wd_11 wd_23 wd_390) rfl rfl rfl (by decide +kernel) ⟨Nat.le_of_ble_eq_true rfl, Nat.le_of_ble_eq_true rfl⟩) ⟨fun a U g mk q => by obtain ⟨q0, q1, qP, qK, qD⟩ := q; exact ⟨q0, q1, qP, va_K.moved (u := U) (U := U.calling g mk a) (Vm.Alike.refl U.vm) qK, qD⟩, va_recv hK hP (ci := 1) (q0 := 0) rfl rfl, fun U hU hW => ⟨rfl, by rw [hU], by rw [hU]; exact hP, va_K.moved hW.alike hK, hD.weaken (fun _ _ _ _ => trivial)⟩⟩ rfl rfl hl.1 rfl (lv_room (Nat.le_of_ble_eq_true rfl)) dX1_add_122 ⟨Nat.le_of_ble_eq_true rfl, Nat.le_of_ble_eq_true rfl⟩) hS (fun q _ h => hFc q h) hFc (fun r_5 u t H1 locs ht hvm hw hB hz1 hk1 hS => ?_)
        rw [fX1_fail] at hw
        cases hw
        obtain ⟨hP1, hK1, hD1⟩ := hB
        rw [ht] at hP1
        obtain ⟨hP, hD⟩ := va_join (wr := []) (w1 := (mW mh0 mh1 mh2 mh3 mc1 mc2 mc3 (upd mk1 (mf2 : Int32).toNatClampNeg p0) (upd mk2 (mf2 : Int32).toNatClampNeg p1) (upd mk3 (mf2 : Int32).toNatClampNeg p2) 2 mf1 ((mf2 + 1) - 1) mf3 mf4 mf5 mf6 mf7 mf8 mf9)) hP hD [0, 1, 2, 3] [] rfl rfl (by decide) (by decide) hk1 hFc hP1 hD1
        generalize H1 = H at hP hS ⊢
        have hP : va_P (dC, dI) vwCl (mW mh0 mh1 mh2 mh3 mc1 mc2 mc3 (upd mk1 (mf2 : Int32).toNatClampNeg p0) (upd mk2 (mf2 : Int32).toNatClampNeg p1) (upd mk3 (mf2 : Int32).toNatClampNeg p2) 2 mf1 ((mf2 + 1) - 1) mf3 mf4 mf5 mf6 mf7 mf8 mf9) H := hP
        have hD : va_D A (mW mh0 mh1 mh2 mh3 mc1 mc2 mc3 (upd mk1 (mf2 : Int32).toNatClampNeg p0) (upd mk2 (mf2 : Int32).toNatClampNeg p1) (upd mk3 (mf2 : Int32).toNatClampNeg p2) 2 mf1 ((mf2 + 1) - 1) mf3 mf4 mf5 mf6 mf7 mf8 mf9) := hD
        exact W.iret (v := 0) hx hb hr (fun t ht hW => ⟨⟨0, ((upd mk1 (mf2 : Int32).toNatClampNeg p0), (upd mk2 (mf2 : Int32).toNatClampNeg p1), (upd mk3 (mf2 : Int32).toNatClampNeg p2), 2, mf1, ((mf2 + 1) - 1), mf3, mf4, mf5, mf6, mf7, mf8, mf9), rfl, (by rw [fX1_add, if_neg c_1, if_neg c_2, if_neg c_3]), by rw [ht]; exact hP, va_K.moved hW.alike hK, hD⟩, hS.F ht⟩) hS.2.2 dX1_add_125
    · refine lv_aload_n hx hb dX1_add_30 rfl (lv_at hl 0 rfl) ?_
      refine lv_iconst (v := 2) hx hb dX1_add_31 (by decide) ?_
      have hFc := va_free (wc := (mW mh0 mh1 mh2 mh3 mc1 mc2 mc3 mk1 mk2 mk3 0 mf1 mf2 mf3 mf4 mf5 mf6 mf7 mf8 mf9)) hD hS hA [0, 1, 2, 3] rfl
      refine va_calli (va_runV (As := [.int 2]) (rest := []) ⟨hx, hb, hml, hown, htG⟩ (mX1_fail l dC dI mh0 mh1 mh2 mh3 H.size mc1 mc2 mc3 mk1 mk2 mk3 0 mf1 mf2 mf3 mf4 mf5 mf6 mf7 mf8 mf9 2) (cwV 1 htG (wG_V wd_387 wd_389 wd_11 wd_23 wd_390) rfl rfl rfl (by decide +kernel) ⟨Nat.le_of_ble_eq_true rfl, Nat.le_of_ble_eq_true rfl⟩) ⟨fun a U g mk q => by obtain ⟨q0, q1, qP, qK, qD⟩ := q; exact ⟨q0, q1, qP, va_K.moved (u := U) (U := U.calling g mk a) (Vm.Alike.refl U.vm) qK, qD⟩, va_recv hK hP (ci := 1) (q0 := 0) rfl rfl, fun U hU hW => ⟨rfl, by rw [hU], by rw [hU]; exact hP, va_K.moved hW.alike hK, hD.weaken (fun _ _ _ _ => trivial)⟩⟩ rfl rfl hl.1 rfl (lv_room (Nat.le_of_ble_eq_true rfl)) dX1_add_32 ⟨Nat.le_of_ble_eq_true rfl, Nat.le_of_ble_eq_true rfl⟩) hS (fun q _ h => hFc q h) hFc (fun r_6 u t H1 locs ht hvm hw hB hz1 hk1 hS => ?_)
      rw [fX1_fail] at hw
      cases hw
      obtain ⟨hP1, hK1, hD1⟩ := hB
      rw [ht] at hP1
      obtain ⟨hP, hD⟩ := va_join (wr := []) (w1 := (mW mh0 mh1 mh2 mh3 mc1 mc2 mc3 mk1 mk2 mk3 2 mf1 mf2 mf3 mf4 mf5 mf6 mf7 mf8 mf9)) hP hD [0, 1, 2, 3] [] rfl rfl (by decide) (by decide) hk1 hFc hP1 hD1
      generalize H1 = H at hP hS ⊢
      have hP : va_P (dC, dI) vwCl (mW mh0 mh1 mh2 mh3 mc1 mc2 mc3 mk1 mk2 mk3 2 mf1 mf2 mf3 mf4 mf5 mf6 mf7 mf8 mf9) H := hP
      have hD : va_D A (mW mh0 mh1 mh2 mh3 mc1 mc2 mc3 mk1 mk2 mk3 2 mf1 mf2 mf3 mf4 mf5 mf6 mf7 mf8 mf9) := hD
      exact W.iret (v := 0) hx hb hr (fun t ht hW => ⟨⟨0, (mk1, mk2, mk3, 2, mf1, mf2, mf3, mf4, mf5, mf6, mf7, mf8, mf9), rfl, (by rw [fX1_add, if_neg c_1, if_pos c_2]), by rw [ht]; exact hP, va_K.moved hW.alike hK, hD⟩, hS.F ht⟩) hS.2.2 dX1_add_35
  · refine lv_aload_n hx hb dX1_add_15 rfl (lv_at hl 0 rfl) ?_
    refine lv_iconst (v := 1) hx hb dX1_add_16 (by decide) ?_
    have hFc := va_free (wc := (mW mh0 mh1 mh2 mh3 mc1 mc2 mc3 mk1 mk2 mk3 0 mf1 mf2 mf3 mf4 mf5 mf6 mf7 mf8 mf9)) hD hS hA [0, 1, 2, 3] rfl
    refine va_calli (va_runV (As := [.int 1]) (rest := []) ⟨hx, hb, hml, hown, htG⟩ (mX1_fail l dC dI mh0 mh1 mh2 mh3 H.size mc1 mc2 mc3 mk1 mk2 mk3 0 mf1 mf2 mf3 mf4 mf5 mf6 mf7 mf8 mf9 1) (cwV 1 htG (wG_V wd_387 wd_389 wd_11 wd_23 wd_390) rfl rfl rfl (by decide +kernel) ⟨Nat.le_of_ble_eq_true rfl, Nat.le_of_ble_eq_true rfl⟩) ⟨fun a U g mk q => by obtain ⟨q0, q1, qP, qK, qD⟩ := q; exact ⟨q0, q1, qP, va_K.moved (u := U) (U := U.calling g mk a) (Vm.Alike.refl U.vm) qK, qD⟩, va_recv hK hP (ci := 1) (q0 := 0) rfl rfl, fun U hU hW => ⟨rfl, by rw [hU], by rw [hU]; exact hP, va_K.moved hW.alike hK, hD.weaken (fun _ _ _ _ => trivial)⟩⟩ rfl rfl hl.1 rfl (lv_room (Nat.le_of_ble_eq_true rfl)) dX1_add_17 ⟨Nat.le_of_ble_eq_true rfl, Nat.le_of_ble_eq_true rfl⟩) hS (fun q _ h => hFc q h) hFc (fun r_7 u t H1 locs ht hvm hw hB hz1 hk1 hS => ?_)
    rw [fX1_fail] at hw
    cases hw
    obtain ⟨hP1, hK1, hD1⟩ := hB
    rw [ht] at hP1
    obtain ⟨hP, hD⟩ := va_join (wr := []) (w1 := (mW mh0 mh1 mh2 mh3 mc1 mc2 mc3 mk1 mk2 mk3 1 mf1 mf2 mf3 mf4 mf5 mf6 mf7 mf8 mf9)) hP hD [0, 1, 2, 3] [] rfl rfl (by decide) (by decide) hk1 hFc hP1 hD1
    generalize H1 = H at hP hS ⊢
    have hP : va_P (dC, dI) vwCl (mW mh0 mh1 mh2 mh3 mc1 mc2 mc3 mk1 mk2 mk3 1 mf1 mf2 mf3 mf4 mf5 mf6 mf7 mf8 mf9) H := hP
    have hD : va_D A (mW mh0 mh1 mh2 mh3 mc1 mc2 mc3 mk1 mk2 mk3 1 mf1 mf2 mf3 mf4 mf5 mf6 mf7 mf8 mf9) := hD
    exact W.iret (v := 0) hx hb hr (fun t ht hW => ⟨⟨0, (mk1, mk2, mk3, 1, mf1, mf2, mf3, mf4, mf5, mf6, mf7, mf8, mf9), rfl, (by rw [fX1_add, if_pos c_1]), by rw [ht]; exact hP, va_K.moved hW.alike hK, hD⟩, hS.F ht⟩) hS.2.2 dX1_add_20
end
section
abbrev wsX0_init : List Cond := .code yX0_init cX0_init 1 none :: wG
def xWI : xWS := ((fun _ => 0), (fun _ => 0), (fun _ => 0), 0, 4, 0, 0, 0, 0, 0, 0, 0, 0, 0)
set_option maxHeartbeats 4000000 in
set_option maxRecDepth 100000 in
theorem mX0_init (l : Launch) (dC : Nat → ClassId) (dI : Nat → Nat → Nat) (xh0 : Nat) (sz : Nat) : Met l yX0_init wsX0_init ({ frames := 1, cells := 3, slots := 180, locals := 12 }) (va_Pc [.ref xh0] (fun U => U.heap.size = sz ∧ va_P (dC, dI) vwCl [(xh0, .inr (0, [.null, .null, .null, .int 0, .int 0, .int 0, .int 0, .int 0, .int 0, .int 0, .int 0, .int 0, .int 0, .int 0]))] U.heap ∧ va_K (dC, dI) vwCl [] U ∧ va_D (fun _ => True) [(xh0, .inr (0, [.null, .null, .null, .int 0, .int 0, .int 0, .int 0, .int 0, .int 0, .int 0, .int 0, .int 0, .int 0, .int 0]))])) (va_Qv (fun u => u = xWI) (fun u t => ∃ (xh1 xh2 xh3 : Nat) (xc1 xc2 xc3 : ClassId), xWB dC dI (va_A [(xh0, .inr (0, [.null, .null, .null, .int 0, .int 0, .int 0, .int 0, .int 0, .int 0, .int 0, .int 0, .int 0, .int 0, .int 0]))] sz) xh0 xh1 xh2 xh3 xc1 xc2 xc3 u t) (va_A [(xh0, .inr (0, [.null, .null, .null, .int 0, .int 0, .int 0, .int 0, .int 0, .int 0, .int 0, .int 0, .int 0, .int 0, .int 0]))] sz)) 3 180 (va_A [(xh0, .inr (0, [.null, .null, .null, .int 0, .int 0, .int 0, .int 0, .int 0, .int 0, .int 0, .int 0, .int 0, .int 0, .int 0]))] sz) := by
  refine Met.ofW (cc := cX0_init) (maxL := 1) (ret := none) (by decide) rfl ?_
  intro p e s m args below meth c s₁ B hml hv
  obtain ⟨rfl, hsz, hP, hK, hD0⟩ := hv
  have hx := B.exec
  have hb := B.bytes
  have hr := B.returns
  have hts := atoms_spec (ws := wsX0_init) B.pre
  have htG := fun (w : Cond) (h : w ∈ wG) => hts w (List.mem_cons_of_mem _ h)
  have hown : s.vm.findClass RX0 = some m.cls := findClass_of_methodNamed B.named
  have hlocks := B.notSynchronized
  have hin : meth.name = "<init>" := (name_of_methodNamed B.named B.method).1
  subst hsz
  have hD := hD0.self (sz := s.heap.size)
  generalize hAe : va_A [(xh0, .inr (0, [.null, .null, .null, .int 0, .int 0, .int 0, .int 0, .int 0, .int 0, .int 0, .int 0, .int 0, .int 0, .int 0]))] s.heap.size = A at hD ⊢
  have hA : ∀ q : Nat, s.heap.size ≤ q → A q := fun q h => by rw [← hAe]; exact Or.inr h
  have hS : va_S A s.heap s.heap [] := va_S.rf
  have hP : va_P (dC, dI) vwCl [(xh0, .inr (0, [.null, .null, .null, .int 0, .int 0, .int 0, .int 0, .int 0, .int 0, .int 0, .int 0, .int 0, .int 0, .int 0]))] s.heap := hP
  have hl := lv_entry ([.ref xh0]) (n := 1) (Nat.le_of_ble_eq_true rfl)
  rw [lg_entry_eq]
  generalize (lg_sl ([.ref xh0]) ++ List.replicate (1 - (lg_sl ([.ref xh0])).length) Slot.unset).toArray = ls at hl ⊢
  have hl : lv_has ls 1 [(0, .ref xh0)] := hl
  refine lv_aload_n hx hb dX0_init_0 rfl (lv_at hl 0 rfl) ?_
  refine W.objInit hx hb hown (htG _ wd_37) (htG _ wd_38) (htG _ wd_39) rfl (by rw [hml]; exact hl.1) rfl dX0_init_1 (Nat.le_of_ble_eq_true rfl) (Nat.le_of_ble_eq_true rfl) ?_
  refine W.eq (g2 := F0 m 4 ls []) rfl ?_
  refine lv_aload_n hx hb dX0_init_4 rfl (lv_at hl 0 rfl) ?_
  refine lv_bipush (v := 60) hx hb dX0_init_5 (by decide) ?_
  refine va_newa (atype := .int) (N' := 60) (a0 := (60, .inl (fun _ => 0))) (ty := .int) (n := 60) hx hb (htG _ wd_83) rfl hK hP hD hS hA (fun _ => rfl) (by decide) (by decide) (by decide) (Nat.le_of_ble_eq_true rfl) (Nat.le_of_ble_eq_true rfl) dX0_init_7 (fun xh1 xc1 H hK hP hD hS => ?_)
  have hP : va_P (dC, dI) vwCl [(xh0, .inr (0, [.null, .null, .null, .int 0, .int 0, .int 0, .int 0, .int 0, .int 0, .int 0, .int 0, .int 0, .int 0, .int 0])), (xh1, .inl (xc1, 60, .inl (fun _ => 0)))] H := hP
  have hD : va_D A [(xh0, .inr (0, [.null, .null, .null, .int 0, .int 0, .int 0, .int 0, .int 0, .int 0, .int 0, .int 0, .int 0, .int 0, .int 0])), (xh1, .inl (xc1, 60, .inl (fun _ => 0)))] := hD
  have hK : va_K (dC, dI) vwCl [(xc1, .int)] s := hK
  refine W.widen (k := 1) (n := 60) (Nat.le_of_ble_eq_true rfl) (Nat.le_of_ble_eq_true rfl) ?_
  refine va_putF (D := (dC, dI)) (ci := 0) (v := .ref xh1) (ty := .array .int) (C := RX0) (T := TX0) (N := 14) hx hb htG inX0 tyX0 tyX0_ok nmX0 hown hK hP hD hS 0 rfl rfl 0 (by decide) (htG _ wd_40) (fun _ h9 => h9) rfl hin rfl (by decide +kernel) rfl rfl (Nat.le_of_ble_eq_true rfl) dX0_init_9 (fun H locs hP hD hS => ?_)
  have hP : va_P (dC, dI) vwCl [(xh0, .inr (0, [.ref xh1, .null, .null, .int 0, .int 0, .int 0, .int 0, .int 0, .int 0, .int 0, .int 0, .int 0, .int 0, .int 0])), (xh1, .inl (xc1, 60, .inl (fun _ => 0)))] H := hP
  have hD : va_D A [(xh0, .inr (0, [.ref xh1, .null, .null, .int 0, .int 0, .int 0, .int 0, .int 0, .int 0, .int 0, .int 0, .int 0, .int 0, .int 0])), (xh1, .inl (xc1, 60, .inl (fun _ => 0)))] := hD
  refine lv_aload_n hx hb dX0_init_12 rfl (lv_at hl 0 rfl) ?_
  refine lv_bipush (v := 60) hx hb dX0_init_13 (by decide) ?_
  refine va_newa (atype := .int) (N' := 60) (a0 := (60, .inl (fun _ => 0))) (ty := .int) (n := 60) hx hb (htG _ wd_83) rfl hK hP hD hS hA (fun _ => rfl) (by decide) (by decide) (by decide) (Nat.le_of_ble_eq_true rfl) (Nat.le_of_ble_eq_true rfl) dX0_init_15 (fun xh2 xc2 H hK hP hD hS => ?_)
  have hP : va_P (dC, dI) vwCl [(xh0, .inr (0, [.ref xh1, .null, .null, .int 0, .int 0, .int 0, .int 0, .int 0, .int 0, .int 0, .int 0, .int 0, .int 0, .int 0])), (xh1, .inl (xc1, 60, .inl (fun _ => 0))), (xh2, .inl (xc2, 60, .inl (fun _ => 0)))] H := hP
  have hD : va_D A [(xh0, .inr (0, [.ref xh1, .null, .null, .int 0, .int 0, .int 0, .int 0, .int 0, .int 0, .int 0, .int 0, .int 0, .int 0, .int 0])), (xh1, .inl (xc1, 60, .inl (fun _ => 0))), (xh2, .inl (xc2, 60, .inl (fun _ => 0)))] := hD
  have hK : va_K (dC, dI) vwCl [(xc1, .int), (xc2, .int)] s := hK
  refine W.widen (k := 2) (n := 120) (Nat.le_of_ble_eq_true rfl) (Nat.le_of_ble_eq_true rfl) ?_
  refine va_putF (D := (dC, dI)) (ci := 0) (v := .ref xh2) (ty := .array .int) (C := RX0) (T := TX0) (N := 14) hx hb htG inX0 tyX0 tyX0_ok nmX0 hown hK hP hD hS 0 rfl rfl 1 (by decide) (htG _ wd_41) (fun _ h9 => h9) rfl hin rfl (by decide +kernel) rfl rfl (Nat.le_of_ble_eq_true rfl) dX0_init_17 (fun H locs hP hD hS => ?_)
  have hP : va_P (dC, dI) vwCl [(xh0, .inr (0, [.ref xh1, .ref xh2, .null, .int 0, .int 0, .int 0, .int 0, .int 0, .int 0, .int 0, .int 0, .int 0, .int 0, .int 0])), (xh1, .inl (xc1, 60, .inl (fun _ => 0))), (xh2, .inl (xc2, 60, .inl (fun _ => 0)))] H := hP
  have hD : va_D A [(xh0, .inr (0, [.ref xh1, .ref xh2, .null, .int 0, .int 0, .int 0, .int 0, .int 0, .int 0, .int 0, .int 0, .int 0, .int 0, .int 0])), (xh1, .inl (xc1, 60, .inl (fun _ => 0))), (xh2, .inl (xc2, 60, .inl (fun _ => 0)))] := hD
  refine lv_aload_n hx hb dX0_init_20 rfl (lv_at hl 0 rfl) ?_
  refine lv_bipush (v := 60) hx hb dX0_init_21 (by decide) ?_
  refine va_newa (atype := .int) (N' := 60) (a0 := (60, .inl (fun _ => 0))) (ty := .int) (n := 60) hx hb (htG _ wd_83) rfl hK hP hD hS hA (fun _ => rfl) (by decide) (by decide) (by decide) (Nat.le_of_ble_eq_true rfl) (Nat.le_of_ble_eq_true rfl) dX0_init_23 (fun xh3 xc3 H hK hP hD hS => ?_)
  have hP : va_P (dC, dI) vwCl [(xh0, .inr (0, [.ref xh1, .ref xh2, .null, .int 0, .int 0, .int 0, .int 0, .int 0, .int 0, .int 0, .int 0, .int 0, .int 0, .int 0])), (xh1, .inl (xc1, 60, .inl (fun _ => 0))), (xh2, .inl (xc2, 60, .inl (fun _ => 0))), (xh3, .inl (xc3, 60, .inl (fun _ => 0)))] H := hP
  have hD : va_D A [(xh0, .inr (0, [.ref xh1, .ref xh2, .null, .int 0, .int 0, .int 0, .int 0, .int 0, .int 0, .int 0, .int 0, .int 0, .int 0, .int 0])), (xh1, .inl (xc1, 60, .inl (fun _ => 0))), (xh2, .inl (xc2, 60, .inl (fun _ => 0))), (xh3, .inl (xc3, 60, .inl (fun _ => 0)))] := hD
  have hK : va_K (dC, dI) vwCl [(xc1, .int), (xc2, .int), (xc3, .int)] s := hK
  refine W.widen (k := 3) (n := 180) (Nat.le_of_ble_eq_true rfl) (Nat.le_of_ble_eq_true rfl) ?_
  refine va_putF (D := (dC, dI)) (ci := 0) (v := .ref xh3) (ty := .array .int) (C := RX0) (T := TX0) (N := 14) hx hb htG inX0 tyX0 tyX0_ok nmX0 hown hK hP hD hS 0 rfl rfl 2 (by decide) (htG _ wd_42) (fun _ h9 => h9) rfl hin rfl (by decide +kernel) rfl rfl (Nat.le_of_ble_eq_true rfl) dX0_init_25 (fun H locs hP hD hS => ?_)
  have hP : va_P (dC, dI) vwCl [(xh0, .inr (0, [.ref xh1, .ref xh2, .ref xh3, .int 0, .int 0, .int 0, .int 0, .int 0, .int 0, .int 0, .int 0, .int 0, .int 0, .int 0])), (xh1, .inl (xc1, 60, .inl (fun _ => 0))), (xh2, .inl (xc2, 60, .inl (fun _ => 0))), (xh3, .inl (xc3, 60, .inl (fun _ => 0)))] H := hP
  have hD : va_D A [(xh0, .inr (0, [.ref xh1, .ref xh2, .ref xh3, .int 0, .int 0, .int 0, .int 0, .int 0, .int 0, .int 0, .int 0, .int 0, .int 0, .int 0])), (xh1, .inl (xc1, 60, .inl (fun _ => 0))), (xh2, .inl (xc2, 60, .inl (fun _ => 0))), (xh3, .inl (xc3, 60, .inl (fun _ => 0)))] := hD
  refine lv_aload_n hx hb dX0_init_28 rfl (lv_at hl 0 rfl) ?_
  refine lv_iconst (v := 0) hx hb dX0_init_29 (by decide) ?_
  refine va_put (D := (dC, dI)) (ci := 0) (v := .int 0) (ty := .int) (C := RX0) (T := TX0) (N := 14) hx hb htG inX0 tyX0 tyX0_ok nmX0 hown hK hP hD hS 0 rfl rfl 3 (by decide) (htG _ wd_43) (fun _ h9 => h9) rfl (by decide +kernel) rfl rfl (Nat.le_of_ble_eq_true rfl) dX0_init_30 (fun H locs hP hD hS => ?_)
  have hP : va_P (dC, dI) vwCl [(xh0, .inr (0, [.ref xh1, .ref xh2, .ref xh3, .int 0, .int 0, .int 0, .int 0, .int 0, .int 0, .int 0, .int 0, .int 0, .int 0, .int 0])), (xh1, .inl (xc1, 60, .inl (fun _ => 0))), (xh2, .inl (xc2, 60, .inl (fun _ => 0))), (xh3, .inl (xc3, 60, .inl (fun _ => 0)))] H := hP
  have hD : va_D A [(xh0, .inr (0, [.ref xh1, .ref xh2, .ref xh3, .int 0, .int 0, .int 0, .int 0, .int 0, .int 0, .int 0, .int 0, .int 0, .int 0, .int 0])), (xh1, .inl (xc1, 60, .inl (fun _ => 0))), (xh2, .inl (xc2, 60, .inl (fun _ => 0))), (xh3, .inl (xc3, 60, .inl (fun _ => 0)))] := hD
  refine lv_aload_n hx hb dX0_init_33 rfl (lv_at hl 0 rfl) ?_
  refine lv_iconst (v := 4) hx hb dX0_init_34 (by decide) ?_
  refine va_put (D := (dC, dI)) (ci := 0) (v := .int 4) (ty := .int) (C := RX0) (T := TX0) (N := 14) hx hb htG inX0 tyX0 tyX0_ok nmX0 hown hK hP hD hS 0 rfl rfl 4 (by decide) (htG _ wd_44) (fun _ h9 => h9) rfl (by decide +kernel) rfl rfl (Nat.le_of_ble_eq_true rfl) dX0_init_35 (fun H locs hP hD hS => ?_)
  have hP : va_P (dC, dI) vwCl [(xh0, .inr (0, [.ref xh1, .ref xh2, .ref xh3, .int 0, .int 4, .int 0, .int 0, .int 0, .int 0, .int 0, .int 0, .int 0, .int 0, .int 0])), (xh1, .inl (xc1, 60, .inl (fun _ => 0))), (xh2, .inl (xc2, 60, .inl (fun _ => 0))), (xh3, .inl (xc3, 60, .inl (fun _ => 0)))] H := hP
  have hD : va_D A [(xh0, .inr (0, [.ref xh1, .ref xh2, .ref xh3, .int 0, .int 4, .int 0, .int 0, .int 0, .int 0, .int 0, .int 0, .int 0, .int 0, .int 0])), (xh1, .inl (xc1, 60, .inl (fun _ => 0))), (xh2, .inl (xc2, 60, .inl (fun _ => 0))), (xh3, .inl (xc3, 60, .inl (fun _ => 0)))] := hD
  refine lv_aload_n hx hb dX0_init_38 rfl (lv_at hl 0 rfl) ?_
  refine lv_iconst (v := 0) hx hb dX0_init_39 (by decide) ?_
  refine va_put (D := (dC, dI)) (ci := 0) (v := .int 0) (ty := .boolean) (C := RX0) (T := TX0) (N := 14) hx hb htG inX0 tyX0 tyX0_ok nmX0 hown hK hP hD hS 0 rfl rfl 5 (by decide) (htG _ wd_45) (fun _ h9 => h9) rfl (by decide +kernel) rfl rfl (Nat.le_of_ble_eq_true rfl) dX0_init_40 (fun H locs hP hD hS => ?_)
  have hP : va_P (dC, dI) vwCl [(xh0, .inr (0, [.ref xh1, .ref xh2, .ref xh3, .int 0, .int 4, .int 0, .int 0, .int 0, .int 0, .int 0, .int 0, .int 0, .int 0, .int 0])), (xh1, .inl (xc1, 60, .inl (fun _ => 0))), (xh2, .inl (xc2, 60, .inl (fun _ => 0))), (xh3, .inl (xc3, 60, .inl (fun _ => 0)))] H := hP
  have hD : va_D A [(xh0, .inr (0, [.ref xh1, .ref xh2, .ref xh3, .int 0, .int 4, .int 0, .int 0, .int 0, .int 0, .int 0, .int 0, .int 0, .int 0, .int 0])), (xh1, .inl (xc1, 60, .inl (fun _ => 0))), (xh2, .inl (xc2, 60, .inl (fun _ => 0))), (xh3, .inl (xc3, 60, .inl (fun _ => 0)))] := hD
  refine lv_aload_n hx hb dX0_init_43 rfl (lv_at hl 0 rfl) ?_
  refine lv_iconst (v := 0) hx hb dX0_init_44 (by decide) ?_
  refine va_put (D := (dC, dI)) (ci := 0) (v := .int 0) (ty := .int) (C := RX0) (T := TX0) (N := 14) hx hb htG inX0 tyX0 tyX0_ok nmX0 hown hK hP hD hS 0 rfl rfl 6 (by decide) (htG _ wd_46) (fun _ h9 => h9) rfl (by decide +kernel) rfl rfl (Nat.le_of_ble_eq_true rfl) dX0_init_45 (fun H locs hP hD hS => ?_)
  have hP : va_P (dC, dI) vwCl [(xh0, .inr (0, [.ref xh1, .ref xh2, .ref xh3, .int 0, .int 4, .int 0, .int 0, .int 0, .int 0, .int 0, .int 0, .int 0, .int 0, .int 0])), (xh1, .inl (xc1, 60, .inl (fun _ => 0))), (xh2, .inl (xc2, 60, .inl (fun _ => 0))), (xh3, .inl (xc3, 60, .inl (fun _ => 0)))] H := hP
  have hD : va_D A [(xh0, .inr (0, [.ref xh1, .ref xh2, .ref xh3, .int 0, .int 4, .int 0, .int 0, .int 0, .int 0, .int 0, .int 0, .int 0, .int 0, .int 0])), (xh1, .inl (xc1, 60, .inl (fun _ => 0))), (xh2, .inl (xc2, 60, .inl (fun _ => 0))), (xh3, .inl (xc3, 60, .inl (fun _ => 0)))] := hD
  refine lv_aload_n hx hb dX0_init_48 rfl (lv_at hl 0 rfl) ?_
  refine lv_iconst (v := 0) hx hb dX0_init_49 (by decide) ?_
  refine va_put (D := (dC, dI)) (ci := 0) (v := .int 0) (ty := .int) (C := RX0) (T := TX0) (N := 14) hx hb htG inX0 tyX0 tyX0_ok nmX0 hown hK hP hD hS 0 rfl rfl 7 (by decide) (htG _ wd_47) (fun _ h9 => h9) rfl (by decide +kernel) rfl rfl (Nat.le_of_ble_eq_true rfl) dX0_init_50 (fun H locs hP hD hS => ?_)
  have hP : va_P (dC, dI) vwCl [(xh0, .inr (0, [.ref xh1, .ref xh2, .ref xh3, .int 0, .int 4, .int 0, .int 0, .int 0, .int 0, .int 0, .int 0, .int 0, .int 0, .int 0])), (xh1, .inl (xc1, 60, .inl (fun _ => 0))), (xh2, .inl (xc2, 60, .inl (fun _ => 0))), (xh3, .inl (xc3, 60, .inl (fun _ => 0)))] H := hP
  have hD : va_D A [(xh0, .inr (0, [.ref xh1, .ref xh2, .ref xh3, .int 0, .int 4, .int 0, .int 0, .int 0, .int 0, .int 0, .int 0, .int 0, .int 0, .int 0])), (xh1, .inl (xc1, 60, .inl (fun _ => 0))), (xh2, .inl (xc2, 60, .inl (fun _ => 0))), (xh3, .inl (xc3, 60, .inl (fun _ => 0)))] := hD
  refine lv_aload_n hx hb dX0_init_53 rfl (lv_at hl 0 rfl) ?_
  refine lv_iconst (v := 0) hx hb dX0_init_54 (by decide) ?_
  refine va_put (D := (dC, dI)) (ci := 0) (v := .int 0) (ty := .int) (C := RX0) (T := TX0) (N := 14) hx hb htG inX0 tyX0 tyX0_ok nmX0 hown hK hP hD hS 0 rfl rfl 8 (by decide) (htG _ wd_48) (fun _ h9 => h9) rfl (by decide +kernel) rfl rfl (Nat.le_of_ble_eq_true rfl) dX0_init_55 (fun H locs hP hD hS => ?_)
  have hP : va_P (dC, dI) vwCl [(xh0, .inr (0, [.ref xh1, .ref xh2, .ref xh3, .int 0, .int 4, .int 0, .int 0, .int 0, .int 0, .int 0, .int 0, .int 0, .int 0, .int 0])), (xh1, .inl (xc1, 60, .inl (fun _ => 0))), (xh2, .inl (xc2, 60, .inl (fun _ => 0))), (xh3, .inl (xc3, 60, .inl (fun _ => 0)))] H := hP
  have hD : va_D A [(xh0, .inr (0, [.ref xh1, .ref xh2, .ref xh3, .int 0, .int 4, .int 0, .int 0, .int 0, .int 0, .int 0, .int 0, .int 0, .int 0, .int 0])), (xh1, .inl (xc1, 60, .inl (fun _ => 0))), (xh2, .inl (xc2, 60, .inl (fun _ => 0))), (xh3, .inl (xc3, 60, .inl (fun _ => 0)))] := hD
  refine lv_aload_n hx hb dX0_init_58 rfl (lv_at hl 0 rfl) ?_
  refine lv_iconst (v := 0) hx hb dX0_init_59 (by decide) ?_
  refine va_put (D := (dC, dI)) (ci := 0) (v := .int 0) (ty := .int) (C := RX0) (T := TX0) (N := 14) hx hb htG inX0 tyX0 tyX0_ok nmX0 hown hK hP hD hS 0 rfl rfl 9 (by decide) (htG _ wd_49) (fun _ h9 => h9) rfl (by decide +kernel) rfl rfl (Nat.le_of_ble_eq_true rfl) dX0_init_60 (fun H locs hP hD hS => ?_)
  have hP : va_P (dC, dI) vwCl [(xh0, .inr (0, [.ref xh1, .ref xh2, .ref xh3, .int 0, .int 4, .int 0, .int 0, .int 0, .int 0, .int 0, .int 0, .int 0, .int 0, .int 0])), (xh1, .inl (xc1, 60, .inl (fun _ => 0))), (xh2, .inl (xc2, 60, .inl (fun _ => 0))), (xh3, .inl (xc3, 60, .inl (fun _ => 0)))] H := hP
  have hD : va_D A [(xh0, .inr (0, [.ref xh1, .ref xh2, .ref xh3, .int 0, .int 4, .int 0, .int 0, .int 0, .int 0, .int 0, .int 0, .int 0, .int 0, .int 0])), (xh1, .inl (xc1, 60, .inl (fun _ => 0))), (xh2, .inl (xc2, 60, .inl (fun _ => 0))), (xh3, .inl (xc3, 60, .inl (fun _ => 0)))] := hD
  refine lv_aload_n hx hb dX0_init_63 rfl (lv_at hl 0 rfl) ?_
  refine lv_iconst (v := 0) hx hb dX0_init_64 (by decide) ?_
  refine va_put (D := (dC, dI)) (ci := 0) (v := .int 0) (ty := .int) (C := RX0) (T := TX0) (N := 14) hx hb htG inX0 tyX0 tyX0_ok nmX0 hown hK hP hD hS 0 rfl rfl 10 (by decide) (htG _ wd_50) (fun _ h9 => h9) rfl (by decide +kernel) rfl rfl (Nat.le_of_ble_eq_true rfl) dX0_init_65 (fun H locs hP hD hS => ?_)
  have hP : va_P (dC, dI) vwCl [(xh0, .inr (0, [.ref xh1, .ref xh2, .ref xh3, .int 0, .int 4, .int 0, .int 0, .int 0, .int 0, .int 0, .int 0, .int 0, .int 0, .int 0])), (xh1, .inl (xc1, 60, .inl (fun _ => 0))), (xh2, .inl (xc2, 60, .inl (fun _ => 0))), (xh3, .inl (xc3, 60, .inl (fun _ => 0)))] H := hP
  have hD : va_D A [(xh0, .inr (0, [.ref xh1, .ref xh2, .ref xh3, .int 0, .int 4, .int 0, .int 0, .int 0, .int 0, .int 0, .int 0, .int 0, .int 0, .int 0])), (xh1, .inl (xc1, 60, .inl (fun _ => 0))), (xh2, .inl (xc2, 60, .inl (fun _ => 0))), (xh3, .inl (xc3, 60, .inl (fun _ => 0)))] := hD
  refine lv_aload_n hx hb dX0_init_68 rfl (lv_at hl 0 rfl) ?_
  refine lv_iconst (v := 0) hx hb dX0_init_69 (by decide) ?_
  refine va_put (D := (dC, dI)) (ci := 0) (v := .int 0) (ty := .int) (C := RX0) (T := TX0) (N := 14) hx hb htG inX0 tyX0 tyX0_ok nmX0 hown hK hP hD hS 0 rfl rfl 11 (by decide) (htG _ wd_51) (fun _ h9 => h9) rfl (by decide +kernel) rfl rfl (Nat.le_of_ble_eq_true rfl) dX0_init_70 (fun H locs hP hD hS => ?_)
  have hP : va_P (dC, dI) vwCl [(xh0, .inr (0, [.ref xh1, .ref xh2, .ref xh3, .int 0, .int 4, .int 0, .int 0, .int 0, .int 0, .int 0, .int 0, .int 0, .int 0, .int 0])), (xh1, .inl (xc1, 60, .inl (fun _ => 0))), (xh2, .inl (xc2, 60, .inl (fun _ => 0))), (xh3, .inl (xc3, 60, .inl (fun _ => 0)))] H := hP
  have hD : va_D A [(xh0, .inr (0, [.ref xh1, .ref xh2, .ref xh3, .int 0, .int 4, .int 0, .int 0, .int 0, .int 0, .int 0, .int 0, .int 0, .int 0, .int 0])), (xh1, .inl (xc1, 60, .inl (fun _ => 0))), (xh2, .inl (xc2, 60, .inl (fun _ => 0))), (xh3, .inl (xc3, 60, .inl (fun _ => 0)))] := hD
  refine lv_aload_n hx hb dX0_init_73 rfl (lv_at hl 0 rfl) ?_
  refine lv_iconst (v := 0) hx hb dX0_init_74 (by decide) ?_
  refine va_put (D := (dC, dI)) (ci := 0) (v := .int 0) (ty := .int) (C := RX0) (T := TX0) (N := 14) hx hb htG inX0 tyX0 tyX0_ok nmX0 hown hK hP hD hS 0 rfl rfl 12 (by decide) (htG _ wd_52) (fun _ h9 => h9) rfl (by decide +kernel) rfl rfl (Nat.le_of_ble_eq_true rfl) dX0_init_75 (fun H locs hP hD hS => ?_)
  have hP : va_P (dC, dI) vwCl [(xh0, .inr (0, [.ref xh1, .ref xh2, .ref xh3, .int 0, .int 4, .int 0, .int 0, .int 0, .int 0, .int 0, .int 0, .int 0, .int 0, .int 0])), (xh1, .inl (xc1, 60, .inl (fun _ => 0))), (xh2, .inl (xc2, 60, .inl (fun _ => 0))), (xh3, .inl (xc3, 60, .inl (fun _ => 0)))] H := hP
  have hD : va_D A [(xh0, .inr (0, [.ref xh1, .ref xh2, .ref xh3, .int 0, .int 4, .int 0, .int 0, .int 0, .int 0, .int 0, .int 0, .int 0, .int 0, .int 0])), (xh1, .inl (xc1, 60, .inl (fun _ => 0))), (xh2, .inl (xc2, 60, .inl (fun _ => 0))), (xh3, .inl (xc3, 60, .inl (fun _ => 0)))] := hD
  refine lv_aload_n hx hb dX0_init_78 rfl (lv_at hl 0 rfl) ?_
  refine lv_iconst (v := 0) hx hb dX0_init_79 (by decide) ?_
  refine va_put (D := (dC, dI)) (ci := 0) (v := .int 0) (ty := .int) (C := RX0) (T := TX0) (N := 14) hx hb htG inX0 tyX0 tyX0_ok nmX0 hown hK hP hD hS 0 rfl rfl 13 (by decide) (htG _ wd_53) (fun _ h9 => h9) rfl (by decide +kernel) rfl rfl (Nat.le_of_ble_eq_true rfl) dX0_init_80 (fun H locs hP hD hS => ?_)
  have hP : va_P (dC, dI) vwCl [(xh0, .inr (0, [.ref xh1, .ref xh2, .ref xh3, .int 0, .int 4, .int 0, .int 0, .int 0, .int 0, .int 0, .int 0, .int 0, .int 0, .int 0])), (xh1, .inl (xc1, 60, .inl (fun _ => 0))), (xh2, .inl (xc2, 60, .inl (fun _ => 0))), (xh3, .inl (xc3, 60, .inl (fun _ => 0)))] H := hP
  have hD : va_D A [(xh0, .inr (0, [.ref xh1, .ref xh2, .ref xh3, .int 0, .int 4, .int 0, .int 0, .int 0, .int 0, .int 0, .int 0, .int 0, .int 0, .int 0])), (xh1, .inl (xc1, 60, .inl (fun _ => 0))), (xh2, .inl (xc2, 60, .inl (fun _ => 0))), (xh3, .inl (xc3, 60, .inl (fun _ => 0)))] := hD
  exact W.vret hx hb hr (fun t ht hW => ⟨⟨((fun _ => 0), (fun _ => 0), (fun _ => 0), 0, 4, 0, 0, 0, 0, 0, 0, 0, 0, 0), rfl, rfl, xh1, xh2, xh3, xc1, xc2, xc3, by rw [ht]; exact hP, va_K.moved hW.alike hK, hD⟩, hS.F ht⟩) hS.2.2 dX0_init_83
abbrev wsX1_init : List Cond := .code yX1_init cX1_init 1 none :: wG
def mWI : mWS := ((fun _ => 0), (fun _ => 0), (fun _ => 0), 0, 4, 0, 0, 0, 0, 0, 0, 0, 0)
set_option maxHeartbeats 4000000 in
set_option maxRecDepth 100000 in
theorem mX1_init (l : Launch) (dC : Nat → ClassId) (dI : Nat → Nat → Nat) (mh0 : Nat) (sz : Nat) : Met l yX1_init wsX1_init ({ frames := 1, cells := 3, slots := 180, locals := 12 }) (va_Pc [.ref mh0] (fun U => U.heap.size = sz ∧ va_P (dC, dI) vwCl [(mh0, .inr (1, [.int 0, .int 0, .int 0, .int 0, .int 0, .int 0, .int 0, .int 0, .int 0, .int 0, .null, .null, .null]))] U.heap ∧ va_K (dC, dI) vwCl [] U ∧ va_D (fun _ => True) [(mh0, .inr (1, [.int 0, .int 0, .int 0, .int 0, .int 0, .int 0, .int 0, .int 0, .int 0, .int 0, .null, .null, .null]))])) (va_Qv (fun u => u = mWI) (fun u t => ∃ (mh1 mh2 mh3 : Nat) (mc1 mc2 mc3 : ClassId), mWB dC dI (va_A [(mh0, .inr (1, [.int 0, .int 0, .int 0, .int 0, .int 0, .int 0, .int 0, .int 0, .int 0, .int 0, .null, .null, .null]))] sz) mh0 mh1 mh2 mh3 mc1 mc2 mc3 u t) (va_A [(mh0, .inr (1, [.int 0, .int 0, .int 0, .int 0, .int 0, .int 0, .int 0, .int 0, .int 0, .int 0, .null, .null, .null]))] sz)) 3 180 (va_A [(mh0, .inr (1, [.int 0, .int 0, .int 0, .int 0, .int 0, .int 0, .int 0, .int 0, .int 0, .int 0, .null, .null, .null]))] sz) := by
  refine Met.ofW (cc := cX1_init) (maxL := 1) (ret := none) (by decide) rfl ?_
  intro p e s m args below meth c s₁ B hml hv
  obtain ⟨rfl, hsz, hP, hK, hD0⟩ := hv
  have hx := B.exec
  have hb := B.bytes
  have hr := B.returns
  have hts := atoms_spec (ws := wsX1_init) B.pre
  have htG := fun (w : Cond) (h : w ∈ wG) => hts w (List.mem_cons_of_mem _ h)
  have hown : s.vm.findClass RX1 = some m.cls := findClass_of_methodNamed B.named
  have hlocks := B.notSynchronized
  have hin : meth.name = "<init>" := (name_of_methodNamed B.named B.method).1
  subst hsz
  have hD := hD0.self (sz := s.heap.size)
  generalize hAe : va_A [(mh0, .inr (1, [.int 0, .int 0, .int 0, .int 0, .int 0, .int 0, .int 0, .int 0, .int 0, .int 0, .null, .null, .null]))] s.heap.size = A at hD ⊢
  have hA : ∀ q : Nat, s.heap.size ≤ q → A q := fun q h => by rw [← hAe]; exact Or.inr h
  have hS : va_S A s.heap s.heap [] := va_S.rf
  have hP : va_P (dC, dI) vwCl [(mh0, .inr (1, [.int 0, .int 0, .int 0, .int 0, .int 0, .int 0, .int 0, .int 0, .int 0, .int 0, .null, .null, .null]))] s.heap := hP
  have hl := lv_entry ([.ref mh0]) (n := 1) (Nat.le_of_ble_eq_true rfl)
  rw [lg_entry_eq]
  generalize (lg_sl ([.ref mh0]) ++ List.replicate (1 - (lg_sl ([.ref mh0])).length) Slot.unset).toArray = ls at hl ⊢
  have hl : lv_has ls 1 [(0, .ref mh0)] := hl
  refine lv_aload_n hx hb dX1_init_0 rfl (lv_at hl 0 rfl) ?_
  refine W.objInit hx hb hown (htG _ wd_330) (htG _ wd_38) (htG _ wd_39) rfl (by rw [hml]; exact hl.1) rfl dX1_init_1 (Nat.le_of_ble_eq_true rfl) (Nat.le_of_ble_eq_true rfl) ?_
  refine W.eq (g2 := F0 m 4 ls []) rfl ?_
  refine lv_aload_n hx hb dX1_init_4 rfl (lv_at hl 0 rfl) ?_
  refine lv_iconst (v := 4) hx hb dX1_init_5 (by decide) ?_
  refine va_put (D := (dC, dI)) (ci := 1) (v := .int 4) (ty := .int) (C := RX1) (T := TX1) (N := 13) hx hb htG inX1 tyX1 tyX1_ok nmX1 hown hK hP hD hS 0 rfl rfl 1 (by decide) (htG _ wd_332) (fun _ h9 => h9) rfl (by decide +kernel) rfl rfl (Nat.le_of_ble_eq_true rfl) dX1_init_6 (fun H locs hP hD hS => ?_)
  have hP : va_P (dC, dI) vwCl [(mh0, .inr (1, [.int 0, .int 4, .int 0, .int 0, .int 0, .int 0, .int 0, .int 0, .int 0, .int 0, .null, .null, .null]))] H := hP
  have hD : va_D A [(mh0, .inr (1, [.int 0, .int 4, .int 0, .int 0, .int 0, .int 0, .int 0, .int 0, .int 0, .int 0, .null, .null, .null]))] := hD
  refine lv_aload_n hx hb dX1_init_9 rfl (lv_at hl 0 rfl) ?_
  refine lv_bipush (v := 60) hx hb dX1_init_10 (by decide) ?_
  refine va_newa (atype := .int) (N' := 60) (a0 := (60, .inl (fun _ => 0))) (ty := .int) (n := 60) hx hb (htG _ wd_83) rfl hK hP hD hS hA (fun _ => rfl) (by decide) (by decide) (by decide) (Nat.le_of_ble_eq_true rfl) (Nat.le_of_ble_eq_true rfl) dX1_init_12 (fun mh1 mc1 H hK hP hD hS => ?_)
  have hP : va_P (dC, dI) vwCl [(mh0, .inr (1, [.int 0, .int 4, .int 0, .int 0, .int 0, .int 0, .int 0, .int 0, .int 0, .int 0, .null, .null, .null])), (mh1, .inl (mc1, 60, .inl (fun _ => 0)))] H := hP
  have hD : va_D A [(mh0, .inr (1, [.int 0, .int 4, .int 0, .int 0, .int 0, .int 0, .int 0, .int 0, .int 0, .int 0, .null, .null, .null])), (mh1, .inl (mc1, 60, .inl (fun _ => 0)))] := hD
  have hK : va_K (dC, dI) vwCl [(mc1, .int)] s := hK
  refine W.widen (k := 1) (n := 60) (Nat.le_of_ble_eq_true rfl) (Nat.le_of_ble_eq_true rfl) ?_
  refine va_putF (D := (dC, dI)) (ci := 1) (v := .ref mh1) (ty := .array .int) (C := RX1) (T := TX1) (N := 13) hx hb htG inX1 tyX1 tyX1_ok nmX1 hown hK hP hD hS 0 rfl rfl 10 (by decide) (htG _ wd_341) (fun _ h9 => h9) rfl hin rfl (by decide +kernel) rfl rfl (Nat.le_of_ble_eq_true rfl) dX1_init_14 (fun H locs hP hD hS => ?_)
  have hP : va_P (dC, dI) vwCl [(mh0, .inr (1, [.int 0, .int 4, .int 0, .int 0, .int 0, .int 0, .int 0, .int 0, .int 0, .int 0, .ref mh1, .null, .null])), (mh1, .inl (mc1, 60, .inl (fun _ => 0)))] H := hP
  have hD : va_D A [(mh0, .inr (1, [.int 0, .int 4, .int 0, .int 0, .int 0, .int 0, .int 0, .int 0, .int 0, .int 0, .ref mh1, .null, .null])), (mh1, .inl (mc1, 60, .inl (fun _ => 0)))] := hD
  refine lv_aload_n hx hb dX1_init_17 rfl (lv_at hl 0 rfl) ?_
  refine lv_bipush (v := 60) hx hb dX1_init_18 (by decide) ?_
  refine va_newa (atype := .int) (N' := 60) (a0 := (60, .inl (fun _ => 0))) (ty := .int) (n := 60) hx hb (htG _ wd_83) rfl hK hP hD hS hA (fun _ => rfl) (by decide) (by decide) (by decide) (Nat.le_of_ble_eq_true rfl) (Nat.le_of_ble_eq_true rfl) dX1_init_20 (fun mh2 mc2 H hK hP hD hS => ?_)
  have hP : va_P (dC, dI) vwCl [(mh0, .inr (1, [.int 0, .int 4, .int 0, .int 0, .int 0, .int 0, .int 0, .int 0, .int 0, .int 0, .ref mh1, .null, .null])), (mh1, .inl (mc1, 60, .inl (fun _ => 0))), (mh2, .inl (mc2, 60, .inl (fun _ => 0)))] H := hP
  have hD : va_D A [(mh0, .inr (1, [.int 0, .int 4, .int 0, .int 0, .int 0, .int 0, .int 0, .int 0, .int 0, .int 0, .ref mh1, .null, .null])), (mh1, .inl (mc1, 60, .inl (fun _ => 0))), (mh2, .inl (mc2, 60, .inl (fun _ => 0)))] := hD
  have hK : va_K (dC, dI) vwCl [(mc1, .int), (mc2, .int)] s := hK
  refine W.widen (k := 2) (n := 120) (Nat.le_of_ble_eq_true rfl) (Nat.le_of_ble_eq_true rfl) ?_
  refine va_putF (D := (dC, dI)) (ci := 1) (v := .ref mh2) (ty := .array .int) (C := RX1) (T := TX1) (N := 13) hx hb htG inX1 tyX1 tyX1_ok nmX1 hown hK hP hD hS 0 rfl rfl 11 (by decide) (htG _ wd_342) (fun _ h9 => h9) rfl hin rfl (by decide +kernel) rfl rfl (Nat.le_of_ble_eq_true rfl) dX1_init_22 (fun H locs hP hD hS => ?_)
  have hP : va_P (dC, dI) vwCl [(mh0, .inr (1, [.int 0, .int 4, .int 0, .int 0, .int 0, .int 0, .int 0, .int 0, .int 0, .int 0, .ref mh1, .ref mh2, .null])), (mh1, .inl (mc1, 60, .inl (fun _ => 0))), (mh2, .inl (mc2, 60, .inl (fun _ => 0)))] H := hP
  have hD : va_D A [(mh0, .inr (1, [.int 0, .int 4, .int 0, .int 0, .int 0, .int 0, .int 0, .int 0, .int 0, .int 0, .ref mh1, .ref mh2, .null])), (mh1, .inl (mc1, 60, .inl (fun _ => 0))), (mh2, .inl (mc2, 60, .inl (fun _ => 0)))] := hD
  refine lv_aload_n hx hb dX1_init_25 rfl (lv_at hl 0 rfl) ?_
  refine lv_bipush (v := 60) hx hb dX1_init_26 (by decide) ?_
  refine va_newa (atype := .int) (N' := 60) (a0 := (60, .inl (fun _ => 0))) (ty := .int) (n := 60) hx hb (htG _ wd_83) rfl hK hP hD hS hA (fun _ => rfl) (by decide) (by decide) (by decide) (Nat.le_of_ble_eq_true rfl) (Nat.le_of_ble_eq_true rfl) dX1_init_28 (fun mh3 mc3 H hK hP hD hS => ?_)
  have hP : va_P (dC, dI) vwCl [(mh0, .inr (1, [.int 0, .int 4, .int 0, .int 0, .int 0, .int 0, .int 0, .int 0, .int 0, .int 0, .ref mh1, .ref mh2, .null])), (mh1, .inl (mc1, 60, .inl (fun _ => 0))), (mh2, .inl (mc2, 60, .inl (fun _ => 0))), (mh3, .inl (mc3, 60, .inl (fun _ => 0)))] H := hP
  have hD : va_D A [(mh0, .inr (1, [.int 0, .int 4, .int 0, .int 0, .int 0, .int 0, .int 0, .int 0, .int 0, .int 0, .ref mh1, .ref mh2, .null])), (mh1, .inl (mc1, 60, .inl (fun _ => 0))), (mh2, .inl (mc2, 60, .inl (fun _ => 0))), (mh3, .inl (mc3, 60, .inl (fun _ => 0)))] := hD
  have hK : va_K (dC, dI) vwCl [(mc1, .int), (mc2, .int), (mc3, .int)] s := hK
  refine W.widen (k := 3) (n := 180) (Nat.le_of_ble_eq_true rfl) (Nat.le_of_ble_eq_true rfl) ?_
  refine va_putF (D := (dC, dI)) (ci := 1) (v := .ref mh3) (ty := .array .int) (C := RX1) (T := TX1) (N := 13) hx hb htG inX1 tyX1 tyX1_ok nmX1 hown hK hP hD hS 0 rfl rfl 12 (by decide) (htG _ wd_343) (fun _ h9 => h9) rfl hin rfl (by decide +kernel) rfl rfl (Nat.le_of_ble_eq_true rfl) dX1_init_30 (fun H locs hP hD hS => ?_)
  have hP : va_P (dC, dI) vwCl [(mh0, .inr (1, [.int 0, .int 4, .int 0, .int 0, .int 0, .int 0, .int 0, .int 0, .int 0, .int 0, .ref mh1, .ref mh2, .ref mh3])), (mh1, .inl (mc1, 60, .inl (fun _ => 0))), (mh2, .inl (mc2, 60, .inl (fun _ => 0))), (mh3, .inl (mc3, 60, .inl (fun _ => 0)))] H := hP
  have hD : va_D A [(mh0, .inr (1, [.int 0, .int 4, .int 0, .int 0, .int 0, .int 0, .int 0, .int 0, .int 0, .int 0, .ref mh1, .ref mh2, .ref mh3])), (mh1, .inl (mc1, 60, .inl (fun _ => 0))), (mh2, .inl (mc2, 60, .inl (fun _ => 0))), (mh3, .inl (mc3, 60, .inl (fun _ => 0)))] := hD
  exact W.vret hx hb hr (fun t ht hW => ⟨⟨((fun _ => 0), (fun _ => 0), (fun _ => 0), 0, 4, 0, 0, 0, 0, 0, 0, 0, 0), rfl, rfl, mh1, mh2, mh3, mc1, mc2, mc3, by rw [ht]; exact hP, va_K.moved hW.alike hK, hD⟩, hS.F ht⟩) hS.2.2 dX1_init_33
end
section
theorem n10 : ¬ (1 : Int32) = 0 := by decide
theorem n20 : ¬ (2 : Int32) = 0 := by decide
theorem in_01 : vp_in 0 1 := in_lt (M := 1) (by decide) (by decide) (by decide)
abbrev loW (xh0 xh1 xh2 xh3 : Nat) (xc1 xc2 xc3 : ClassId) (oh : Nat) (oc : ClassId) (xk1 xk2 xk3 : Nat → Int32) (xf3 xf4 xf5 xf6 xf7 xf8 xf9 xf10 xf11 xf12 xf13 : Int32) (ov : Nat → Int64) : va_W := [(xh0, .inr (0, [.ref xh1, .ref xh2, .ref xh3, .int xf3, .int xf4, .int xf5, .int xf6, .int xf7, .int xf8, .int xf9, .int xf10, .int xf11, .int xf12, .int xf13])), (xh1, .inl (xc1, 60, .inl xk1)), (xh2, .inl (xc2, 60, .inl xk2)), (xh3, .inl (xc3, 60, .inl xk3)), (oh, .inl (oc, 1, .inr (.inl ov)))]
abbrev loWU (xh0 xh1 xh2 xh3 : Nat) (xc1 xc2 xc3 : ClassId) (oh : Nat) (oc : ClassId) (u : xWS × (Nat → Int64)) : va_W := loW xh0 xh1 xh2 xh3 xc1 xc2 xc3 oh oc u.1.1 u.1.2.1 u.1.2.2.1 u.1.2.2.2.1 u.1.2.2.2.2.1 u.1.2.2.2.2.2.1 u.1.2.2.2.2.2.2.1 u.1.2.2.2.2.2.2.2.1 u.1.2.2.2.2.2.2.2.2.1 u.1.2.2.2.2.2.2.2.2.2.1 u.1.2.2.2.2.2.2.2.2.2.2.1 u.1.2.2.2.2.2.2.2.2.2.2.2.1 u.1.2.2.2.2.2.2.2.2.2.2.2.2.1 u.1.2.2.2.2.2.2.2.2.2.2.2.2.2 u.2
abbrev loB (dC : Nat → ClassId) (dI : Nat → Nat → Nat) (A : Nat → Prop) (xh0 xh1 xh2 xh3 : Nat) (xc1 xc2 xc3 : ClassId) (oh : Nat) (oc : ClassId) (u : xWS × (Nat → Int64)) (t : State) : Prop := va_P (dC, dI) vwCl (loWU xh0 xh1 xh2 xh3 xc1 xc2 xc3 oh oc u) t.heap ∧ va_K (dC, dI) vwCl [(xc1, .int), (xc2, .int), (xc3, .int), (oc, .long)] t ∧ va_D A (loWU xh0 xh1 xh2 xh3 xc1 xc2 xc3 oh oc u)
/-- what a helper of the law makes of an answer of the class -/
def gX (f : Int32 × Int32 × xWS) (ov : Nat → Int64) : Int32 × xWS × (Nat → Int64) := (f.1, f.2.2, if f.1 = 0 then vp_updL ov (0 : Int32).toNatClampNeg f.2.1.toInt64 else ov)
def gY (f : Int32 × Int32 × xWS) : Int32 × xWS := (f.1, f.2.2)
abbrev wsL_begin : List Cond := .codeWith yL_begin cL_begin 6 (some .int) [(0, 9, 12, 13)] :: wG
set_option maxHeartbeats 4000000 in
set_option maxRecDepth 100000 in
theorem mL_begin (l : Launch) (hl9 : l.stackTraces = false) (dC : Nat → ClassId) (dI : Nat → Nat → Nat) (xh0 xh1 xh2 xh3 : Nat) (sz : Nat) (xc1 xc2 xc3 : ClassId) (xk1 xk2 xk3 : Nat → Int32) (xf3 xf4 xf5 xf6 xf7 xf8 xf9 xf10 xf11 xf12 xf13 : Int32) (p0 p1 p2 p3 : Int32) (ho : p3 = 0 ∨ p3 = 1) : Met l yL_begin wsL_begin ({ frames := 7, cells := 1, slots := 6, locals := 106 }) (va_Pc [.ref xh0, .int p0, .int p1, .int p2, .int p3] (fun U => U.heap.size = sz ∧ va_P (dC, dI) vwCl (xW xh0 xh1 xh2 xh3 xc1 xc2 xc3 xk1 xk2 xk3 xf3 xf4 xf5 xf6 xf7 xf8 xf9 xf10 xf11 xf12 xf13) U.heap ∧ va_K (dC, dI) vwCl [(xc1, .int), (xc2, .int), (xc3, .int)] U ∧ va_D (fun _ => True) (xW xh0 xh1 xh2 xh3 xc1 xc2 xc3 xk1 xk2 xk3 xf3 xf4 xf5 xf6 xf7 xf8 xf9 xf10 xf11 xf12 xf13) ∧ xZ (va_A (xW xh0 xh1 xh2 xh3 xc1 xc2 xc3 xk1 xk2 xk3 xf3 xf4 xf5 xf6 xf7 xf8 xf9 xf10 xf11 xf12 xf13) sz) U U.heap)) (va_Qi (fun r u => (r, u) = gY (fX0_begin xk1 xk2 xk3 xf3 xf4 xf5 xf6 xf7 xf8 xf9 xf10 xf11 xf12 xf13 p0 p1 p2 p3)) (xWB dC dI (va_A (xW xh0 xh1 xh2 xh3 xc1 xc2 xc3 xk1 xk2 xk3 xf3 xf4 xf5 xf6 xf7 xf8 xf9 xf10 xf11 xf12 xf13) sz) xh0 xh1 xh2 xh3 xc1 xc2 xc3) (va_A (xW xh0 xh1 xh2 xh3 xc1 xc2 xc3 xk1 xk2 xk3 xf3 xf4 xf5 xf6 xf7 xf8 xf9 xf10 xf11 xf12 xf13) sz)) 1 6 (va_A (xW xh0 xh1 xh2 xh3 xc1 xc2 xc3 xk1 xk2 xk3 xf3 xf4 xf5 xf6 xf7 xf8 xf9 xf10 xf11 xf12 xf13) sz) := by
  refine va_MetW (cc := cL_begin) (maxL := 6) (ret := (some .int)) (by decide) rfl ?_
  intro p e s m args below meth c s₁ B hml hv
  obtain ⟨rfl, hsz, hP, hK, hD0, hZ⟩ := hv
  have hx := B.exec
  have hb := B.bytes
  have hr := B.returns
  have hts := atoms_spec (ws := wsL_begin) B.pre
  have htG := fun (w : Cond) (h : w ∈ wG) => hts w (List.mem_cons_of_mem _ h)
  have hown : s.vm.findClass RL = some m.cls := findClass_of_methodNamed B.named
  have hlocks := B.notSynchronized
  have hTab : c.exceptionTable.toList = tableOf [(0, 9, 12, 13)] := vx_table (x := yL_begin) B (hts _ List.mem_cons_self)
  subst hsz
  have hD := hD0.self (sz := s.heap.size)
  generalize hAe : va_A (xW xh0 xh1 xh2 xh3 xc1 xc2 xc3 xk1 xk2 xk3 xf3 xf4 xf5 xf6 xf7 xf8 xf9 xf10 xf11 xf12 xf13) s.heap.size = A at hD hZ ⊢
  have hA : ∀ q : Nat, s.heap.size ≤ q → A q := fun q h => by rw [← hAe]; exact Or.inr h
  have hS : va_S A s.heap s.heap [] := va_S.rf
  have hP : va_P (dC, dI) vwCl (xW xh0 xh1 xh2 xh3 xc1 xc2 xc3 xk1 xk2 xk3 xf3 xf4 xf5 xf6 xf7 xf8 xf9 xf10 xf11 xf12 xf13) s.heap := hP
  have hl := lv_entry ([.ref xh0, .int p0, .int p1, .int p2, .int p3]) (n := 6) (Nat.le_of_ble_eq_true rfl)
  rw [lg_entry_eq]
  generalize (lg_sl ([.ref xh0, .int p0, .int p1, .int p2, .int p3]) ++ List.replicate (6 - (lg_sl ([.ref xh0, .int p0, .int p1, .int p2, .int p3])).length) Slot.unset).toArray = ls at hl ⊢
  have hl : lv_has ls 6 [(0, .ref xh0), (1, .int p0), (2, .int p1), (3, .int p2), (4, .int p3)] := hl
  refine lv_aload_n hx hb dL_begin_0 rfl (lv_at hl 0 rfl) ?_
  refine lv_iload_n hx hb dL_begin_1 rfl (lv_at hl 1 rfl) ?_
  refine lv_iload_n hx hb dL_begin_2 rfl (lv_at hl 2 rfl) ?_
  refine lv_iload_n hx hb dL_begin_3 rfl (lv_at hl 3 rfl) ?_
  refine lv_iload hx hb dL_begin_4 (lv_at hl 4 rfl) ?_
  have hPc := hP.sub (ws' := (xW xh0 xh1 xh2 xh3 xc1 xc2 xc3 xk1 xk2 xk3 xf3 xf4 xf5 xf6 xf7 xf8 xf9 xf10 xf11 xf12 xf13)) [0, 1, 2, 3] rfl
  have hDc := hD.sub (ws' := (xW xh0 xh1 xh2 xh3 xc1 xc2 xc3 xk1 xk2 xk3 xf3 xf4 xf5 xf6 xf7 xf8 xf9 xf10 xf11 xf12 xf13)) [0, 1, 2, 3] (by decide) rfl
  have hKc := hK.sub (tys' := [(xc1, .int), (xc2, .int), (xc3, .int)]) [0, 1, 2] rfl
  have hFc := va_free (wc := (xW xh0 xh1 xh2 xh3 xc1 xc2 xc3 xk1 xk2 xk3 xf3 xf4 xf5 xf6 xf7 xf8 xf9 xf10 xf11 xf12 xf13)) hD hS hA [0, 1, 2, 3] rfl
  refine vx_callv (vx_runV (As := [.int p0, .int p1, .int p2, .int p3]) (rest := []) ⟨hx, hb, hml, hown, htG⟩ (mX0_begin l hl9 dC dI xh0 xh1 xh2 xh3 s.heap.size xc1 xc2 xc3 xk1 xk2 xk3 xf3 xf4 xf5 xf6 xf7 xf8 xf9 xf10 xf11 xf12 xf13 p0 p1 p2 p3 ho) (cwV 4 htG (wG_V wd_106 wd_107 wd_108 wd_22 wd_109) rfl rfl rfl (by decide +kernel) ⟨Nat.le_of_ble_eq_true rfl, Nat.le_of_ble_eq_true rfl⟩) ⟨fun a U g mk q => by obtain ⟨q0, q1, qP, qK, qD, qZ⟩ := q; exact ⟨q0, q1, qP, va_K.moved (u := U) (U := U.calling g mk a) (Vm.Alike.refl U.vm) qK, qD, qZ.blind⟩, va_recv hKc hPc (ci := 0) (q0 := 0) rfl rfl, fun U hU hW => ⟨rfl, by rw [hU], by rw [hU]; exact hPc, va_K.moved hW.alike hKc, hDc.weaken (fun _ _ _ _ => trivial), xZ.pass hZ hS hW hU hFc⟩⟩ rfl rfl hl.1 rfl (lv_room (Nat.le_of_ble_eq_true rfl)) dL_begin_6 ⟨Nat.le_of_ble_eq_true rfl, Nat.le_of_ble_eq_true rfl⟩) hS (fun q _ h => hFc q h) hFc (fun q _ h => hFc q h) (fun E ce q9 u t H1 locs ht hvm hw hB hz1 hk1 hS hce hcv hcl => ?_) (fun u t H1 locs ht hvm hw hB hz1 hk1 hS => ?_)
  · obtain ⟨hE, hP1, hK1, hD1⟩ := hB
    rw [ht] at hP1
    obtain ⟨hP, hD⟩ := va_join (wr := []) (w1 := (xW xh0 xh1 xh2 xh3 xc1 xc2 xc3 xk1 xk2 xk3 xf3 xf4 xf5 xf6 xf7 xf8 xf9 xf10 xf11 xf12 xf13)) hP hD [0, 1, 2, 3] [] rfl rfl (by decide) (by decide) hk1 hFc hP1 hD1
    have hP : va_P (dC, dI) vwCl (xW xh0 xh1 xh2 xh3 xc1 xc2 xc3 xk1 xk2 xk3 xf3 xf4 xf5 xf6 xf7 xf8 xf9 xf10 xf11 xf12 xf13) H1 := hP
    have hD : va_D A (xW xh0 xh1 xh2 xh3 xc1 xc2 xc3 xk1 xk2 xk3 xf3 xf4 xf5 xf6 xf7 xf8 xf9 xf10 xf11 xf12 xf13) := hD
    obtain ⟨rfl, hf⟩ := hE
    refine vx_catch (own := RL) (name := "java/lang/IllegalArgumentException") (E := "java/lang/IllegalArgumentException") hown [] ⟨0, 9, 12, 13⟩ [] (by rw [hTab]; rfl) (fun z hz => nomatch hz) (by decide) (by decide) (htG _ wd_105) (va_Nw.use rfl hZ.2.2.1.1) hce hcv hcl ?_
    refine lv_astore (lv' := [(5, .ref q9), (0, .ref xh0), (1, .int p0), (2, .int p1), (3, .int p2), (4, .int p3)]) hx hb dL_begin_12 hl (by decide) rfl (fun ls hl => ?_)
    refine lv_iconst (v := 1) hx hb dL_begin_14 (by decide) ?_
    refine W.widen (k := 1) (n := 6) (Nat.le_of_ble_eq_true rfl) (Nat.le_of_ble_eq_true rfl) ?_
    exact W.iret (v := 1) hx hb hr (fun t ht hW => ⟨⟨1, (xk1, xk2, xk3, xf3, xf4, xf5, xf6, xf7, xf8, xf9, xf10, xf11, xf12, xf13), rfl, (by rw [hf, gY]), by rw [ht]; exact hP, va_K.moved hW.alike hK, hD⟩, hS.F ht⟩) hS.2.2 dL_begin_15
  · obtain ⟨hP1, hK1, hD1⟩ := hB
    rw [ht] at hP1
    obtain ⟨hP, hD⟩ := va_join (wr := []) (w1 := (xW xh0 xh1 xh2 xh3 xc1 xc2 xc3 u.1 u.2.1 u.2.2.1 u.2.2.2.1 u.2.2.2.2.1 u.2.2.2.2.2.1 u.2.2.2.2.2.2.1 u.2.2.2.2.2.2.2.1 u.2.2.2.2.2.2.2.2.1 u.2.2.2.2.2.2.2.2.2.1 u.2.2.2.2.2.2.2.2.2.2.1 u.2.2.2.2.2.2.2.2.2.2.2.1 u.2.2.2.2.2.2.2.2.2.2.2.2.1 u.2.2.2.2.2.2.2.2.2.2.2.2.2)) hP hD [0, 1, 2, 3] [] rfl rfl (by decide) (by decide) hk1 hFc hP1 hD1
    have hP : va_P (dC, dI) vwCl (xW xh0 xh1 xh2 xh3 xc1 xc2 xc3 u.1 u.2.1 u.2.2.1 u.2.2.2.1 u.2.2.2.2.1 u.2.2.2.2.2.1 u.2.2.2.2.2.2.1 u.2.2.2.2.2.2.2.1 u.2.2.2.2.2.2.2.2.1 u.2.2.2.2.2.2.2.2.2.1 u.2.2.2.2.2.2.2.2.2.2.1 u.2.2.2.2.2.2.2.2.2.2.2.1 u.2.2.2.2.2.2.2.2.2.2.2.2.1 u.2.2.2.2.2.2.2.2.2.2.2.2.2) H1 := hP
    have hD : va_D A (xW xh0 xh1 xh2 xh3 xc1 xc2 xc3 u.1 u.2.1 u.2.2.1 u.2.2.2.1 u.2.2.2.2.1 u.2.2.2.2.2.1 u.2.2.2.2.2.2.1 u.2.2.2.2.2.2.2.1 u.2.2.2.2.2.2.2.2.1 u.2.2.2.2.2.2.2.2.2.1 u.2.2.2.2.2.2.2.2.2.2.1 u.2.2.2.2.2.2.2.2.2.2.2.1 u.2.2.2.2.2.2.2.2.2.2.2.2.1 u.2.2.2.2.2.2.2.2.2.2.2.2.2) := hD
    generalize H1 = H at hP hS ⊢
    refine lv_goto (tgt := 16) hx hb dL_begin_9 (by decide) ?_
    refine lv_iconst (v := 0) hx hb dL_begin_16 (by decide) ?_
    refine W.widen (k := 1) (n := 6) (Nat.le_of_ble_eq_true rfl) (Nat.le_of_ble_eq_true rfl) ?_
    exact W.iret (v := 0) hx hb hr (fun t ht hW => ⟨⟨0, u, rfl, (by rw [← hw, gY]), by rw [ht]; exact hP, va_K.moved hW.alike hK, hD⟩, hS.F ht⟩) hS.2.2 dL_begin_17
abbrev wsL_add : List Cond := .codeWith yL_add cL_add 6 (some .int) [(0, 12, 15, 13), (0, 12, 19, 19)] :: wG
set_option maxHeartbeats 4000000 in
set_option maxRecDepth 100000 in
theorem mL_add (l : Launch) (hl9 : l.stackTraces = false) (dC : Nat → ClassId) (dI : Nat → Nat → Nat) (xh0 xh1 xh2 xh3 oh : Nat) (sz : Nat) (xc1 xc2 xc3 oc : ClassId) (xk1 xk2 xk3 : Nat → Int32) (xf3 xf4 xf5 xf6 xf7 xf8 xf9 xf10 xf11 xf12 xf13 : Int32) (ov : Nat → Int64) (p0 p1 p2 : Int32)  : Met l yL_add wsL_add ({ frames := 7, cells := 1, slots := 6, locals := 108 }) (va_Pc [.ref xh0, .int p0, .int p1, .int p2, .ref oh] (fun U => U.heap.size = sz ∧ va_P (dC, dI) vwCl (loW xh0 xh1 xh2 xh3 xc1 xc2 xc3 oh oc xk1 xk2 xk3 xf3 xf4 xf5 xf6 xf7 xf8 xf9 xf10 xf11 xf12 xf13 ov) U.heap ∧ va_K (dC, dI) vwCl [(xc1, .int), (xc2, .int), (xc3, .int), (oc, .long)] U ∧ va_D (fun _ => True) (loW xh0 xh1 xh2 xh3 xc1 xc2 xc3 oh oc xk1 xk2 xk3 xf3 xf4 xf5 xf6 xf7 xf8 xf9 xf10 xf11 xf12 xf13 ov) ∧ xZ (va_A (loW xh0 xh1 xh2 xh3 xc1 xc2 xc3 oh oc xk1 xk2 xk3 xf3 xf4 xf5 xf6 xf7 xf8 xf9 xf10 xf11 xf12 xf13 ov) sz) U U.heap ∧ va_Nc "java/lang/IllegalStateException" "java/lang/IllegalArgumentException" U)) (va_Qi (fun r u => (r, u) = gX (fX0_add xk1 xk2 xk3 xf3 xf4 xf5 xf6 xf7 xf8 xf9 xf10 xf11 xf12 xf13 p0 p1 p2) ov) (loB dC dI (va_A (loW xh0 xh1 xh2 xh3 xc1 xc2 xc3 oh oc xk1 xk2 xk3 xf3 xf4 xf5 xf6 xf7 xf8 xf9 xf10 xf11 xf12 xf13 ov) sz) xh0 xh1 xh2 xh3 xc1 xc2 xc3 oh oc) (va_A (loW xh0 xh1 xh2 xh3 xc1 xc2 xc3 oh oc xk1 xk2 xk3 xf3 xf4 xf5 xf6 xf7 xf8 xf9 xf10 xf11 xf12 xf13 ov) sz)) 1 6 (va_A (loW xh0 xh1 xh2 xh3 xc1 xc2 xc3 oh oc xk1 xk2 xk3 xf3 xf4 xf5 xf6 xf7 xf8 xf9 xf10 xf11 xf12 xf13 ov) sz) := by
  refine va_MetW (cc := cL_add) (maxL := 6) (ret := (some .int)) (by decide) rfl ?_
  intro p e s m args below meth c s₁ B hml hv
  obtain ⟨rfl, hsz, hP, hK, hD0, hZ, hNc⟩ := hv
  have hx := B.exec
  have hb := B.bytes
  have hr := B.returns
  have hts := atoms_spec (ws := wsL_add) B.pre
  have htG := fun (w : Cond) (h : w ∈ wG) => hts w (List.mem_cons_of_mem _ h)
  have hown : s.vm.findClass RL = some m.cls := findClass_of_methodNamed B.named
  have hlocks := B.notSynchronized
  have hTab : c.exceptionTable.toList = tableOf [(0, 12, 15, 13), (0, 12, 19, 19)] := vx_table (x := yL_add) B (hts _ List.mem_cons_self)
  subst hsz
  have hD := hD0.self (sz := s.heap.size)
  generalize hAe : va_A (loW xh0 xh1 xh2 xh3 xc1 xc2 xc3 oh oc xk1 xk2 xk3 xf3 xf4 xf5 xf6 xf7 xf8 xf9 xf10 xf11 xf12 xf13 ov) s.heap.size = A at hD hZ ⊢
  have hA : ∀ q : Nat, s.heap.size ≤ q → A q := fun q h => by rw [← hAe]; exact Or.inr h
  have hS : va_S A s.heap s.heap [] := va_S.rf
  have hP : va_P (dC, dI) vwCl (loW xh0 xh1 xh2 xh3 xc1 xc2 xc3 oh oc xk1 xk2 xk3 xf3 xf4 xf5 xf6 xf7 xf8 xf9 xf10 xf11 xf12 xf13 ov) s.heap := hP
  have hl := lv_entry ([.ref xh0, .int p0, .int p1, .int p2, .ref oh]) (n := 6) (Nat.le_of_ble_eq_true rfl)
  rw [lg_entry_eq]
  generalize (lg_sl ([.ref xh0, .int p0, .int p1, .int p2, .ref oh]) ++ List.replicate (6 - (lg_sl ([.ref xh0, .int p0, .int p1, .int p2, .ref oh])).length) Slot.unset).toArray = ls at hl ⊢
  have hl : lv_has ls 6 [(0, .ref xh0), (1, .int p0), (2, .int p1), (3, .int p2), (4, .ref oh)] := hl
  refine lv_aload hx hb dL_add_0 (lv_at hl 4 rfl) ?_
  refine lv_iconst (v := 0) hx hb dL_add_2 (by decide) ?_
  refine lv_aload_n hx hb dL_add_3 rfl (lv_at hl 0 rfl) ?_
  refine lv_iload_n hx hb dL_add_4 rfl (lv_at hl 1 rfl) ?_
  refine lv_iload_n hx hb dL_add_5 rfl (lv_at hl 2 rfl) ?_
  refine lv_iload_n hx hb dL_add_6 rfl (lv_at hl 3 rfl) ?_
  have hPc := hP.sub (ws' := (xW xh0 xh1 xh2 xh3 xc1 xc2 xc3 xk1 xk2 xk3 xf3 xf4 xf5 xf6 xf7 xf8 xf9 xf10 xf11 xf12 xf13)) [0, 1, 2, 3] rfl
  have hDc := hD.sub (ws' := (xW xh0 xh1 xh2 xh3 xc1 xc2 xc3 xk1 xk2 xk3 xf3 xf4 xf5 xf6 xf7 xf8 xf9 xf10 xf11 xf12 xf13)) [0, 1, 2, 3] (by decide) rfl
  have hKc := hK.sub (tys' := [(xc1, .int), (xc2, .int), (xc3, .int)]) [0, 1, 2] rfl
  have hFc := va_free (wc := (xW xh0 xh1 xh2 xh3 xc1 xc2 xc3 xk1 xk2 xk3 xf3 xf4 xf5 xf6 xf7 xf8 xf9 xf10 xf11 xf12 xf13)) hD hS hA [0, 1, 2, 3] rfl
  refine vx_calli (vx_runV (As := [.int p0, .int p1, .int p2]) (rest := [.int 0, .ref oh]) ⟨hx, hb, hml, hown, htG⟩ (mX0_add l hl9 dC dI xh0 xh1 xh2 xh3 s.heap.size xc1 xc2 xc3 xk1 xk2 xk3 xf3 xf4 xf5 xf6 xf7 xf8 xf9 xf10 xf11 xf12 xf13 p0 p1 p2) (cwV 3 htG (wG_V wd_187 wd_188 wd_189 wd_22 wd_190) rfl rfl rfl (by decide +kernel) ⟨Nat.le_of_ble_eq_true rfl, Nat.le_of_ble_eq_true rfl⟩) ⟨fun a U g mk q => by obtain ⟨q0, q1, qP, qK, qD, qZ⟩ := q; exact ⟨q0, q1, qP, va_K.moved (u := U) (U := U.calling g mk a) (Vm.Alike.refl U.vm) qK, qD, qZ.blind⟩, va_recv hKc hPc (ci := 0) (q0 := 0) rfl rfl, fun U hU hW => ⟨rfl, by rw [hU], by rw [hU]; exact hPc, va_K.moved hW.alike hKc, hDc.weaken (fun _ _ _ _ => trivial), xZ.pass hZ hS hW hU hFc⟩⟩ rfl rfl hl.1 rfl (lv_room (Nat.le_of_ble_eq_true rfl)) dL_add_7 ⟨Nat.le_of_ble_eq_true rfl, Nat.le_of_ble_eq_true rfl⟩) hS (fun q _ h => hFc q h) hFc (fun q _ h => hFc q h) (fun E ce q9 u t H1 locs ht hvm hw hB hz1 hk1 hS hce hcv hcl => ?_) (fun r_1 u t H1 locs ht hvm hw hB hz1 hk1 hS => ?_)
  · obtain ⟨hE, hP1, hK1, hD1⟩ := hB
    rw [ht] at hP1
    obtain ⟨hP, hD⟩ := va_join (wr := [(oh, .inl (oc, 1, .inr (.inl ov)))]) (w1 := (xW xh0 xh1 xh2 xh3 xc1 xc2 xc3 xk1 xk2 xk3 xf3 xf4 xf5 xf6 xf7 xf8 xf9 xf10 xf11 xf12 xf13)) hP hD [0, 1, 2, 3] [4] rfl rfl (by decide) (by decide) hk1 hFc hP1 hD1
    have hP := hP.sub (ws' := (loW xh0 xh1 xh2 xh3 xc1 xc2 xc3 oh oc xk1 xk2 xk3 xf3 xf4 xf5 xf6 xf7 xf8 xf9 xf10 xf11 xf12 xf13 ov)) [1, 2, 3, 4, 0] rfl
    have hD := hD.sub (ws' := (loW xh0 xh1 xh2 xh3 xc1 xc2 xc3 oh oc xk1 xk2 xk3 xf3 xf4 xf5 xf6 xf7 xf8 xf9 xf10 xf11 xf12 xf13 ov)) [1, 2, 3, 4, 0] (by decide) rfl
    rcases hE with ⟨rfl, hf⟩ | ⟨rfl, hf⟩
    · refine vx_catch (own := RL) (name := "java/lang/IllegalArgumentException") (E := "java/lang/IllegalArgumentException") hown [] ⟨0, 12, 15, 13⟩ [⟨0, 12, 19, 19⟩] (by rw [hTab]; rfl) (fun z hz => nomatch hz) (by decide) (by decide) (htG _ wd_105) (va_Nw.use rfl hZ.2.2.1.1) hce hcv hcl ?_
      refine lv_astore (lv' := [(5, .ref q9), (0, .ref xh0), (1, .int p0), (2, .int p1), (3, .int p2), (4, .ref oh)]) hx hb dL_add_15 hl (by decide) rfl (fun ls hl => ?_)
      refine lv_iconst (v := 1) hx hb dL_add_17 (by decide) ?_
      refine W.widen (k := 1) (n := 6) (Nat.le_of_ble_eq_true rfl) (Nat.le_of_ble_eq_true rfl) ?_
      exact W.iret (v := 1) hx hb hr (fun t ht hW => ⟨⟨1, ((xk1, xk2, xk3, xf3, xf4, xf5, xf6, xf7, xf8, xf9, xf10, xf11, xf12, xf13), ov), rfl, (by rw [hf, gX, if_neg n10]), by rw [ht]; exact hP, va_K.moved hW.alike hK, hD⟩, hS.F ht⟩) hS.2.2 dL_add_18
    · refine vx_catch (own := RL) (name := "java/lang/IllegalStateException") (E := "java/lang/IllegalStateException") hown [⟨0, 12, 15, 13⟩] ⟨0, 12, 19, 19⟩ [] (by rw [hTab]; rfl) (fun z hz => by
            rcases List.mem_cons.mp hz with rfl | hz
            · exact Or.inr ⟨by decide, "java/lang/IllegalArgumentException", htG _ wd_105, hNc⟩
            · cases hz) (by decide) (by decide) (htG _ wd_186) (va_Nw.use rfl hZ.2.2.1.2.2.2.2.1) hce hcv hcl ?_
      refine lv_astore (lv' := [(5, .ref q9), (0, .ref xh0), (1, .int p0), (2, .int p1), (3, .int p2), (4, .ref oh)]) hx hb dL_add_19 hl (by decide) rfl (fun ls hl => ?_)
      refine lv_iconst (v := 2) hx hb dL_add_21 (by decide) ?_
      refine W.widen (k := 1) (n := 6) (Nat.le_of_ble_eq_true rfl) (Nat.le_of_ble_eq_true rfl) ?_
      exact W.iret (v := 2) hx hb hr (fun t ht hW => ⟨⟨2, ((xk1, xk2, xk3, xf3, xf4, xf5, xf6, xf7, xf8, xf9, xf10, xf11, xf12, xf13), ov), rfl, (by rw [hf, gX, if_neg n20]), by rw [ht]; exact hP, va_K.moved hW.alike hK, hD⟩, hS.F ht⟩) hS.2.2 dL_add_22
  · obtain ⟨hP1, hK1, hD1⟩ := hB
    rw [ht] at hP1
    obtain ⟨hP, hD⟩ := va_join (wr := [(oh, .inl (oc, 1, .inr (.inl ov)))]) (w1 := (xW xh0 xh1 xh2 xh3 xc1 xc2 xc3 u.1 u.2.1 u.2.2.1 u.2.2.2.1 u.2.2.2.2.1 u.2.2.2.2.2.1 u.2.2.2.2.2.2.1 u.2.2.2.2.2.2.2.1 u.2.2.2.2.2.2.2.2.1 u.2.2.2.2.2.2.2.2.2.1 u.2.2.2.2.2.2.2.2.2.2.1 u.2.2.2.2.2.2.2.2.2.2.2.1 u.2.2.2.2.2.2.2.2.2.2.2.2.1 u.2.2.2.2.2.2.2.2.2.2.2.2.2)) hP hD [0, 1, 2, 3] [4] rfl rfl (by decide) (by decide) hk1 hFc hP1 hD1
    have hP := hP.sub (ws' := (loW xh0 xh1 xh2 xh3 xc1 xc2 xc3 oh oc u.1 u.2.1 u.2.2.1 u.2.2.2.1 u.2.2.2.2.1 u.2.2.2.2.2.1 u.2.2.2.2.2.2.1 u.2.2.2.2.2.2.2.1 u.2.2.2.2.2.2.2.2.1 u.2.2.2.2.2.2.2.2.2.1 u.2.2.2.2.2.2.2.2.2.2.1 u.2.2.2.2.2.2.2.2.2.2.2.1 u.2.2.2.2.2.2.2.2.2.2.2.2.1 u.2.2.2.2.2.2.2.2.2.2.2.2.2 ov)) [1, 2, 3, 4, 0] rfl
    have hD := hD.sub (ws' := (loW xh0 xh1 xh2 xh3 xc1 xc2 xc3 oh oc u.1 u.2.1 u.2.2.1 u.2.2.2.1 u.2.2.2.2.1 u.2.2.2.2.2.1 u.2.2.2.2.2.2.1 u.2.2.2.2.2.2.2.1 u.2.2.2.2.2.2.2.2.1 u.2.2.2.2.2.2.2.2.2.1 u.2.2.2.2.2.2.2.2.2.2.1 u.2.2.2.2.2.2.2.2.2.2.2.1 u.2.2.2.2.2.2.2.2.2.2.2.2.1 u.2.2.2.2.2.2.2.2.2.2.2.2.2 ov)) [1, 2, 3, 4, 0] (by decide) rfl
    generalize H1 = H at hP hS ⊢
    refine lv_i2l hx hb dL_add_10 rfl ?_
    refine va_last hx hb hK hP hD hS 4 3 rfl rfl in_01 dL_add_11 (fun H locs hP hD hS => ?_)
    have hP : va_P (dC, dI) vwCl (loW xh0 xh1 xh2 xh3 xc1 xc2 xc3 oh oc u.1 u.2.1 u.2.2.1 u.2.2.2.1 u.2.2.2.2.1 u.2.2.2.2.2.1 u.2.2.2.2.2.2.1 u.2.2.2.2.2.2.2.1 u.2.2.2.2.2.2.2.2.1 u.2.2.2.2.2.2.2.2.2.1 u.2.2.2.2.2.2.2.2.2.2.1 u.2.2.2.2.2.2.2.2.2.2.2.1 u.2.2.2.2.2.2.2.2.2.2.2.2.1 u.2.2.2.2.2.2.2.2.2.2.2.2.2 (vp_updL ov (0 : Int32).toNatClampNeg r_1.toInt64)) H := hP
    have hD : va_D A (loW xh0 xh1 xh2 xh3 xc1 xc2 xc3 oh oc u.1 u.2.1 u.2.2.1 u.2.2.2.1 u.2.2.2.2.1 u.2.2.2.2.2.1 u.2.2.2.2.2.2.1 u.2.2.2.2.2.2.2.1 u.2.2.2.2.2.2.2.2.1 u.2.2.2.2.2.2.2.2.2.1 u.2.2.2.2.2.2.2.2.2.2.1 u.2.2.2.2.2.2.2.2.2.2.2.1 u.2.2.2.2.2.2.2.2.2.2.2.2.1 u.2.2.2.2.2.2.2.2.2.2.2.2.2 (vp_updL ov (0 : Int32).toNatClampNeg r_1.toInt64)) := hD
    refine lv_goto (tgt := 23) hx hb dL_add_12 (by decide) ?_
    refine lv_iconst (v := 0) hx hb dL_add_23 (by decide) ?_
    refine W.widen (k := 1) (n := 6) (Nat.le_of_ble_eq_true rfl) (Nat.le_of_ble_eq_true rfl) ?_
    exact W.iret (v := 0) hx hb hr (fun t ht hW => ⟨⟨0, (u, (vp_updL ov (0 : Int32).toNatClampNeg r_1.toInt64)), rfl, (by rw [← hw, gX, if_pos rfl]), by rw [ht]; exact hP, va_K.moved hW.alike hK, hD⟩, hS.F ht⟩) hS.2.2 dL_add_24
abbrev wsL_where : List Cond := .codeWith yL_where cL_where 5 (some .int) [(0, 10, 13, 25)] :: wG
set_option maxHeartbeats 4000000 in
set_option maxRecDepth 100000 in
theorem mL_where (l : Launch) (hl9 : l.stackTraces = false) (dC : Nat → ClassId) (dI : Nat → Nat → Nat) (xh0 xh1 xh2 xh3 oh : Nat) (sz : Nat) (xc1 xc2 xc3 oc : ClassId) (xk1 xk2 xk3 : Nat → Int32) (xf3 xf4 xf5 xf6 xf7 xf8 xf9 xf10 xf11 xf12 xf13 : Int32) (ov : Nat → Int64) (p0 p1 : Int32)  : Met l yL_where wsL_where ({ frames := 7, cells := 1, slots := 6, locals := 108 }) (va_Pc [.ref xh0, .int p0, .int p1, .ref oh] (fun U => U.heap.size = sz ∧ va_P (dC, dI) vwCl (loW xh0 xh1 xh2 xh3 xc1 xc2 xc3 oh oc xk1 xk2 xk3 xf3 xf4 xf5 xf6 xf7 xf8 xf9 xf10 xf11 xf12 xf13 ov) U.heap ∧ va_K (dC, dI) vwCl [(xc1, .int), (xc2, .int), (xc3, .int), (oc, .long)] U ∧ va_D (fun _ => True) (loW xh0 xh1 xh2 xh3 xc1 xc2 xc3 oh oc xk1 xk2 xk3 xf3 xf4 xf5 xf6 xf7 xf8 xf9 xf10 xf11 xf12 xf13 ov) ∧ xZ (va_A (loW xh0 xh1 xh2 xh3 xc1 xc2 xc3 oh oc xk1 xk2 xk3 xf3 xf4 xf5 xf6 xf7 xf8 xf9 xf10 xf11 xf12 xf13 ov) sz) U U.heap)) (va_Qi (fun r u => (r, u) = gX (fX0_where xk1 xk2 xk3 xf3 xf4 xf5 xf6 xf7 xf8 xf9 xf10 xf11 xf12 xf13 p0 p1) ov) (loB dC dI (va_A (loW xh0 xh1 xh2 xh3 xc1 xc2 xc3 oh oc xk1 xk2 xk3 xf3 xf4 xf5 xf6 xf7 xf8 xf9 xf10 xf11 xf12 xf13 ov) sz) xh0 xh1 xh2 xh3 xc1 xc2 xc3 oh oc) (va_A (loW xh0 xh1 xh2 xh3 xc1 xc2 xc3 oh oc xk1 xk2 xk3 xf3 xf4 xf5 xf6 xf7 xf8 xf9 xf10 xf11 xf12 xf13 ov) sz)) 1 6 (va_A (loW xh0 xh1 xh2 xh3 xc1 xc2 xc3 oh oc xk1 xk2 xk3 xf3 xf4 xf5 xf6 xf7 xf8 xf9 xf10 xf11 xf12 xf13 ov) sz) := by
  refine va_MetW (cc := cL_where) (maxL := 5) (ret := (some .int)) (by decide) rfl ?_
  intro p e s m args below meth c s₁ B hml hv
  obtain ⟨rfl, hsz, hP, hK, hD0, hZ⟩ := hv
  have hx := B.exec
  have hb := B.bytes
  have hr := B.returns
  have hts := atoms_spec (ws := wsL_where) B.pre
  have htG := fun (w : Cond) (h : w ∈ wG) => hts w (List.mem_cons_of_mem _ h)
  have hown : s.vm.findClass RL = some m.cls := findClass_of_methodNamed B.named
  have hlocks := B.notSynchronized
  have hTab : c.exceptionTable.toList = tableOf [(0, 10, 13, 25)] := vx_table (x := yL_where) B (hts _ List.mem_cons_self)
  subst hsz
  have hD := hD0.self (sz := s.heap.size)
  generalize hAe : va_A (loW xh0 xh1 xh2 xh3 xc1 xc2 xc3 oh oc xk1 xk2 xk3 xf3 xf4 xf5 xf6 xf7 xf8 xf9 xf10 xf11 xf12 xf13 ov) s.heap.size = A at hD hZ ⊢
  have hA : ∀ q : Nat, s.heap.size ≤ q → A q := fun q h => by rw [← hAe]; exact Or.inr h
  have hS : va_S A s.heap s.heap [] := va_S.rf
  have hP : va_P (dC, dI) vwCl (loW xh0 xh1 xh2 xh3 xc1 xc2 xc3 oh oc xk1 xk2 xk3 xf3 xf4 xf5 xf6 xf7 xf8 xf9 xf10 xf11 xf12 xf13 ov) s.heap := hP
  have hl := lv_entry ([.ref xh0, .int p0, .int p1, .ref oh]) (n := 5) (Nat.le_of_ble_eq_true rfl)
  rw [lg_entry_eq]
  generalize (lg_sl ([.ref xh0, .int p0, .int p1, .ref oh]) ++ List.replicate (5 - (lg_sl ([.ref xh0, .int p0, .int p1, .ref oh])).length) Slot.unset).toArray = ls at hl ⊢
  have hl : lv_has ls 5 [(0, .ref xh0), (1, .int p0), (2, .int p1), (3, .ref oh)] := hl
  refine lv_aload_n hx hb dL_where_0 rfl (lv_at hl 3 rfl) ?_
  refine lv_iconst (v := 0) hx hb dL_where_1 (by decide) ?_
  refine lv_aload_n hx hb dL_where_2 rfl (lv_at hl 0 rfl) ?_
  refine lv_iload_n hx hb dL_where_3 rfl (lv_at hl 1 rfl) ?_
  refine lv_iload_n hx hb dL_where_4 rfl (lv_at hl 2 rfl) ?_
  have hPc := hP.sub (ws' := (xW xh0 xh1 xh2 xh3 xc1 xc2 xc3 xk1 xk2 xk3 xf3 xf4 xf5 xf6 xf7 xf8 xf9 xf10 xf11 xf12 xf13)) [0, 1, 2, 3] rfl
  have hDc := hD.sub (ws' := (xW xh0 xh1 xh2 xh3 xc1 xc2 xc3 xk1 xk2 xk3 xf3 xf4 xf5 xf6 xf7 xf8 xf9 xf10 xf11 xf12 xf13)) [0, 1, 2, 3] (by decide) rfl
  have hKc := hK.sub (tys' := [(xc1, .int), (xc2, .int), (xc3, .int)]) [0, 1, 2] rfl
  have hFc := va_free (wc := (xW xh0 xh1 xh2 xh3 xc1 xc2 xc3 xk1 xk2 xk3 xf3 xf4 xf5 xf6 xf7 xf8 xf9 xf10 xf11 xf12 xf13)) hD hS hA [0, 1, 2, 3] rfl
  refine vx_calli (vx_runV (As := [.int p0, .int p1]) (rest := [.int 0, .ref oh]) ⟨hx, hb, hml, hown, htG⟩ (mX0_where l hl9 dC dI xh0 xh1 xh2 xh3 s.heap.size xc1 xc2 xc3 xk1 xk2 xk3 xf3 xf4 xf5 xf6 xf7 xf8 xf9 xf10 xf11 xf12 xf13 p0 p1) (cwV 2 htG (wG_V wd_220 wd_221 wd_222 wd_22 wd_223) rfl rfl rfl (by decide +kernel) ⟨Nat.le_of_ble_eq_true rfl, Nat.le_of_ble_eq_true rfl⟩) ⟨fun a U g mk q => by obtain ⟨q0, q1, qP, qK, qD, qZ⟩ := q; exact ⟨q0, q1, qP, va_K.moved (u := U) (U := U.calling g mk a) (Vm.Alike.refl U.vm) qK, qD, qZ.blind⟩, va_recv hKc hPc (ci := 0) (q0 := 0) rfl rfl, fun U hU hW => ⟨rfl, by rw [hU], by rw [hU]; exact hPc, va_K.moved hW.alike hKc, hDc.weaken (fun _ _ _ _ => trivial), xZ.pass hZ hS hW hU hFc⟩⟩ rfl rfl hl.1 rfl (lv_room (Nat.le_of_ble_eq_true rfl)) dL_where_5 ⟨Nat.le_of_ble_eq_true rfl, Nat.le_of_ble_eq_true rfl⟩) hS (fun q _ h => hFc q h) hFc (fun q _ h => hFc q h) (fun E ce q9 u t H1 locs ht hvm hw hB hz1 hk1 hS hce hcv hcl => ?_) (fun r_1 u t H1 locs ht hvm hw hB hz1 hk1 hS => ?_)
  · obtain ⟨hE, hP1, hK1, hD1⟩ := hB
    rw [ht] at hP1
    obtain ⟨hP, hD⟩ := va_join (wr := [(oh, .inl (oc, 1, .inr (.inl ov)))]) (w1 := (xW xh0 xh1 xh2 xh3 xc1 xc2 xc3 xk1 xk2 xk3 xf3 xf4 xf5 xf6 xf7 xf8 xf9 xf10 xf11 xf12 xf13)) hP hD [0, 1, 2, 3] [4] rfl rfl (by decide) (by decide) hk1 hFc hP1 hD1
    have hP := hP.sub (ws' := (loW xh0 xh1 xh2 xh3 xc1 xc2 xc3 oh oc xk1 xk2 xk3 xf3 xf4 xf5 xf6 xf7 xf8 xf9 xf10 xf11 xf12 xf13 ov)) [1, 2, 3, 4, 0] rfl
    have hD := hD.sub (ws' := (loW xh0 xh1 xh2 xh3 xc1 xc2 xc3 oh oc xk1 xk2 xk3 xf3 xf4 xf5 xf6 xf7 xf8 xf9 xf10 xf11 xf12 xf13 ov)) [1, 2, 3, 4, 0] (by decide) rfl
    obtain ⟨rfl, hf⟩ := hE
    refine vx_catch (own := RL) (name := "java/lang/IndexOutOfBoundsException") (E := "java/lang/IndexOutOfBoundsException") hown [] ⟨0, 10, 13, 25⟩ [] (by rw [hTab]; rfl) (fun z hz => nomatch hz) (by decide) (by decide) (htG _ wd_219) (va_Nw.use rfl hZ.2.2.1.2.2.2.2.2) hce hcv hcl ?_
    refine lv_astore (lv' := [(4, .ref q9), (0, .ref xh0), (1, .int p0), (2, .int p1), (3, .ref oh)]) hx hb dL_where_13 hl (by decide) rfl (fun ls hl => ?_)
    refine lv_iconst (v := 1) hx hb dL_where_15 (by decide) ?_
    refine W.widen (k := 1) (n := 6) (Nat.le_of_ble_eq_true rfl) (Nat.le_of_ble_eq_true rfl) ?_
    exact W.iret (v := 1) hx hb hr (fun t ht hW => ⟨⟨1, ((xk1, xk2, xk3, xf3, xf4, xf5, xf6, xf7, xf8, xf9, xf10, xf11, xf12, xf13), ov), rfl, (by rw [hf, gX, if_neg n10]), by rw [ht]; exact hP, va_K.moved hW.alike hK, hD⟩, hS.F ht⟩) hS.2.2 dL_where_16
  · obtain ⟨hP1, hK1, hD1⟩ := hB
    rw [ht] at hP1
    obtain ⟨hP, hD⟩ := va_join (wr := [(oh, .inl (oc, 1, .inr (.inl ov)))]) (w1 := (xW xh0 xh1 xh2 xh3 xc1 xc2 xc3 u.1 u.2.1 u.2.2.1 u.2.2.2.1 u.2.2.2.2.1 u.2.2.2.2.2.1 u.2.2.2.2.2.2.1 u.2.2.2.2.2.2.2.1 u.2.2.2.2.2.2.2.2.1 u.2.2.2.2.2.2.2.2.2.1 u.2.2.2.2.2.2.2.2.2.2.1 u.2.2.2.2.2.2.2.2.2.2.2.1 u.2.2.2.2.2.2.2.2.2.2.2.2.1 u.2.2.2.2.2.2.2.2.2.2.2.2.2)) hP hD [0, 1, 2, 3] [4] rfl rfl (by decide) (by decide) hk1 hFc hP1 hD1
    have hP := hP.sub (ws' := (loW xh0 xh1 xh2 xh3 xc1 xc2 xc3 oh oc u.1 u.2.1 u.2.2.1 u.2.2.2.1 u.2.2.2.2.1 u.2.2.2.2.2.1 u.2.2.2.2.2.2.1 u.2.2.2.2.2.2.2.1 u.2.2.2.2.2.2.2.2.1 u.2.2.2.2.2.2.2.2.2.1 u.2.2.2.2.2.2.2.2.2.2.1 u.2.2.2.2.2.2.2.2.2.2.2.1 u.2.2.2.2.2.2.2.2.2.2.2.2.1 u.2.2.2.2.2.2.2.2.2.2.2.2.2 ov)) [1, 2, 3, 4, 0] rfl
    have hD := hD.sub (ws' := (loW xh0 xh1 xh2 xh3 xc1 xc2 xc3 oh oc u.1 u.2.1 u.2.2.1 u.2.2.2.1 u.2.2.2.2.1 u.2.2.2.2.2.1 u.2.2.2.2.2.2.1 u.2.2.2.2.2.2.2.1 u.2.2.2.2.2.2.2.2.1 u.2.2.2.2.2.2.2.2.2.1 u.2.2.2.2.2.2.2.2.2.2.1 u.2.2.2.2.2.2.2.2.2.2.2.1 u.2.2.2.2.2.2.2.2.2.2.2.2.1 u.2.2.2.2.2.2.2.2.2.2.2.2.2 ov)) [1, 2, 3, 4, 0] (by decide) rfl
    generalize H1 = H at hP hS ⊢
    refine lv_i2l hx hb dL_where_8 rfl ?_
    refine va_last hx hb hK hP hD hS 4 3 rfl rfl in_01 dL_where_9 (fun H locs hP hD hS => ?_)
    have hP : va_P (dC, dI) vwCl (loW xh0 xh1 xh2 xh3 xc1 xc2 xc3 oh oc u.1 u.2.1 u.2.2.1 u.2.2.2.1 u.2.2.2.2.1 u.2.2.2.2.2.1 u.2.2.2.2.2.2.1 u.2.2.2.2.2.2.2.1 u.2.2.2.2.2.2.2.2.1 u.2.2.2.2.2.2.2.2.2.1 u.2.2.2.2.2.2.2.2.2.2.1 u.2.2.2.2.2.2.2.2.2.2.2.1 u.2.2.2.2.2.2.2.2.2.2.2.2.1 u.2.2.2.2.2.2.2.2.2.2.2.2.2 (vp_updL ov (0 : Int32).toNatClampNeg r_1.toInt64)) H := hP
    have hD : va_D A (loW xh0 xh1 xh2 xh3 xc1 xc2 xc3 oh oc u.1 u.2.1 u.2.2.1 u.2.2.2.1 u.2.2.2.2.1 u.2.2.2.2.2.1 u.2.2.2.2.2.2.1 u.2.2.2.2.2.2.2.1 u.2.2.2.2.2.2.2.2.1 u.2.2.2.2.2.2.2.2.2.1 u.2.2.2.2.2.2.2.2.2.2.1 u.2.2.2.2.2.2.2.2.2.2.2.1 u.2.2.2.2.2.2.2.2.2.2.2.2.1 u.2.2.2.2.2.2.2.2.2.2.2.2.2 (vp_updL ov (0 : Int32).toNatClampNeg r_1.toInt64)) := hD
    refine lv_goto (tgt := 17) hx hb dL_where_10 (by decide) ?_
    refine lv_iconst (v := 0) hx hb dL_where_17 (by decide) ?_
    refine W.widen (k := 1) (n := 6) (Nat.le_of_ble_eq_true rfl) (Nat.le_of_ble_eq_true rfl) ?_
    exact W.iret (v := 0) hx hb hr (fun t ht hW => ⟨⟨0, (u, (vp_updL ov (0 : Int32).toNatClampNeg r_1.toInt64)), rfl, (by rw [← hw, gX, if_pos rfl]), by rw [ht]; exact hP, va_K.moved hW.alike hK, hD⟩, hS.F ht⟩) hS.2.2 dL_where_18
abbrev wsL_about : List Cond := .codeWith yL_about cL_about 5 (some .int) [(0, 10, 13, 25)] :: wG
set_option maxHeartbeats 4000000 in
set_option maxRecDepth 100000 in
theorem mL_about (l : Launch) (hl9 : l.stackTraces = false) (dC : Nat → ClassId) (dI : Nat → Nat → Nat) (xh0 xh1 xh2 xh3 oh : Nat) (sz : Nat) (xc1 xc2 xc3 oc : ClassId) (xk1 xk2 xk3 : Nat → Int32) (xf3 xf4 xf5 xf6 xf7 xf8 xf9 xf10 xf11 xf12 xf13 : Int32) (ov : Nat → Int64) (p0 p1 : Int32)  : Met l yL_about wsL_about ({ frames := 7, cells := 1, slots := 6, locals := 104 }) (va_Pc [.ref xh0, .int p0, .int p1, .ref oh] (fun U => U.heap.size = sz ∧ va_P (dC, dI) vwCl (loW xh0 xh1 xh2 xh3 xc1 xc2 xc3 oh oc xk1 xk2 xk3 xf3 xf4 xf5 xf6 xf7 xf8 xf9 xf10 xf11 xf12 xf13 ov) U.heap ∧ va_K (dC, dI) vwCl [(xc1, .int), (xc2, .int), (xc3, .int), (oc, .long)] U ∧ va_D (fun _ => True) (loW xh0 xh1 xh2 xh3 xc1 xc2 xc3 oh oc xk1 xk2 xk3 xf3 xf4 xf5 xf6 xf7 xf8 xf9 xf10 xf11 xf12 xf13 ov) ∧ xZ (va_A (loW xh0 xh1 xh2 xh3 xc1 xc2 xc3 oh oc xk1 xk2 xk3 xf3 xf4 xf5 xf6 xf7 xf8 xf9 xf10 xf11 xf12 xf13 ov) sz) U U.heap)) (va_Qi (fun r u => (r, u) = gX (fX0_about xk1 xk2 xk3 xf3 xf4 xf5 xf6 xf7 xf8 xf9 xf10 xf11 xf12 xf13 p0 p1) ov) (loB dC dI (va_A (loW xh0 xh1 xh2 xh3 xc1 xc2 xc3 oh oc xk1 xk2 xk3 xf3 xf4 xf5 xf6 xf7 xf8 xf9 xf10 xf11 xf12 xf13 ov) sz) xh0 xh1 xh2 xh3 xc1 xc2 xc3 oh oc) (va_A (loW xh0 xh1 xh2 xh3 xc1 xc2 xc3 oh oc xk1 xk2 xk3 xf3 xf4 xf5 xf6 xf7 xf8 xf9 xf10 xf11 xf12 xf13 ov) sz)) 1 6 (va_A (loW xh0 xh1 xh2 xh3 xc1 xc2 xc3 oh oc xk1 xk2 xk3 xf3 xf4 xf5 xf6 xf7 xf8 xf9 xf10 xf11 xf12 xf13 ov) sz) := by
  refine va_MetW (cc := cL_about) (maxL := 5) (ret := (some .int)) (by decide) rfl ?_
  intro p e s m args below meth c s₁ B hml hv
  obtain ⟨rfl, hsz, hP, hK, hD0, hZ⟩ := hv
  have hx := B.exec
  have hb := B.bytes
  have hr := B.returns
  have hts := atoms_spec (ws := wsL_about) B.pre
  have htG := fun (w : Cond) (h : w ∈ wG) => hts w (List.mem_cons_of_mem _ h)
  have hown : s.vm.findClass RL = some m.cls := findClass_of_methodNamed B.named
  have hlocks := B.notSynchronized
  have hTab : c.exceptionTable.toList = tableOf [(0, 10, 13, 25)] := vx_table (x := yL_about) B (hts _ List.mem_cons_self)
  subst hsz
  have hD := hD0.self (sz := s.heap.size)
  generalize hAe : va_A (loW xh0 xh1 xh2 xh3 xc1 xc2 xc3 oh oc xk1 xk2 xk3 xf3 xf4 xf5 xf6 xf7 xf8 xf9 xf10 xf11 xf12 xf13 ov) s.heap.size = A at hD hZ ⊢
  have hA : ∀ q : Nat, s.heap.size ≤ q → A q := fun q h => by rw [← hAe]; exact Or.inr h
  have hS : va_S A s.heap s.heap [] := va_S.rf
  have hP : va_P (dC, dI) vwCl (loW xh0 xh1 xh2 xh3 xc1 xc2 xc3 oh oc xk1 xk2 xk3 xf3 xf4 xf5 xf6 xf7 xf8 xf9 xf10 xf11 xf12 xf13 ov) s.heap := hP
  have hl := lv_entry ([.ref xh0, .int p0, .int p1, .ref oh]) (n := 5) (Nat.le_of_ble_eq_true rfl)
  rw [lg_entry_eq]
  generalize (lg_sl ([.ref xh0, .int p0, .int p1, .ref oh]) ++ List.replicate (5 - (lg_sl ([.ref xh0, .int p0, .int p1, .ref oh])).length) Slot.unset).toArray = ls at hl ⊢
  have hl : lv_has ls 5 [(0, .ref xh0), (1, .int p0), (2, .int p1), (3, .ref oh)] := hl
  refine lv_aload_n hx hb dL_about_0 rfl (lv_at hl 3 rfl) ?_
  refine lv_iconst (v := 0) hx hb dL_about_1 (by decide) ?_
  refine lv_aload_n hx hb dL_about_2 rfl (lv_at hl 0 rfl) ?_
  refine lv_iload_n hx hb dL_about_3 rfl (lv_at hl 1 rfl) ?_
  refine lv_iload_n hx hb dL_about_4 rfl (lv_at hl 2 rfl) ?_
  have hPc := hP.sub (ws' := (xW xh0 xh1 xh2 xh3 xc1 xc2 xc3 xk1 xk2 xk3 xf3 xf4 xf5 xf6 xf7 xf8 xf9 xf10 xf11 xf12 xf13)) [0, 1, 2, 3] rfl
  have hDc := hD.sub (ws' := (xW xh0 xh1 xh2 xh3 xc1 xc2 xc3 xk1 xk2 xk3 xf3 xf4 xf5 xf6 xf7 xf8 xf9 xf10 xf11 xf12 xf13)) [0, 1, 2, 3] (by decide) rfl
  have hKc := hK.sub (tys' := [(xc1, .int), (xc2, .int), (xc3, .int)]) [0, 1, 2] rfl
  have hFc := va_free (wc := (xW xh0 xh1 xh2 xh3 xc1 xc2 xc3 xk1 xk2 xk3 xf3 xf4 xf5 xf6 xf7 xf8 xf9 xf10 xf11 xf12 xf13)) hD hS hA [0, 1, 2, 3] rfl
  refine vx_calli (vx_runV (As := [.int p0, .int p1]) (rest := [.int 0, .ref oh]) ⟨hx, hb, hml, hown, htG⟩ (mX0_about l hl9 dC dI xh0 xh1 xh2 xh3 s.heap.size xc1 xc2 xc3 xk1 xk2 xk3 xf3 xf4 xf5 xf6 xf7 xf8 xf9 xf10 xf11 xf12 xf13 p0 p1) (cwV 2 htG (wG_V wd_279 wd_280 wd_281 wd_22 wd_282) rfl rfl rfl (by decide +kernel) ⟨Nat.le_of_ble_eq_true rfl, Nat.le_of_ble_eq_true rfl⟩) ⟨fun a U g mk q => by obtain ⟨q0, q1, qP, qK, qD, qZ⟩ := q; exact ⟨q0, q1, qP, va_K.moved (u := U) (U := U.calling g mk a) (Vm.Alike.refl U.vm) qK, qD, qZ.blind⟩, va_recv hKc hPc (ci := 0) (q0 := 0) rfl rfl, fun U hU hW => ⟨rfl, by rw [hU], by rw [hU]; exact hPc, va_K.moved hW.alike hKc, hDc.weaken (fun _ _ _ _ => trivial), xZ.pass hZ hS hW hU hFc⟩⟩ rfl rfl hl.1 rfl (lv_room (Nat.le_of_ble_eq_true rfl)) dL_about_5 ⟨Nat.le_of_ble_eq_true rfl, Nat.le_of_ble_eq_true rfl⟩) hS (fun q _ h => hFc q h) hFc (fun q _ h => hFc q h) (fun E ce q9 u t H1 locs ht hvm hw hB hz1 hk1 hS hce hcv hcl => ?_) (fun r_1 u t H1 locs ht hvm hw hB hz1 hk1 hS => ?_)
  · obtain ⟨hE, hP1, hK1, hD1⟩ := hB
    rw [ht] at hP1
    obtain ⟨hP, hD⟩ := va_join (wr := [(oh, .inl (oc, 1, .inr (.inl ov)))]) (w1 := (xW xh0 xh1 xh2 xh3 xc1 xc2 xc3 xk1 xk2 xk3 xf3 xf4 xf5 xf6 xf7 xf8 xf9 xf10 xf11 xf12 xf13)) hP hD [0, 1, 2, 3] [4] rfl rfl (by decide) (by decide) hk1 hFc hP1 hD1
    have hP := hP.sub (ws' := (loW xh0 xh1 xh2 xh3 xc1 xc2 xc3 oh oc xk1 xk2 xk3 xf3 xf4 xf5 xf6 xf7 xf8 xf9 xf10 xf11 xf12 xf13 ov)) [1, 2, 3, 4, 0] rfl
    have hD := hD.sub (ws' := (loW xh0 xh1 xh2 xh3 xc1 xc2 xc3 oh oc xk1 xk2 xk3 xf3 xf4 xf5 xf6 xf7 xf8 xf9 xf10 xf11 xf12 xf13 ov)) [1, 2, 3, 4, 0] (by decide) rfl
    obtain ⟨rfl, hf⟩ := hE
    refine vx_catch (own := RL) (name := "java/lang/IndexOutOfBoundsException") (E := "java/lang/IndexOutOfBoundsException") hown [] ⟨0, 10, 13, 25⟩ [] (by rw [hTab]; rfl) (fun z hz => nomatch hz) (by decide) (by decide) (htG _ wd_219) (va_Nw.use rfl hZ.2.2.1.2.2.2.2.2) hce hcv hcl ?_
    refine lv_astore (lv' := [(4, .ref q9), (0, .ref xh0), (1, .int p0), (2, .int p1), (3, .ref oh)]) hx hb dL_about_13 hl (by decide) rfl (fun ls hl => ?_)
    refine lv_iconst (v := 1) hx hb dL_about_15 (by decide) ?_
    refine W.widen (k := 1) (n := 6) (Nat.le_of_ble_eq_true rfl) (Nat.le_of_ble_eq_true rfl) ?_
    exact W.iret (v := 1) hx hb hr (fun t ht hW => ⟨⟨1, ((xk1, xk2, xk3, xf3, xf4, xf5, xf6, xf7, xf8, xf9, xf10, xf11, xf12, xf13), ov), rfl, (by rw [hf, gX, if_neg n10]), by rw [ht]; exact hP, va_K.moved hW.alike hK, hD⟩, hS.F ht⟩) hS.2.2 dL_about_16
  · obtain ⟨hP1, hK1, hD1⟩ := hB
    rw [ht] at hP1
    obtain ⟨hP, hD⟩ := va_join (wr := [(oh, .inl (oc, 1, .inr (.inl ov)))]) (w1 := (xW xh0 xh1 xh2 xh3 xc1 xc2 xc3 u.1 u.2.1 u.2.2.1 u.2.2.2.1 u.2.2.2.2.1 u.2.2.2.2.2.1 u.2.2.2.2.2.2.1 u.2.2.2.2.2.2.2.1 u.2.2.2.2.2.2.2.2.1 u.2.2.2.2.2.2.2.2.2.1 u.2.2.2.2.2.2.2.2.2.2.1 u.2.2.2.2.2.2.2.2.2.2.2.1 u.2.2.2.2.2.2.2.2.2.2.2.2.1 u.2.2.2.2.2.2.2.2.2.2.2.2.2)) hP hD [0, 1, 2, 3] [4] rfl rfl (by decide) (by decide) hk1 hFc hP1 hD1
    have hP := hP.sub (ws' := (loW xh0 xh1 xh2 xh3 xc1 xc2 xc3 oh oc u.1 u.2.1 u.2.2.1 u.2.2.2.1 u.2.2.2.2.1 u.2.2.2.2.2.1 u.2.2.2.2.2.2.1 u.2.2.2.2.2.2.2.1 u.2.2.2.2.2.2.2.2.1 u.2.2.2.2.2.2.2.2.2.1 u.2.2.2.2.2.2.2.2.2.2.1 u.2.2.2.2.2.2.2.2.2.2.2.1 u.2.2.2.2.2.2.2.2.2.2.2.2.1 u.2.2.2.2.2.2.2.2.2.2.2.2.2 ov)) [1, 2, 3, 4, 0] rfl
    have hD := hD.sub (ws' := (loW xh0 xh1 xh2 xh3 xc1 xc2 xc3 oh oc u.1 u.2.1 u.2.2.1 u.2.2.2.1 u.2.2.2.2.1 u.2.2.2.2.2.1 u.2.2.2.2.2.2.1 u.2.2.2.2.2.2.2.1 u.2.2.2.2.2.2.2.2.1 u.2.2.2.2.2.2.2.2.2.1 u.2.2.2.2.2.2.2.2.2.2.1 u.2.2.2.2.2.2.2.2.2.2.2.1 u.2.2.2.2.2.2.2.2.2.2.2.2.1 u.2.2.2.2.2.2.2.2.2.2.2.2.2 ov)) [1, 2, 3, 4, 0] (by decide) rfl
    generalize H1 = H at hP hS ⊢
    refine lv_i2l hx hb dL_about_8 rfl ?_
    refine va_last hx hb hK hP hD hS 4 3 rfl rfl in_01 dL_about_9 (fun H locs hP hD hS => ?_)
    have hP : va_P (dC, dI) vwCl (loW xh0 xh1 xh2 xh3 xc1 xc2 xc3 oh oc u.1 u.2.1 u.2.2.1 u.2.2.2.1 u.2.2.2.2.1 u.2.2.2.2.2.1 u.2.2.2.2.2.2.1 u.2.2.2.2.2.2.2.1 u.2.2.2.2.2.2.2.2.1 u.2.2.2.2.2.2.2.2.2.1 u.2.2.2.2.2.2.2.2.2.2.1 u.2.2.2.2.2.2.2.2.2.2.2.1 u.2.2.2.2.2.2.2.2.2.2.2.2.1 u.2.2.2.2.2.2.2.2.2.2.2.2.2 (vp_updL ov (0 : Int32).toNatClampNeg r_1.toInt64)) H := hP
    have hD : va_D A (loW xh0 xh1 xh2 xh3 xc1 xc2 xc3 oh oc u.1 u.2.1 u.2.2.1 u.2.2.2.1 u.2.2.2.2.1 u.2.2.2.2.2.1 u.2.2.2.2.2.2.1 u.2.2.2.2.2.2.2.1 u.2.2.2.2.2.2.2.2.1 u.2.2.2.2.2.2.2.2.2.1 u.2.2.2.2.2.2.2.2.2.2.1 u.2.2.2.2.2.2.2.2.2.2.2.1 u.2.2.2.2.2.2.2.2.2.2.2.2.1 u.2.2.2.2.2.2.2.2.2.2.2.2.2 (vp_updL ov (0 : Int32).toNatClampNeg r_1.toInt64)) := hD
    refine lv_goto (tgt := 17) hx hb dL_about_10 (by decide) ?_
    refine lv_iconst (v := 0) hx hb dL_about_17 (by decide) ?_
    refine W.widen (k := 1) (n := 6) (Nat.le_of_ble_eq_true rfl) (Nat.le_of_ble_eq_true rfl) ?_
    exact W.iret (v := 0) hx hb hr (fun t ht hW => ⟨⟨0, (u, (vp_updL ov (0 : Int32).toNatClampNeg r_1.toInt64)), rfl, (by rw [← hw, gX, if_pos rfl]), by rw [ht]; exact hP, va_K.moved hW.alike hK, hD⟩, hS.F ht⟩) hS.2.2 dL_about_18
abbrev wsL_signature : List Cond := .codeWith yL_signature cL_signature 4 (some .int) [(0, 9, 12, 25)] :: wG
set_option maxHeartbeats 4000000 in
set_option maxRecDepth 100000 in
theorem mL_signature (l : Launch) (hl9 : l.stackTraces = false) (dC : Nat → ClassId) (dI : Nat → Nat → Nat) (xh0 xh1 xh2 xh3 oh : Nat) (sz : Nat) (xc1 xc2 xc3 oc : ClassId) (xk1 xk2 xk3 : Nat → Int32) (xf3 xf4 xf5 xf6 xf7 xf8 xf9 xf10 xf11 xf12 xf13 : Int32) (ov : Nat → Int64) (p0 : Int32)  : Met l yL_signature wsL_signature ({ frames := 7, cells := 1, slots := 6, locals := 103 }) (va_Pc [.ref xh0, .int p0, .ref oh] (fun U => U.heap.size = sz ∧ va_P (dC, dI) vwCl (loW xh0 xh1 xh2 xh3 xc1 xc2 xc3 oh oc xk1 xk2 xk3 xf3 xf4 xf5 xf6 xf7 xf8 xf9 xf10 xf11 xf12 xf13 ov) U.heap ∧ va_K (dC, dI) vwCl [(xc1, .int), (xc2, .int), (xc3, .int), (oc, .long)] U ∧ va_D (fun _ => True) (loW xh0 xh1 xh2 xh3 xc1 xc2 xc3 oh oc xk1 xk2 xk3 xf3 xf4 xf5 xf6 xf7 xf8 xf9 xf10 xf11 xf12 xf13 ov) ∧ xZ (va_A (loW xh0 xh1 xh2 xh3 xc1 xc2 xc3 oh oc xk1 xk2 xk3 xf3 xf4 xf5 xf6 xf7 xf8 xf9 xf10 xf11 xf12 xf13 ov) sz) U U.heap)) (va_Qi (fun r u => (r, u) = gX (fX0_signature xk1 xk2 xk3 xf3 xf4 xf5 xf6 xf7 xf8 xf9 xf10 xf11 xf12 xf13 p0) ov) (loB dC dI (va_A (loW xh0 xh1 xh2 xh3 xc1 xc2 xc3 oh oc xk1 xk2 xk3 xf3 xf4 xf5 xf6 xf7 xf8 xf9 xf10 xf11 xf12 xf13 ov) sz) xh0 xh1 xh2 xh3 xc1 xc2 xc3 oh oc) (va_A (loW xh0 xh1 xh2 xh3 xc1 xc2 xc3 oh oc xk1 xk2 xk3 xf3 xf4 xf5 xf6 xf7 xf8 xf9 xf10 xf11 xf12 xf13 ov) sz)) 1 6 (va_A (loW xh0 xh1 xh2 xh3 xc1 xc2 xc3 oh oc xk1 xk2 xk3 xf3 xf4 xf5 xf6 xf7 xf8 xf9 xf10 xf11 xf12 xf13 ov) sz) := by
  refine va_MetW (cc := cL_signature) (maxL := 4) (ret := (some .int)) (by decide) rfl ?_
  intro p e s m args below meth c s₁ B hml hv
  obtain ⟨rfl, hsz, hP, hK, hD0, hZ⟩ := hv
  have hx := B.exec
  have hb := B.bytes
  have hr := B.returns
  have hts := atoms_spec (ws := wsL_signature) B.pre
  have htG := fun (w : Cond) (h : w ∈ wG) => hts w (List.mem_cons_of_mem _ h)
  have hown : s.vm.findClass RL = some m.cls := findClass_of_methodNamed B.named
  have hlocks := B.notSynchronized
  have hTab : c.exceptionTable.toList = tableOf [(0, 9, 12, 25)] := vx_table (x := yL_signature) B (hts _ List.mem_cons_self)
  subst hsz
  have hD := hD0.self (sz := s.heap.size)
  generalize hAe : va_A (loW xh0 xh1 xh2 xh3 xc1 xc2 xc3 oh oc xk1 xk2 xk3 xf3 xf4 xf5 xf6 xf7 xf8 xf9 xf10 xf11 xf12 xf13 ov) s.heap.size = A at hD hZ ⊢
  have hA : ∀ q : Nat, s.heap.size ≤ q → A q := fun q h => by rw [← hAe]; exact Or.inr h
  have hS : va_S A s.heap s.heap [] := va_S.rf
  have hP : va_P (dC, dI) vwCl (loW xh0 xh1 xh2 xh3 xc1 xc2 xc3 oh oc xk1 xk2 xk3 xf3 xf4 xf5 xf6 xf7 xf8 xf9 xf10 xf11 xf12 xf13 ov) s.heap := hP
  have hl := lv_entry ([.ref xh0, .int p0, .ref oh]) (n := 4) (Nat.le_of_ble_eq_true rfl)
  rw [lg_entry_eq]
  generalize (lg_sl ([.ref xh0, .int p0, .ref oh]) ++ List.replicate (4 - (lg_sl ([.ref xh0, .int p0, .ref oh])).length) Slot.unset).toArray = ls at hl ⊢
  have hl : lv_has ls 4 [(0, .ref xh0), (1, .int p0), (2, .ref oh)] := hl
  refine lv_aload_n hx hb dL_signature_0 rfl (lv_at hl 2 rfl) ?_
  refine lv_iconst (v := 0) hx hb dL_signature_1 (by decide) ?_
  refine lv_aload_n hx hb dL_signature_2 rfl (lv_at hl 0 rfl) ?_
  refine lv_iload_n hx hb dL_signature_3 rfl (lv_at hl 1 rfl) ?_
  have hPc := hP.sub (ws' := (xW xh0 xh1 xh2 xh3 xc1 xc2 xc3 xk1 xk2 xk3 xf3 xf4 xf5 xf6 xf7 xf8 xf9 xf10 xf11 xf12 xf13)) [0, 1, 2, 3] rfl
  have hDc := hD.sub (ws' := (xW xh0 xh1 xh2 xh3 xc1 xc2 xc3 xk1 xk2 xk3 xf3 xf4 xf5 xf6 xf7 xf8 xf9 xf10 xf11 xf12 xf13)) [0, 1, 2, 3] (by decide) rfl
  have hKc := hK.sub (tys' := [(xc1, .int), (xc2, .int), (xc3, .int)]) [0, 1, 2] rfl
  have hFc := va_free (wc := (xW xh0 xh1 xh2 xh3 xc1 xc2 xc3 xk1 xk2 xk3 xf3 xf4 xf5 xf6 xf7 xf8 xf9 xf10 xf11 xf12 xf13)) hD hS hA [0, 1, 2, 3] rfl
  refine vx_calli (vx_runV (As := [.int p0]) (rest := [.int 0, .ref oh]) ⟨hx, hb, hml, hown, htG⟩ (mX0_signature l hl9 dC dI xh0 xh1 xh2 xh3 s.heap.size xc1 xc2 xc3 xk1 xk2 xk3 xf3 xf4 xf5 xf6 xf7 xf8 xf9 xf10 xf11 xf12 xf13 p0) (cwV 1 htG (wG_V wd_287 wd_288 wd_289 wd_22 wd_290) rfl rfl rfl (by decide +kernel) ⟨Nat.le_of_ble_eq_true rfl, Nat.le_of_ble_eq_true rfl⟩) ⟨fun a U g mk q => by obtain ⟨q0, q1, qP, qK, qD, qZ⟩ := q; exact ⟨q0, q1, qP, va_K.moved (u := U) (U := U.calling g mk a) (Vm.Alike.refl U.vm) qK, qD, qZ.blind⟩, va_recv hKc hPc (ci := 0) (q0 := 0) rfl rfl, fun U hU hW => ⟨rfl, by rw [hU], by rw [hU]; exact hPc, va_K.moved hW.alike hKc, hDc.weaken (fun _ _ _ _ => trivial), xZ.pass hZ hS hW hU hFc⟩⟩ rfl rfl hl.1 rfl (lv_room (Nat.le_of_ble_eq_true rfl)) dL_signature_4 ⟨Nat.le_of_ble_eq_true rfl, Nat.le_of_ble_eq_true rfl⟩) hS (fun q _ h => hFc q h) hFc (fun q _ h => hFc q h) (fun E ce q9 u t H1 locs ht hvm hw hB hz1 hk1 hS hce hcv hcl => ?_) (fun r_1 u t H1 locs ht hvm hw hB hz1 hk1 hS => ?_)
  · obtain ⟨hE, hP1, hK1, hD1⟩ := hB
    rw [ht] at hP1
    obtain ⟨hP, hD⟩ := va_join (wr := [(oh, .inl (oc, 1, .inr (.inl ov)))]) (w1 := (xW xh0 xh1 xh2 xh3 xc1 xc2 xc3 xk1 xk2 xk3 xf3 xf4 xf5 xf6 xf7 xf8 xf9 xf10 xf11 xf12 xf13)) hP hD [0, 1, 2, 3] [4] rfl rfl (by decide) (by decide) hk1 hFc hP1 hD1
    have hP := hP.sub (ws' := (loW xh0 xh1 xh2 xh3 xc1 xc2 xc3 oh oc xk1 xk2 xk3 xf3 xf4 xf5 xf6 xf7 xf8 xf9 xf10 xf11 xf12 xf13 ov)) [1, 2, 3, 4, 0] rfl
    have hD := hD.sub (ws' := (loW xh0 xh1 xh2 xh3 xc1 xc2 xc3 oh oc xk1 xk2 xk3 xf3 xf4 xf5 xf6 xf7 xf8 xf9 xf10 xf11 xf12 xf13 ov)) [1, 2, 3, 4, 0] (by decide) rfl
    obtain ⟨rfl, hf⟩ := hE
    refine vx_catch (own := RL) (name := "java/lang/IndexOutOfBoundsException") (E := "java/lang/IndexOutOfBoundsException") hown [] ⟨0, 9, 12, 25⟩ [] (by rw [hTab]; rfl) (fun z hz => nomatch hz) (by decide) (by decide) (htG _ wd_219) (va_Nw.use rfl hZ.2.2.1.2.2.2.2.2) hce hcv hcl ?_
    refine lv_astore_n (lv' := [(3, .ref q9), (0, .ref xh0), (1, .int p0), (2, .ref oh)]) hx hb dL_signature_12 rfl hl (by decide) rfl (fun ls hl => ?_)
    refine lv_iconst (v := 1) hx hb dL_signature_13 (by decide) ?_
    refine W.widen (k := 1) (n := 6) (Nat.le_of_ble_eq_true rfl) (Nat.le_of_ble_eq_true rfl) ?_
    exact W.iret (v := 1) hx hb hr (fun t ht hW => ⟨⟨1, ((xk1, xk2, xk3, xf3, xf4, xf5, xf6, xf7, xf8, xf9, xf10, xf11, xf12, xf13), ov), rfl, (by rw [hf, gX, if_neg n10]), by rw [ht]; exact hP, va_K.moved hW.alike hK, hD⟩, hS.F ht⟩) hS.2.2 dL_signature_14
  · obtain ⟨hP1, hK1, hD1⟩ := hB
    rw [ht] at hP1
    obtain ⟨hP, hD⟩ := va_join (wr := [(oh, .inl (oc, 1, .inr (.inl ov)))]) (w1 := (xW xh0 xh1 xh2 xh3 xc1 xc2 xc3 u.1 u.2.1 u.2.2.1 u.2.2.2.1 u.2.2.2.2.1 u.2.2.2.2.2.1 u.2.2.2.2.2.2.1 u.2.2.2.2.2.2.2.1 u.2.2.2.2.2.2.2.2.1 u.2.2.2.2.2.2.2.2.2.1 u.2.2.2.2.2.2.2.2.2.2.1 u.2.2.2.2.2.2.2.2.2.2.2.1 u.2.2.2.2.2.2.2.2.2.2.2.2.1 u.2.2.2.2.2.2.2.2.2.2.2.2.2)) hP hD [0, 1, 2, 3] [4] rfl rfl (by decide) (by decide) hk1 hFc hP1 hD1
    have hP := hP.sub (ws' := (loW xh0 xh1 xh2 xh3 xc1 xc2 xc3 oh oc u.1 u.2.1 u.2.2.1 u.2.2.2.1 u.2.2.2.2.1 u.2.2.2.2.2.1 u.2.2.2.2.2.2.1 u.2.2.2.2.2.2.2.1 u.2.2.2.2.2.2.2.2.1 u.2.2.2.2.2.2.2.2.2.1 u.2.2.2.2.2.2.2.2.2.2.1 u.2.2.2.2.2.2.2.2.2.2.2.1 u.2.2.2.2.2.2.2.2.2.2.2.2.1 u.2.2.2.2.2.2.2.2.2.2.2.2.2 ov)) [1, 2, 3, 4, 0] rfl
    have hD := hD.sub (ws' := (loW xh0 xh1 xh2 xh3 xc1 xc2 xc3 oh oc u.1 u.2.1 u.2.2.1 u.2.2.2.1 u.2.2.2.2.1 u.2.2.2.2.2.1 u.2.2.2.2.2.2.1 u.2.2.2.2.2.2.2.1 u.2.2.2.2.2.2.2.2.1 u.2.2.2.2.2.2.2.2.2.1 u.2.2.2.2.2.2.2.2.2.2.1 u.2.2.2.2.2.2.2.2.2.2.2.1 u.2.2.2.2.2.2.2.2.2.2.2.2.1 u.2.2.2.2.2.2.2.2.2.2.2.2.2 ov)) [1, 2, 3, 4, 0] (by decide) rfl
    generalize H1 = H at hP hS ⊢
    refine lv_i2l hx hb dL_signature_7 rfl ?_
    refine va_last hx hb hK hP hD hS 4 3 rfl rfl in_01 dL_signature_8 (fun H locs hP hD hS => ?_)
    have hP : va_P (dC, dI) vwCl (loW xh0 xh1 xh2 xh3 xc1 xc2 xc3 oh oc u.1 u.2.1 u.2.2.1 u.2.2.2.1 u.2.2.2.2.1 u.2.2.2.2.2.1 u.2.2.2.2.2.2.1 u.2.2.2.2.2.2.2.1 u.2.2.2.2.2.2.2.2.1 u.2.2.2.2.2.2.2.2.2.1 u.2.2.2.2.2.2.2.2.2.2.1 u.2.2.2.2.2.2.2.2.2.2.2.1 u.2.2.2.2.2.2.2.2.2.2.2.2.1 u.2.2.2.2.2.2.2.2.2.2.2.2.2 (vp_updL ov (0 : Int32).toNatClampNeg r_1.toInt64)) H := hP
    have hD : va_D A (loW xh0 xh1 xh2 xh3 xc1 xc2 xc3 oh oc u.1 u.2.1 u.2.2.1 u.2.2.2.1 u.2.2.2.2.1 u.2.2.2.2.2.1 u.2.2.2.2.2.2.1 u.2.2.2.2.2.2.2.1 u.2.2.2.2.2.2.2.2.1 u.2.2.2.2.2.2.2.2.2.1 u.2.2.2.2.2.2.2.2.2.2.1 u.2.2.2.2.2.2.2.2.2.2.2.1 u.2.2.2.2.2.2.2.2.2.2.2.2.1 u.2.2.2.2.2.2.2.2.2.2.2.2.2 (vp_updL ov (0 : Int32).toNatClampNeg r_1.toInt64)) := hD
    refine lv_goto (tgt := 15) hx hb dL_signature_9 (by decide) ?_
    refine lv_iconst (v := 0) hx hb dL_signature_15 (by decide) ?_
    refine W.widen (k := 1) (n := 6) (Nat.le_of_ble_eq_true rfl) (Nat.le_of_ble_eq_true rfl) ?_
    exact W.iret (v := 0) hx hb hr (fun t ht hW => ⟨⟨0, (u, (vp_updL ov (0 : Int32).toNatClampNeg r_1.toInt64)), rfl, (by rw [← hw, gX, if_pos rfl]), by rw [ht]; exact hP, va_K.moved hW.alike hK, hD⟩, hS.F ht⟩) hS.2.2 dL_signature_16
abbrev wsL_frame : List Cond := .codeWith yL_frame cL_frame 6 (some .int) [(0, 12, 15, 13)] :: wG
set_option maxHeartbeats 4000000 in
set_option maxRecDepth 100000 in
theorem mL_frame (l : Launch) (hl9 : l.stackTraces = false) (dC : Nat → ClassId) (dI : Nat → Nat → Nat) (xh0 xh1 xh2 xh3 oh : Nat) (sz : Nat) (xc1 xc2 xc3 oc : ClassId) (xk1 xk2 xk3 : Nat → Int32) (xf3 xf4 xf5 xf6 xf7 xf8 xf9 xf10 xf11 xf12 xf13 : Int32) (ov : Nat → Int64) (p0 p1 p2 : Int32)  : Met l yL_frame wsL_frame ({ frames := 7, cells := 1, slots := 6, locals := 105 }) (va_Pc [.ref xh0, .int p0, .int p1, .int p2, .ref oh] (fun U => U.heap.size = sz ∧ va_P (dC, dI) vwCl (loW xh0 xh1 xh2 xh3 xc1 xc2 xc3 oh oc xk1 xk2 xk3 xf3 xf4 xf5 xf6 xf7 xf8 xf9 xf10 xf11 xf12 xf13 ov) U.heap ∧ va_K (dC, dI) vwCl [(xc1, .int), (xc2, .int), (xc3, .int), (oc, .long)] U ∧ va_D (fun _ => True) (loW xh0 xh1 xh2 xh3 xc1 xc2 xc3 oh oc xk1 xk2 xk3 xf3 xf4 xf5 xf6 xf7 xf8 xf9 xf10 xf11 xf12 xf13 ov) ∧ xZ (va_A (loW xh0 xh1 xh2 xh3 xc1 xc2 xc3 oh oc xk1 xk2 xk3 xf3 xf4 xf5 xf6 xf7 xf8 xf9 xf10 xf11 xf12 xf13 ov) sz) U U.heap)) (va_Qi (fun r u => (r, u) = gX (fX0_frame xk1 xk2 xk3 xf3 xf4 xf5 xf6 xf7 xf8 xf9 xf10 xf11 xf12 xf13 p0 p1 p2) ov) (loB dC dI (va_A (loW xh0 xh1 xh2 xh3 xc1 xc2 xc3 oh oc xk1 xk2 xk3 xf3 xf4 xf5 xf6 xf7 xf8 xf9 xf10 xf11 xf12 xf13 ov) sz) xh0 xh1 xh2 xh3 xc1 xc2 xc3 oh oc) (va_A (loW xh0 xh1 xh2 xh3 xc1 xc2 xc3 oh oc xk1 xk2 xk3 xf3 xf4 xf5 xf6 xf7 xf8 xf9 xf10 xf11 xf12 xf13 ov) sz)) 1 6 (va_A (loW xh0 xh1 xh2 xh3 xc1 xc2 xc3 oh oc xk1 xk2 xk3 xf3 xf4 xf5 xf6 xf7 xf8 xf9 xf10 xf11 xf12 xf13 ov) sz) := by
  refine va_MetW (cc := cL_frame) (maxL := 6) (ret := (some .int)) (by decide) rfl ?_
  intro p e s m args below meth c s₁ B hml hv
  obtain ⟨rfl, hsz, hP, hK, hD0, hZ⟩ := hv
  have hx := B.exec
  have hb := B.bytes
  have hr := B.returns
  have hts := atoms_spec (ws := wsL_frame) B.pre
  have htG := fun (w : Cond) (h : w ∈ wG) => hts w (List.mem_cons_of_mem _ h)
  have hown : s.vm.findClass RL = some m.cls := findClass_of_methodNamed B.named
  have hlocks := B.notSynchronized
  have hTab : c.exceptionTable.toList = tableOf [(0, 12, 15, 13)] := vx_table (x := yL_frame) B (hts _ List.mem_cons_self)
  subst hsz
  have hD := hD0.self (sz := s.heap.size)
  generalize hAe : va_A (loW xh0 xh1 xh2 xh3 xc1 xc2 xc3 oh oc xk1 xk2 xk3 xf3 xf4 xf5 xf6 xf7 xf8 xf9 xf10 xf11 xf12 xf13 ov) s.heap.size = A at hD hZ ⊢
  have hA : ∀ q : Nat, s.heap.size ≤ q → A q := fun q h => by rw [← hAe]; exact Or.inr h
  have hS : va_S A s.heap s.heap [] := va_S.rf
  have hP : va_P (dC, dI) vwCl (loW xh0 xh1 xh2 xh3 xc1 xc2 xc3 oh oc xk1 xk2 xk3 xf3 xf4 xf5 xf6 xf7 xf8 xf9 xf10 xf11 xf12 xf13 ov) s.heap := hP
  have hl := lv_entry ([.ref xh0, .int p0, .int p1, .int p2, .ref oh]) (n := 6) (Nat.le_of_ble_eq_true rfl)
  rw [lg_entry_eq]
  generalize (lg_sl ([.ref xh0, .int p0, .int p1, .int p2, .ref oh]) ++ List.replicate (6 - (lg_sl ([.ref xh0, .int p0, .int p1, .int p2, .ref oh])).length) Slot.unset).toArray = ls at hl ⊢
  have hl : lv_has ls 6 [(0, .ref xh0), (1, .int p0), (2, .int p1), (3, .int p2), (4, .ref oh)] := hl
  refine lv_aload hx hb dL_frame_0 (lv_at hl 4 rfl) ?_
  refine lv_iconst (v := 0) hx hb dL_frame_2 (by decide) ?_
  refine lv_aload_n hx hb dL_frame_3 rfl (lv_at hl 0 rfl) ?_
  refine lv_iload_n hx hb dL_frame_4 rfl (lv_at hl 1 rfl) ?_
  refine lv_iload_n hx hb dL_frame_5 rfl (lv_at hl 2 rfl) ?_
  refine lv_iload_n hx hb dL_frame_6 rfl (lv_at hl 3 rfl) ?_
  have hPc := hP.sub (ws' := (xW xh0 xh1 xh2 xh3 xc1 xc2 xc3 xk1 xk2 xk3 xf3 xf4 xf5 xf6 xf7 xf8 xf9 xf10 xf11 xf12 xf13)) [0, 1, 2, 3] rfl
  have hDc := hD.sub (ws' := (xW xh0 xh1 xh2 xh3 xc1 xc2 xc3 xk1 xk2 xk3 xf3 xf4 xf5 xf6 xf7 xf8 xf9 xf10 xf11 xf12 xf13)) [0, 1, 2, 3] (by decide) rfl
  have hKc := hK.sub (tys' := [(xc1, .int), (xc2, .int), (xc3, .int)]) [0, 1, 2] rfl
  have hFc := va_free (wc := (xW xh0 xh1 xh2 xh3 xc1 xc2 xc3 xk1 xk2 xk3 xf3 xf4 xf5 xf6 xf7 xf8 xf9 xf10 xf11 xf12 xf13)) hD hS hA [0, 1, 2, 3] rfl
  refine vx_calli (vx_runV (As := [.int p0, .int p1, .int p2]) (rest := [.int 0, .ref oh]) ⟨hx, hb, hml, hown, htG⟩ (mX0_frame l hl9 dC dI xh0 xh1 xh2 xh3 s.heap.size xc1 xc2 xc3 xk1 xk2 xk3 xf3 xf4 xf5 xf6 xf7 xf8 xf9 xf10 xf11 xf12 xf13 p0 p1 p2) (cwV 3 htG (wG_V wd_298 wd_299 wd_300 wd_22 wd_301) rfl rfl rfl (by decide +kernel) ⟨Nat.le_of_ble_eq_true rfl, Nat.le_of_ble_eq_true rfl⟩) ⟨fun a U g mk q => by obtain ⟨q0, q1, qP, qK, qD, qZ⟩ := q; exact ⟨q0, q1, qP, va_K.moved (u := U) (U := U.calling g mk a) (Vm.Alike.refl U.vm) qK, qD, qZ.blind⟩, va_recv hKc hPc (ci := 0) (q0 := 0) rfl rfl, fun U hU hW => ⟨rfl, by rw [hU], by rw [hU]; exact hPc, va_K.moved hW.alike hKc, hDc.weaken (fun _ _ _ _ => trivial), xZ.pass hZ hS hW hU hFc⟩⟩ rfl rfl hl.1 rfl (lv_room (Nat.le_of_ble_eq_true rfl)) dL_frame_7 ⟨Nat.le_of_ble_eq_true rfl, Nat.le_of_ble_eq_true rfl⟩) hS (fun q _ h => hFc q h) hFc (fun q _ h => hFc q h) (fun E ce q9 u t H1 locs ht hvm hw hB hz1 hk1 hS hce hcv hcl => ?_) (fun r_1 u t H1 locs ht hvm hw hB hz1 hk1 hS => ?_)
  · obtain ⟨hE, hP1, hK1, hD1⟩ := hB
    rw [ht] at hP1
    obtain ⟨hP, hD⟩ := va_join (wr := [(oh, .inl (oc, 1, .inr (.inl ov)))]) (w1 := (xW xh0 xh1 xh2 xh3 xc1 xc2 xc3 xk1 xk2 xk3 xf3 xf4 xf5 xf6 xf7 xf8 xf9 xf10 xf11 xf12 xf13)) hP hD [0, 1, 2, 3] [4] rfl rfl (by decide) (by decide) hk1 hFc hP1 hD1
    have hP := hP.sub (ws' := (loW xh0 xh1 xh2 xh3 xc1 xc2 xc3 oh oc xk1 xk2 xk3 xf3 xf4 xf5 xf6 xf7 xf8 xf9 xf10 xf11 xf12 xf13 ov)) [1, 2, 3, 4, 0] rfl
    have hD := hD.sub (ws' := (loW xh0 xh1 xh2 xh3 xc1 xc2 xc3 oh oc xk1 xk2 xk3 xf3 xf4 xf5 xf6 xf7 xf8 xf9 xf10 xf11 xf12 xf13 ov)) [1, 2, 3, 4, 0] (by decide) rfl
    obtain ⟨rfl, hf⟩ := hE
    refine vx_catch (own := RL) (name := "java/lang/IllegalArgumentException") (E := "java/lang/IllegalArgumentException") hown [] ⟨0, 12, 15, 13⟩ [] (by rw [hTab]; rfl) (fun z hz => nomatch hz) (by decide) (by decide) (htG _ wd_105) (va_Nw.use rfl hZ.2.2.1.1) hce hcv hcl ?_
    refine lv_astore (lv' := [(5, .ref q9), (0, .ref xh0), (1, .int p0), (2, .int p1), (3, .int p2), (4, .ref oh)]) hx hb dL_frame_15 hl (by decide) rfl (fun ls hl => ?_)
    refine lv_iconst (v := 1) hx hb dL_frame_17 (by decide) ?_
    refine W.widen (k := 1) (n := 6) (Nat.le_of_ble_eq_true rfl) (Nat.le_of_ble_eq_true rfl) ?_
    exact W.iret (v := 1) hx hb hr (fun t ht hW => ⟨⟨1, ((xk1, xk2, xk3, xf3, xf4, xf5, xf6, xf7, xf8, xf9, xf10, xf11, xf12, xf13), ov), rfl, (by rw [hf, gX, if_neg n10]), by rw [ht]; exact hP, va_K.moved hW.alike hK, hD⟩, hS.F ht⟩) hS.2.2 dL_frame_18
  · obtain ⟨hP1, hK1, hD1⟩ := hB
    rw [ht] at hP1
    obtain ⟨hP, hD⟩ := va_join (wr := [(oh, .inl (oc, 1, .inr (.inl ov)))]) (w1 := (xW xh0 xh1 xh2 xh3 xc1 xc2 xc3 u.1 u.2.1 u.2.2.1 u.2.2.2.1 u.2.2.2.2.1 u.2.2.2.2.2.1 u.2.2.2.2.2.2.1 u.2.2.2.2.2.2.2.1 u.2.2.2.2.2.2.2.2.1 u.2.2.2.2.2.2.2.2.2.1 u.2.2.2.2.2.2.2.2.2.2.1 u.2.2.2.2.2.2.2.2.2.2.2.1 u.2.2.2.2.2.2.2.2.2.2.2.2.1 u.2.2.2.2.2.2.2.2.2.2.2.2.2)) hP hD [0, 1, 2, 3] [4] rfl rfl (by decide) (by decide) hk1 hFc hP1 hD1
    have hP := hP.sub (ws' := (loW xh0 xh1 xh2 xh3 xc1 xc2 xc3 oh oc u.1 u.2.1 u.2.2.1 u.2.2.2.1 u.2.2.2.2.1 u.2.2.2.2.2.1 u.2.2.2.2.2.2.1 u.2.2.2.2.2.2.2.1 u.2.2.2.2.2.2.2.2.1 u.2.2.2.2.2.2.2.2.2.1 u.2.2.2.2.2.2.2.2.2.2.1 u.2.2.2.2.2.2.2.2.2.2.2.1 u.2.2.2.2.2.2.2.2.2.2.2.2.1 u.2.2.2.2.2.2.2.2.2.2.2.2.2 ov)) [1, 2, 3, 4, 0] rfl
    have hD := hD.sub (ws' := (loW xh0 xh1 xh2 xh3 xc1 xc2 xc3 oh oc u.1 u.2.1 u.2.2.1 u.2.2.2.1 u.2.2.2.2.1 u.2.2.2.2.2.1 u.2.2.2.2.2.2.1 u.2.2.2.2.2.2.2.1 u.2.2.2.2.2.2.2.2.1 u.2.2.2.2.2.2.2.2.2.1 u.2.2.2.2.2.2.2.2.2.2.1 u.2.2.2.2.2.2.2.2.2.2.2.1 u.2.2.2.2.2.2.2.2.2.2.2.2.1 u.2.2.2.2.2.2.2.2.2.2.2.2.2 ov)) [1, 2, 3, 4, 0] (by decide) rfl
    generalize H1 = H at hP hS ⊢
    refine lv_i2l hx hb dL_frame_10 rfl ?_
    refine va_last hx hb hK hP hD hS 4 3 rfl rfl in_01 dL_frame_11 (fun H locs hP hD hS => ?_)
    have hP : va_P (dC, dI) vwCl (loW xh0 xh1 xh2 xh3 xc1 xc2 xc3 oh oc u.1 u.2.1 u.2.2.1 u.2.2.2.1 u.2.2.2.2.1 u.2.2.2.2.2.1 u.2.2.2.2.2.2.1 u.2.2.2.2.2.2.2.1 u.2.2.2.2.2.2.2.2.1 u.2.2.2.2.2.2.2.2.2.1 u.2.2.2.2.2.2.2.2.2.2.1 u.2.2.2.2.2.2.2.2.2.2.2.1 u.2.2.2.2.2.2.2.2.2.2.2.2.1 u.2.2.2.2.2.2.2.2.2.2.2.2.2 (vp_updL ov (0 : Int32).toNatClampNeg r_1.toInt64)) H := hP
    have hD : va_D A (loW xh0 xh1 xh2 xh3 xc1 xc2 xc3 oh oc u.1 u.2.1 u.2.2.1 u.2.2.2.1 u.2.2.2.2.1 u.2.2.2.2.2.1 u.2.2.2.2.2.2.1 u.2.2.2.2.2.2.2.1 u.2.2.2.2.2.2.2.2.1 u.2.2.2.2.2.2.2.2.2.1 u.2.2.2.2.2.2.2.2.2.2.1 u.2.2.2.2.2.2.2.2.2.2.2.1 u.2.2.2.2.2.2.2.2.2.2.2.2.1 u.2.2.2.2.2.2.2.2.2.2.2.2.2 (vp_updL ov (0 : Int32).toNatClampNeg r_1.toInt64)) := hD
    refine lv_goto (tgt := 19) hx hb dL_frame_12 (by decide) ?_
    refine lv_iconst (v := 0) hx hb dL_frame_19 (by decide) ?_
    refine W.widen (k := 1) (n := 6) (Nat.le_of_ble_eq_true rfl) (Nat.le_of_ble_eq_true rfl) ?_
    exact W.iret (v := 0) hx hb hr (fun t ht hW => ⟨⟨0, (u, (vp_updL ov (0 : Int32).toNatClampNeg r_1.toInt64)), rfl, (by rw [← hw, gX, if_pos rfl]), by rw [ht]; exact hP, va_K.moved hW.alike hK, hD⟩, hS.F ht⟩) hS.2.2 dL_frame_20
abbrev wsL_place : List Cond := .codeWith yL_place cL_place 5 (some .int) [(0, 10, 13, 25)] :: wG
set_option maxHeartbeats 4000000 in
set_option maxRecDepth 100000 in
theorem mL_place (l : Launch) (hl9 : l.stackTraces = false) (dC : Nat → ClassId) (dI : Nat → Nat → Nat) (xh0 xh1 xh2 xh3 oh : Nat) (sz : Nat) (xc1 xc2 xc3 oc : ClassId) (xk1 xk2 xk3 : Nat → Int32) (xf3 xf4 xf5 xf6 xf7 xf8 xf9 xf10 xf11 xf12 xf13 : Int32) (ov : Nat → Int64) (p0 p1 : Int32)  : Met l yL_place wsL_place ({ frames := 7, cells := 1, slots := 6, locals := 104 }) (va_Pc [.ref xh0, .int p0, .int p1, .ref oh] (fun U => U.heap.size = sz ∧ va_P (dC, dI) vwCl (loW xh0 xh1 xh2 xh3 xc1 xc2 xc3 oh oc xk1 xk2 xk3 xf3 xf4 xf5 xf6 xf7 xf8 xf9 xf10 xf11 xf12 xf13 ov) U.heap ∧ va_K (dC, dI) vwCl [(xc1, .int), (xc2, .int), (xc3, .int), (oc, .long)] U ∧ va_D (fun _ => True) (loW xh0 xh1 xh2 xh3 xc1 xc2 xc3 oh oc xk1 xk2 xk3 xf3 xf4 xf5 xf6 xf7 xf8 xf9 xf10 xf11 xf12 xf13 ov) ∧ xZ (va_A (loW xh0 xh1 xh2 xh3 xc1 xc2 xc3 oh oc xk1 xk2 xk3 xf3 xf4 xf5 xf6 xf7 xf8 xf9 xf10 xf11 xf12 xf13 ov) sz) U U.heap)) (va_Qi (fun r u => (r, u) = gX (fX0_place xk1 xk2 xk3 xf3 xf4 xf5 xf6 xf7 xf8 xf9 xf10 xf11 xf12 xf13 p0 p1) ov) (loB dC dI (va_A (loW xh0 xh1 xh2 xh3 xc1 xc2 xc3 oh oc xk1 xk2 xk3 xf3 xf4 xf5 xf6 xf7 xf8 xf9 xf10 xf11 xf12 xf13 ov) sz) xh0 xh1 xh2 xh3 xc1 xc2 xc3 oh oc) (va_A (loW xh0 xh1 xh2 xh3 xc1 xc2 xc3 oh oc xk1 xk2 xk3 xf3 xf4 xf5 xf6 xf7 xf8 xf9 xf10 xf11 xf12 xf13 ov) sz)) 1 6 (va_A (loW xh0 xh1 xh2 xh3 xc1 xc2 xc3 oh oc xk1 xk2 xk3 xf3 xf4 xf5 xf6 xf7 xf8 xf9 xf10 xf11 xf12 xf13 ov) sz) := by
  refine va_MetW (cc := cL_place) (maxL := 5) (ret := (some .int)) (by decide) rfl ?_
  intro p e s m args below meth c s₁ B hml hv
  obtain ⟨rfl, hsz, hP, hK, hD0, hZ⟩ := hv
  have hx := B.exec
  have hb := B.bytes
  have hr := B.returns
  have hts := atoms_spec (ws := wsL_place) B.pre
  have htG := fun (w : Cond) (h : w ∈ wG) => hts w (List.mem_cons_of_mem _ h)
  have hown : s.vm.findClass RL = some m.cls := findClass_of_methodNamed B.named
  have hlocks := B.notSynchronized
  have hTab : c.exceptionTable.toList = tableOf [(0, 10, 13, 25)] := vx_table (x := yL_place) B (hts _ List.mem_cons_self)
  subst hsz
  have hD := hD0.self (sz := s.heap.size)
  generalize hAe : va_A (loW xh0 xh1 xh2 xh3 xc1 xc2 xc3 oh oc xk1 xk2 xk3 xf3 xf4 xf5 xf6 xf7 xf8 xf9 xf10 xf11 xf12 xf13 ov) s.heap.size = A at hD hZ ⊢
  have hA : ∀ q : Nat, s.heap.size ≤ q → A q := fun q h => by rw [← hAe]; exact Or.inr h
  have hS : va_S A s.heap s.heap [] := va_S.rf
  have hP : va_P (dC, dI) vwCl (loW xh0 xh1 xh2 xh3 xc1 xc2 xc3 oh oc xk1 xk2 xk3 xf3 xf4 xf5 xf6 xf7 xf8 xf9 xf10 xf11 xf12 xf13 ov) s.heap := hP
  have hl := lv_entry ([.ref xh0, .int p0, .int p1, .ref oh]) (n := 5) (Nat.le_of_ble_eq_true rfl)
  rw [lg_entry_eq]
  generalize (lg_sl ([.ref xh0, .int p0, .int p1, .ref oh]) ++ List.replicate (5 - (lg_sl ([.ref xh0, .int p0, .int p1, .ref oh])).length) Slot.unset).toArray = ls at hl ⊢
  have hl : lv_has ls 5 [(0, .ref xh0), (1, .int p0), (2, .int p1), (3, .ref oh)] := hl
  refine lv_aload_n hx hb dL_place_0 rfl (lv_at hl 3 rfl) ?_
  refine lv_iconst (v := 0) hx hb dL_place_1 (by decide) ?_
  refine lv_aload_n hx hb dL_place_2 rfl (lv_at hl 0 rfl) ?_
  refine lv_iload_n hx hb dL_place_3 rfl (lv_at hl 1 rfl) ?_
  refine lv_iload_n hx hb dL_place_4 rfl (lv_at hl 2 rfl) ?_
  have hPc := hP.sub (ws' := (xW xh0 xh1 xh2 xh3 xc1 xc2 xc3 xk1 xk2 xk3 xf3 xf4 xf5 xf6 xf7 xf8 xf9 xf10 xf11 xf12 xf13)) [0, 1, 2, 3] rfl
  have hDc := hD.sub (ws' := (xW xh0 xh1 xh2 xh3 xc1 xc2 xc3 xk1 xk2 xk3 xf3 xf4 xf5 xf6 xf7 xf8 xf9 xf10 xf11 xf12 xf13)) [0, 1, 2, 3] (by decide) rfl
  have hKc := hK.sub (tys' := [(xc1, .int), (xc2, .int), (xc3, .int)]) [0, 1, 2] rfl
  have hFc := va_free (wc := (xW xh0 xh1 xh2 xh3 xc1 xc2 xc3 xk1 xk2 xk3 xf3 xf4 xf5 xf6 xf7 xf8 xf9 xf10 xf11 xf12 xf13)) hD hS hA [0, 1, 2, 3] rfl
  refine vx_calli (vx_runV (As := [.int p0, .int p1]) (rest := [.int 0, .ref oh]) ⟨hx, hb, hml, hown, htG⟩ (mX0_place l hl9 dC dI xh0 xh1 xh2 xh3 s.heap.size xc1 xc2 xc3 xk1 xk2 xk3 xf3 xf4 xf5 xf6 xf7 xf8 xf9 xf10 xf11 xf12 xf13 p0 p1) (cwV 2 htG (wG_V wd_317 wd_318 wd_319 wd_22 wd_320) rfl rfl rfl (by decide +kernel) ⟨Nat.le_of_ble_eq_true rfl, Nat.le_of_ble_eq_true rfl⟩) ⟨fun a U g mk q => by obtain ⟨q0, q1, qP, qK, qD, qZ⟩ := q; exact ⟨q0, q1, qP, va_K.moved (u := U) (U := U.calling g mk a) (Vm.Alike.refl U.vm) qK, qD, qZ.blind⟩, va_recv hKc hPc (ci := 0) (q0 := 0) rfl rfl, fun U hU hW => ⟨rfl, by rw [hU], by rw [hU]; exact hPc, va_K.moved hW.alike hKc, hDc.weaken (fun _ _ _ _ => trivial), xZ.pass hZ hS hW hU hFc⟩⟩ rfl rfl hl.1 rfl (lv_room (Nat.le_of_ble_eq_true rfl)) dL_place_5 ⟨Nat.le_of_ble_eq_true rfl, Nat.le_of_ble_eq_true rfl⟩) hS (fun q _ h => hFc q h) hFc (fun q _ h => hFc q h) (fun E ce q9 u t H1 locs ht hvm hw hB hz1 hk1 hS hce hcv hcl => ?_) (fun r_1 u t H1 locs ht hvm hw hB hz1 hk1 hS => ?_)
  · obtain ⟨hE, hP1, hK1, hD1⟩ := hB
    rw [ht] at hP1
    obtain ⟨hP, hD⟩ := va_join (wr := [(oh, .inl (oc, 1, .inr (.inl ov)))]) (w1 := (xW xh0 xh1 xh2 xh3 xc1 xc2 xc3 xk1 xk2 xk3 xf3 xf4 xf5 xf6 xf7 xf8 xf9 xf10 xf11 xf12 xf13)) hP hD [0, 1, 2, 3] [4] rfl rfl (by decide) (by decide) hk1 hFc hP1 hD1
    have hP := hP.sub (ws' := (loW xh0 xh1 xh2 xh3 xc1 xc2 xc3 oh oc xk1 xk2 xk3 xf3 xf4 xf5 xf6 xf7 xf8 xf9 xf10 xf11 xf12 xf13 ov)) [1, 2, 3, 4, 0] rfl
    have hD := hD.sub (ws' := (loW xh0 xh1 xh2 xh3 xc1 xc2 xc3 oh oc xk1 xk2 xk3 xf3 xf4 xf5 xf6 xf7 xf8 xf9 xf10 xf11 xf12 xf13 ov)) [1, 2, 3, 4, 0] (by decide) rfl
    obtain ⟨rfl, hf⟩ := hE
    refine vx_catch (own := RL) (name := "java/lang/IndexOutOfBoundsException") (E := "java/lang/IndexOutOfBoundsException") hown [] ⟨0, 10, 13, 25⟩ [] (by rw [hTab]; rfl) (fun z hz => nomatch hz) (by decide) (by decide) (htG _ wd_219) (va_Nw.use rfl hZ.2.2.1.2.2.2.2.2) hce hcv hcl ?_
    refine lv_astore (lv' := [(4, .ref q9), (0, .ref xh0), (1, .int p0), (2, .int p1), (3, .ref oh)]) hx hb dL_place_13 hl (by decide) rfl (fun ls hl => ?_)
    refine lv_iconst (v := 1) hx hb dL_place_15 (by decide) ?_
    refine W.widen (k := 1) (n := 6) (Nat.le_of_ble_eq_true rfl) (Nat.le_of_ble_eq_true rfl) ?_
    exact W.iret (v := 1) hx hb hr (fun t ht hW => ⟨⟨1, ((xk1, xk2, xk3, xf3, xf4, xf5, xf6, xf7, xf8, xf9, xf10, xf11, xf12, xf13), ov), rfl, (by rw [hf, gX, if_neg n10]), by rw [ht]; exact hP, va_K.moved hW.alike hK, hD⟩, hS.F ht⟩) hS.2.2 dL_place_16
  · obtain ⟨hP1, hK1, hD1⟩ := hB
    rw [ht] at hP1
    obtain ⟨hP, hD⟩ := va_join (wr := [(oh, .inl (oc, 1, .inr (.inl ov)))]) (w1 := (xW xh0 xh1 xh2 xh3 xc1 xc2 xc3 u.1 u.2.1 u.2.2.1 u.2.2.2.1 u.2.2.2.2.1 u.2.2.2.2.2.1 u.2.2.2.2.2.2.1 u.2.2.2.2.2.2.2.1 u.2.2.2.2.2.2.2.2.1 u.2.2.2.2.2.2.2.2.2.1 u.2.2.2.2.2.2.2.2.2.2.1 u.2.2.2.2.2.2.2.2.2.2.2.1 u.2.2.2.2.2.2.2.2.2.2.2.2.1 u.2.2.2.2.2.2.2.2.2.2.2.2.2)) hP hD [0, 1, 2, 3] [4] rfl rfl (by decide) (by decide) hk1 hFc hP1 hD1
    have hP := hP.sub (ws' := (loW xh0 xh1 xh2 xh3 xc1 xc2 xc3 oh oc u.1 u.2.1 u.2.2.1 u.2.2.2.1 u.2.2.2.2.1 u.2.2.2.2.2.1 u.2.2.2.2.2.2.1 u.2.2.2.2.2.2.2.1 u.2.2.2.2.2.2.2.2.1 u.2.2.2.2.2.2.2.2.2.1 u.2.2.2.2.2.2.2.2.2.2.1 u.2.2.2.2.2.2.2.2.2.2.2.1 u.2.2.2.2.2.2.2.2.2.2.2.2.1 u.2.2.2.2.2.2.2.2.2.2.2.2.2 ov)) [1, 2, 3, 4, 0] rfl
    have hD := hD.sub (ws' := (loW xh0 xh1 xh2 xh3 xc1 xc2 xc3 oh oc u.1 u.2.1 u.2.2.1 u.2.2.2.1 u.2.2.2.2.1 u.2.2.2.2.2.1 u.2.2.2.2.2.2.1 u.2.2.2.2.2.2.2.1 u.2.2.2.2.2.2.2.2.1 u.2.2.2.2.2.2.2.2.2.1 u.2.2.2.2.2.2.2.2.2.2.1 u.2.2.2.2.2.2.2.2.2.2.2.1 u.2.2.2.2.2.2.2.2.2.2.2.2.1 u.2.2.2.2.2.2.2.2.2.2.2.2.2 ov)) [1, 2, 3, 4, 0] (by decide) rfl
    generalize H1 = H at hP hS ⊢
    refine lv_i2l hx hb dL_place_8 rfl ?_
    refine va_last hx hb hK hP hD hS 4 3 rfl rfl in_01 dL_place_9 (fun H locs hP hD hS => ?_)
    have hP : va_P (dC, dI) vwCl (loW xh0 xh1 xh2 xh3 xc1 xc2 xc3 oh oc u.1 u.2.1 u.2.2.1 u.2.2.2.1 u.2.2.2.2.1 u.2.2.2.2.2.1 u.2.2.2.2.2.2.1 u.2.2.2.2.2.2.2.1 u.2.2.2.2.2.2.2.2.1 u.2.2.2.2.2.2.2.2.2.1 u.2.2.2.2.2.2.2.2.2.2.1 u.2.2.2.2.2.2.2.2.2.2.2.1 u.2.2.2.2.2.2.2.2.2.2.2.2.1 u.2.2.2.2.2.2.2.2.2.2.2.2.2 (vp_updL ov (0 : Int32).toNatClampNeg r_1.toInt64)) H := hP
    have hD : va_D A (loW xh0 xh1 xh2 xh3 xc1 xc2 xc3 oh oc u.1 u.2.1 u.2.2.1 u.2.2.2.1 u.2.2.2.2.1 u.2.2.2.2.2.1 u.2.2.2.2.2.2.1 u.2.2.2.2.2.2.2.1 u.2.2.2.2.2.2.2.2.1 u.2.2.2.2.2.2.2.2.2.1 u.2.2.2.2.2.2.2.2.2.2.1 u.2.2.2.2.2.2.2.2.2.2.2.1 u.2.2.2.2.2.2.2.2.2.2.2.2.1 u.2.2.2.2.2.2.2.2.2.2.2.2.2 (vp_updL ov (0 : Int32).toNatClampNeg r_1.toInt64)) := hD
    refine lv_goto (tgt := 17) hx hb dL_place_10 (by decide) ?_
    refine lv_iconst (v := 0) hx hb dL_place_17 (by decide) ?_
    refine W.widen (k := 1) (n := 6) (Nat.le_of_ble_eq_true rfl) (Nat.le_of_ble_eq_true rfl) ?_
    exact W.iret (v := 0) hx hb hr (fun t ht hW => ⟨⟨0, (u, (vp_updL ov (0 : Int32).toNatClampNeg r_1.toInt64)), rfl, (by rw [← hw, gX, if_pos rfl]), by rw [ht]; exact hP, va_K.moved hW.alike hK, hD⟩, hS.F ht⟩) hS.2.2 dL_place_18
end
section
/-! THE CLAIM OUT OF ONE WALK OF THE LAW'S BODY. Your part is whole_start (and what it stands on); all else here is the same for every law, but numbers. -/
def R_law : String := "CallFramesLaw"
def lw_P (b : Addr) (xs : List Int32) (args : Array Value) (s : State) : Prop := args = #[.ref b] ∧ s.IntsAt b xs ∧ xs.length ≤ 2560 ∧ (Jvm.Cond.and given_1 narrow_1).before args s = true
def lw_Q (_ : Array Value) (s : State) (o : Outcome) (t : State) : Prop := o = .returned (some (.int 1)) ∧ Framed s o t [] 1049 8676
def lw_Z (below : List Frame) (a : Array Value) (s : State) : State → Prop := fun t => ∃ o, t.status = .running ∧ Ended t below o ∧ lw_Q a s o t
/-- the law's own end, with 1 on the stack, nothing written that was there before, its room as the claim has it -/
theorem lw_ret {p : Program} {l : Launch} {e : Env} {s : State} {m : MethodId} {below : List Frame} {meth : Method} {c : Code} {b : Nat} (hx : p.tables.exec = Jvm.exec) (hb : c.code = code) (hr : meth.sig.returnType = ret) (hlocks : meth.locks = false) {pc : Nat} {H : Heap} {ls : Array Slot} (hdg : decode code pc = .ok (.ireturn, 1)) : W p l e room_1 s m #[Value.ref b] below meth c H [] 1049 8676 (lw_Z below #[Value.ref b] s) (F0 m pc ls [.int 1]) := by
  intro T hT X
  obtain ⟨fs, hret, hrun, hended, hW, hframe⟩ := X.leave (v := some (.int 1)) (hlocks := hlocks) (fun h => by rw [hr] at h; cases h)
  have hmeth' : T.vm.method? m = some meth := X.method'
  refine ⟨T.setFrames fs, ?_, .returned (some (.int 1)), hrun, hended, rfl, ⟨_, rfl⟩, hW, hframe⟩
  jvm_step X.here [X.here.top, hx, hb, hdg, hmeth', hr, ret, narrow_b1]
  (try refine ⟨rfl, ?_⟩); (try refine ⟨rfl, ?_⟩)
  first | (intro acts; rw [hret _ acts rfl rfl rfl]) | rw [hret _ _ rfl rfl rfl]
  exact Steps.refl _
/-- what holds at the law's entry: the machine, the code, the tables' words (any of lw_tbl by 'hts w (by decide +kernel)'), the script of L ints xs at the cell b, what the Statement gives of the start (any of its parts by flat_of_before) -/
def lw_At (p : Program) (s : State) (m : MethodId) (meth : Method) (c : Code) (b L : Nat) (xs : Nat → Int32) : Prop :=
  p.tables.exec = Jvm.exec ∧ c.code = code ∧ meth.sig.returnType = ret ∧ c.maxLocals = 7 ∧ s.vm.findClass R_law = some m.cls ∧ (∀ w ∈ lw_tbl, w.before #[Value.ref b] s = true) ∧ va_X b L xs s s.heap ∧ b < s.heap.size ∧ meth.locks = false ∧ (Jvm.Cond.and given_1 narrow_1).before #[Value.ref b] s = true
end
section
theorem lgc_refl (x : Int64) : lg_cmp x x = 0 := by
  have h : ¬ x < x := by
    rw [Int64.lt_iff_toInt_lt]
    omega
  simp [lg_cmp, h]
abbrev lW (xh0 xh1 xh2 xh3 mh0 mh1 mh2 mh3 oh : Nat) (xc1 xc2 xc3 mc1 mc2 mc3 oc : ClassId) (σ : xWS) (μ : mWS) (ov : Nat → Int64) : va_W := [(xh0, .inr (0, [.ref xh1, .ref xh2, .ref xh3, .int σ.2.2.2.1, .int σ.2.2.2.2.1, .int σ.2.2.2.2.2.1, .int σ.2.2.2.2.2.2.1, .int σ.2.2.2.2.2.2.2.1, .int σ.2.2.2.2.2.2.2.2.1, .int σ.2.2.2.2.2.2.2.2.2.1, .int σ.2.2.2.2.2.2.2.2.2.2.1, .int σ.2.2.2.2.2.2.2.2.2.2.2.1, .int σ.2.2.2.2.2.2.2.2.2.2.2.2.1, .int σ.2.2.2.2.2.2.2.2.2.2.2.2.2])), (xh1, .inl (xc1, 60, .inl σ.1)), (xh2, .inl (xc2, 60, .inl σ.2.1)), (xh3, .inl (xc3, 60, .inl σ.2.2.1)), (mh0, .inr (1, [.int μ.2.2.2.1, .int μ.2.2.2.2.1, .int μ.2.2.2.2.2.1, .int μ.2.2.2.2.2.2.1, .int μ.2.2.2.2.2.2.2.1, .int μ.2.2.2.2.2.2.2.2.1, .int μ.2.2.2.2.2.2.2.2.2.1, .int μ.2.2.2.2.2.2.2.2.2.2.1, .int μ.2.2.2.2.2.2.2.2.2.2.2.1, .int μ.2.2.2.2.2.2.2.2.2.2.2.2, .ref mh1, .ref mh2, .ref mh3])), (mh1, .inl (mc1, 60, .inl μ.1)), (mh2, .inl (mc2, 60, .inl μ.2.1)), (mh3, .inl (mc3, 60, .inl μ.2.2.1)), (oh, .inl (oc, 1, .inr (.inl ov)))]
abbrev XF_begin (σ : xWS) (p0 p1 p2 p3 : Int32) : Int32 × Int32 × xWS := (fX0_begin σ.1 σ.2.1 σ.2.2.1 σ.2.2.2.1 σ.2.2.2.2.1 σ.2.2.2.2.2.1 σ.2.2.2.2.2.2.1 σ.2.2.2.2.2.2.2.1 σ.2.2.2.2.2.2.2.2.1 σ.2.2.2.2.2.2.2.2.2.1 σ.2.2.2.2.2.2.2.2.2.2.1 σ.2.2.2.2.2.2.2.2.2.2.2.1 σ.2.2.2.2.2.2.2.2.2.2.2.2.1 σ.2.2.2.2.2.2.2.2.2.2.2.2.2 p0 p1 p2 p3)
abbrev MF_begin (μ : mWS) (p0 p1 p2 p3 : Int32) : Int32 × Int32 × mWS := (fX1_begin μ.1 μ.2.1 μ.2.2.1 μ.2.2.2.1 μ.2.2.2.2.1 μ.2.2.2.2.2.1 μ.2.2.2.2.2.2.1 μ.2.2.2.2.2.2.2.1 μ.2.2.2.2.2.2.2.2.1 μ.2.2.2.2.2.2.2.2.2.1 μ.2.2.2.2.2.2.2.2.2.2.1 μ.2.2.2.2.2.2.2.2.2.2.2.1 μ.2.2.2.2.2.2.2.2.2.2.2.2 p0 p1 p2 p3)
abbrev XF_add (σ : xWS) (p0 p1 p2 : Int32) : Int32 × Int32 × xWS := (fX0_add σ.1 σ.2.1 σ.2.2.1 σ.2.2.2.1 σ.2.2.2.2.1 σ.2.2.2.2.2.1 σ.2.2.2.2.2.2.1 σ.2.2.2.2.2.2.2.1 σ.2.2.2.2.2.2.2.2.1 σ.2.2.2.2.2.2.2.2.2.1 σ.2.2.2.2.2.2.2.2.2.2.1 σ.2.2.2.2.2.2.2.2.2.2.2.1 σ.2.2.2.2.2.2.2.2.2.2.2.2.1 σ.2.2.2.2.2.2.2.2.2.2.2.2.2 p0 p1 p2)
abbrev MF_add (μ : mWS) (p0 p1 p2 : Int32) : Int32 × Int32 × mWS := (fX1_add μ.1 μ.2.1 μ.2.2.1 μ.2.2.2.1 μ.2.2.2.2.1 μ.2.2.2.2.2.1 μ.2.2.2.2.2.2.1 μ.2.2.2.2.2.2.2.1 μ.2.2.2.2.2.2.2.2.1 μ.2.2.2.2.2.2.2.2.2.1 μ.2.2.2.2.2.2.2.2.2.2.1 μ.2.2.2.2.2.2.2.2.2.2.2.1 μ.2.2.2.2.2.2.2.2.2.2.2.2 p0 p1 p2)
abbrev XF_where (σ : xWS) (p0 p1 : Int32) : Int32 × Int32 × xWS := (fX0_where σ.1 σ.2.1 σ.2.2.1 σ.2.2.2.1 σ.2.2.2.2.1 σ.2.2.2.2.2.1 σ.2.2.2.2.2.2.1 σ.2.2.2.2.2.2.2.1 σ.2.2.2.2.2.2.2.2.1 σ.2.2.2.2.2.2.2.2.2.1 σ.2.2.2.2.2.2.2.2.2.2.1 σ.2.2.2.2.2.2.2.2.2.2.2.1 σ.2.2.2.2.2.2.2.2.2.2.2.2.1 σ.2.2.2.2.2.2.2.2.2.2.2.2.2 p0 p1)
abbrev MF_where (μ : mWS) (p0 p1 : Int32) : Int32 × Int32 × mWS := (fX1_where μ.1 μ.2.1 μ.2.2.1 μ.2.2.2.1 μ.2.2.2.2.1 μ.2.2.2.2.2.1 μ.2.2.2.2.2.2.1 μ.2.2.2.2.2.2.2.1 μ.2.2.2.2.2.2.2.2.1 μ.2.2.2.2.2.2.2.2.2.1 μ.2.2.2.2.2.2.2.2.2.2.1 μ.2.2.2.2.2.2.2.2.2.2.2.1 μ.2.2.2.2.2.2.2.2.2.2.2.2 p0 p1)
abbrev XF_about (σ : xWS) (p0 p1 : Int32) : Int32 × Int32 × xWS := (fX0_about σ.1 σ.2.1 σ.2.2.1 σ.2.2.2.1 σ.2.2.2.2.1 σ.2.2.2.2.2.1 σ.2.2.2.2.2.2.1 σ.2.2.2.2.2.2.2.1 σ.2.2.2.2.2.2.2.2.1 σ.2.2.2.2.2.2.2.2.2.1 σ.2.2.2.2.2.2.2.2.2.2.1 σ.2.2.2.2.2.2.2.2.2.2.2.1 σ.2.2.2.2.2.2.2.2.2.2.2.2.1 σ.2.2.2.2.2.2.2.2.2.2.2.2.2 p0 p1)
abbrev MF_about (μ : mWS) (p0 p1 : Int32) : Int32 × Int32 × mWS := (fX1_about μ.1 μ.2.1 μ.2.2.1 μ.2.2.2.1 μ.2.2.2.2.1 μ.2.2.2.2.2.1 μ.2.2.2.2.2.2.1 μ.2.2.2.2.2.2.2.1 μ.2.2.2.2.2.2.2.2.1 μ.2.2.2.2.2.2.2.2.2.1 μ.2.2.2.2.2.2.2.2.2.2.1 μ.2.2.2.2.2.2.2.2.2.2.2.1 μ.2.2.2.2.2.2.2.2.2.2.2.2 p0 p1)
abbrev XF_signature (σ : xWS) (p0 : Int32) : Int32 × Int32 × xWS := (fX0_signature σ.1 σ.2.1 σ.2.2.1 σ.2.2.2.1 σ.2.2.2.2.1 σ.2.2.2.2.2.1 σ.2.2.2.2.2.2.1 σ.2.2.2.2.2.2.2.1 σ.2.2.2.2.2.2.2.2.1 σ.2.2.2.2.2.2.2.2.2.1 σ.2.2.2.2.2.2.2.2.2.2.1 σ.2.2.2.2.2.2.2.2.2.2.2.1 σ.2.2.2.2.2.2.2.2.2.2.2.2.1 σ.2.2.2.2.2.2.2.2.2.2.2.2.2 p0)
abbrev MF_signature (μ : mWS) (p0 : Int32) : Int32 × Int32 × mWS := (fX1_signature μ.1 μ.2.1 μ.2.2.1 μ.2.2.2.1 μ.2.2.2.2.1 μ.2.2.2.2.2.1 μ.2.2.2.2.2.2.1 μ.2.2.2.2.2.2.2.1 μ.2.2.2.2.2.2.2.2.1 μ.2.2.2.2.2.2.2.2.2.1 μ.2.2.2.2.2.2.2.2.2.2.1 μ.2.2.2.2.2.2.2.2.2.2.2.1 μ.2.2.2.2.2.2.2.2.2.2.2.2 p0)
abbrev XF_call (σ : xWS) : Int32 × Int32 × xWS := (fX0_call σ.1 σ.2.1 σ.2.2.1 σ.2.2.2.1 σ.2.2.2.2.1 σ.2.2.2.2.2.1 σ.2.2.2.2.2.2.1 σ.2.2.2.2.2.2.2.1 σ.2.2.2.2.2.2.2.2.1 σ.2.2.2.2.2.2.2.2.2.1 σ.2.2.2.2.2.2.2.2.2.2.1 σ.2.2.2.2.2.2.2.2.2.2.2.1 σ.2.2.2.2.2.2.2.2.2.2.2.2.1 σ.2.2.2.2.2.2.2.2.2.2.2.2.2)
abbrev MF_call (μ : mWS) : Int32 × Int32 × mWS := (fX1_call μ.1 μ.2.1 μ.2.2.1 μ.2.2.2.1 μ.2.2.2.2.1 μ.2.2.2.2.2.1 μ.2.2.2.2.2.2.1 μ.2.2.2.2.2.2.2.1 μ.2.2.2.2.2.2.2.2.1 μ.2.2.2.2.2.2.2.2.2.1 μ.2.2.2.2.2.2.2.2.2.2.1 μ.2.2.2.2.2.2.2.2.2.2.2.1 μ.2.2.2.2.2.2.2.2.2.2.2.2)
abbrev XF_frame (σ : xWS) (p0 p1 p2 : Int32) : Int32 × Int32 × xWS := (fX0_frame σ.1 σ.2.1 σ.2.2.1 σ.2.2.2.1 σ.2.2.2.2.1 σ.2.2.2.2.2.1 σ.2.2.2.2.2.2.1 σ.2.2.2.2.2.2.2.1 σ.2.2.2.2.2.2.2.2.1 σ.2.2.2.2.2.2.2.2.2.1 σ.2.2.2.2.2.2.2.2.2.2.1 σ.2.2.2.2.2.2.2.2.2.2.2.1 σ.2.2.2.2.2.2.2.2.2.2.2.2.1 σ.2.2.2.2.2.2.2.2.2.2.2.2.2 p0 p1 p2)
abbrev MF_frame (μ : mWS) (p0 p1 p2 : Int32) : Int32 × Int32 × mWS := (fX1_frame μ.1 μ.2.1 μ.2.2.1 μ.2.2.2.1 μ.2.2.2.2.1 μ.2.2.2.2.2.1 μ.2.2.2.2.2.2.1 μ.2.2.2.2.2.2.2.1 μ.2.2.2.2.2.2.2.2.1 μ.2.2.2.2.2.2.2.2.2.1 μ.2.2.2.2.2.2.2.2.2.2.1 μ.2.2.2.2.2.2.2.2.2.2.2.1 μ.2.2.2.2.2.2.2.2.2.2.2.2 p0 p1 p2)
abbrev XF_place (σ : xWS) (p0 p1 : Int32) : Int32 × Int32 × xWS := (fX0_place σ.1 σ.2.1 σ.2.2.1 σ.2.2.2.1 σ.2.2.2.2.1 σ.2.2.2.2.2.1 σ.2.2.2.2.2.2.1 σ.2.2.2.2.2.2.2.1 σ.2.2.2.2.2.2.2.2.1 σ.2.2.2.2.2.2.2.2.2.1 σ.2.2.2.2.2.2.2.2.2.2.1 σ.2.2.2.2.2.2.2.2.2.2.2.1 σ.2.2.2.2.2.2.2.2.2.2.2.2.1 σ.2.2.2.2.2.2.2.2.2.2.2.2.2 p0 p1)
abbrev MF_place (μ : mWS) (p0 p1 : Int32) : Int32 × Int32 × mWS := (fX1_place μ.1 μ.2.1 μ.2.2.1 μ.2.2.2.1 μ.2.2.2.2.1 μ.2.2.2.2.2.1 μ.2.2.2.2.2.2.1 μ.2.2.2.2.2.2.2.1 μ.2.2.2.2.2.2.2.2.1 μ.2.2.2.2.2.2.2.2.2.1 μ.2.2.2.2.2.2.2.2.2.2.1 μ.2.2.2.2.2.2.2.2.2.2.2.1 μ.2.2.2.2.2.2.2.2.2.2.2.2 p0 p1)
abbrev XF_clear (σ : xWS) : Int32 × Int32 × xWS := (fX0_clear σ.1 σ.2.1 σ.2.2.1 σ.2.2.2.1 σ.2.2.2.2.1 σ.2.2.2.2.2.1 σ.2.2.2.2.2.2.1 σ.2.2.2.2.2.2.2.1 σ.2.2.2.2.2.2.2.2.1 σ.2.2.2.2.2.2.2.2.2.1 σ.2.2.2.2.2.2.2.2.2.2.1 σ.2.2.2.2.2.2.2.2.2.2.2.1 σ.2.2.2.2.2.2.2.2.2.2.2.2.1 σ.2.2.2.2.2.2.2.2.2.2.2.2.2)
abbrev MF_clear (μ : mWS) : Int32 × Int32 × mWS := (fX1_clear μ.1 μ.2.1 μ.2.2.1 μ.2.2.2.1 μ.2.2.2.2.1 μ.2.2.2.2.2.1 μ.2.2.2.2.2.2.1 μ.2.2.2.2.2.2.2.1 μ.2.2.2.2.2.2.2.2.1 μ.2.2.2.2.2.2.2.2.2.1 μ.2.2.2.2.2.2.2.2.2.2.1 μ.2.2.2.2.2.2.2.2.2.2.2.1 μ.2.2.2.2.2.2.2.2.2.2.2.2)
end
section
/-! numbers: filling up, at Nat -/
theorem and_m8 {b : Nat} (h : b < 2 ^ 32) : b &&& 4294967288 = b / 8 * 8 := by
  have e : b / 8 * 8 = (b >>> 3) <<< 3 := by rw [Nat.shiftLeft_eq, Nat.shiftRight_eq_div_pow]
  rw [e]
  apply Nat.eq_of_testBit_eq
  intro i
  rw [Nat.testBit_and, Nat.testBit_shiftLeft, Nat.testBit_shiftRight]
  by_cases hi : i < 32
  · have hm : ∀ k, k < 32 → Nat.testBit 4294967288 k = decide (3 ≤ k) := by decide
    rw [hm i hi]
    by_cases h3 : 3 ≤ i
    · rw [show 3 + (i - 3) = i by omega]
      simp [h3]
    · simp [h3]
  · have hb : b.testBit i = false := Nat.testBit_lt_two_pow (Nat.lt_of_lt_of_le h (Nat.pow_le_pow_right (by decide) (by omega)))
    by_cases h3 : 3 ≤ i
    · rw [show 3 + (i - 3) = i by omega, hb]
      simp
    · omega
theorem and_m4 {b : Nat} (h : b < 2 ^ 32) : b &&& 4294967292 = b / 4 * 4 := by
  have e : b / 4 * 4 = (b >>> 2) <<< 2 := by rw [Nat.shiftLeft_eq, Nat.shiftRight_eq_div_pow]
  rw [e]
  apply Nat.eq_of_testBit_eq
  intro i
  rw [Nat.testBit_and, Nat.testBit_shiftLeft, Nat.testBit_shiftRight]
  by_cases hi : i < 32
  · have hm : ∀ k, k < 32 → Nat.testBit 4294967292 k = decide (2 ≤ k) := by decide
    rw [hm i hi]
    by_cases h3 : 2 ≤ i
    · rw [show 2 + (i - 2) = i by omega]
      simp [h3]
    · simp [h3]
  · have hb : b.testBit i = false := Nat.testBit_lt_two_pow (Nat.lt_of_lt_of_le h (Nat.pow_le_pow_right (by decide) (by omega)))
    by_cases h3 : 2 ≤ i
    · rw [show 2 + (i - 2) = i by omega, hb]
      simp
    · omega
theorem and_m2 {b : Nat} (h : b < 2 ^ 32) : b &&& 4294967294 = b / 2 * 2 := by
  have e : b / 2 * 2 = (b >>> 1) <<< 1 := by rw [Nat.shiftLeft_eq, Nat.shiftRight_eq_div_pow]
  rw [e]
  apply Nat.eq_of_testBit_eq
  intro i
  rw [Nat.testBit_and, Nat.testBit_shiftLeft, Nat.testBit_shiftRight]
  by_cases hi : i < 32
  · have hm : ∀ k, k < 32 → Nat.testBit 4294967294 k = decide (1 ≤ k) := by decide
    rw [hm i hi]
    by_cases h3 : 1 ≤ i
    · rw [show 1 + (i - 1) = i by omega]
      simp [h3]
    · simp [h3]
  · have hb : b.testBit i = false := Nat.testBit_lt_two_pow (Nat.lt_of_lt_of_le h (Nat.pow_le_pow_right (by decide) (by omega)))
    by_cases h3 : 1 ≤ i
    · rw [show 1 + (i - 1) = i by omega, hb]
      simp
    · omega
theorem nI_and {a b : Nat} (ha : a < 2 ^ 32) (hb : b < 2 ^ 32) {m : Int32} (hm : m.toBitVec.toNat = b) : nI a &&& m = nI (a &&& b) := by
  apply Int32.toBitVec_inj.mp
  apply BitVec.eq_of_toNat_eq
  rw [Int32.toBitVec_and, BitVec.toNat_and, pk_tn ha, hm, pk_tn (Nat.lt_of_le_of_lt Nat.and_le_left ha)]
theorem fill8 {a : Nat} (h : a < 2 ^ 30) : fX0_fill (nI a) 8 = nI ((a + 7) / 8 * 8) := by
  have e : nI a + 8 - 1 = nI (a + 7) := by
    rw [show (8 : Int32) = nI 8 from rfl, nI_add, show (1 : Int32) = nI 1 from rfl, pk_sub (by omega)]
    rfl
  rw [fX0_fill, e, nI_and (b := 4294967288) (by omega) (by decide) (by decide), and_m8 (by omega)]
theorem fill4 {a : Nat} (h : a < 2 ^ 30) : fX0_fill (nI a) 4 = nI ((a + 3) / 4 * 4) := by
  have e : nI a + 4 - 1 = nI (a + 3) := by
    rw [show (4 : Int32) = nI 4 from rfl, nI_add, show (1 : Int32) = nI 1 from rfl, pk_sub (by omega)]
    rfl
  rw [fX0_fill, e, nI_and (b := 4294967292) (by omega) (by decide) (by decide), and_m4 (by omega)]
theorem fill2 {a : Nat} (h : a < 2 ^ 30) : fX0_fill (nI a) 2 = nI ((a + 1) / 2 * 2) := by
  have e : nI a + 2 - 1 = nI (a + 1) := by
    rw [show (2 : Int32) = nI 2 from rfl, nI_add, show (1 : Int32) = nI 1 from rfl, pk_sub (by omega)]
    rfl
  rw [fX0_fill, e, nI_and (b := 4294967294) (by omega) (by decide) (by decide), and_m2 (by omega)]
theorem fill1 {a : Nat} (h : a < 2 ^ 30) : fX0_fill (nI a) 1 = nI a := by
  have e : nI a + 1 - 1 = nI a := inc_dec _
  have h2 : a &&& 4294967295 = a := (Nat.and_two_pow_sub_one_eq_mod a 32).trans (Nat.mod_eq_of_lt (by omega))
  rw [fX0_fill, e, nI_and (b := 4294967295) (by omega) (by decide) (by decide), h2]
theorem filled8 {a : Nat} (h : a < 2 ^ 30) : fX1_filled (nI a) 8 = nI ((a + 7) / 8 * 8) := by
  have e : nI a + 8 - 1 = nI (a + 7) := by
    rw [show (8 : Int32) = nI 8 from rfl, nI_add, show (1 : Int32) = nI 1 from rfl, pk_sub (by omega)]
    rfl
  rw [fX1_filled, e, show (8 : Int32) = nI 8 from rfl, pk_div (by omega) (by decide) (by decide), pk_mul]
theorem filled4 {a : Nat} (h : a < 2 ^ 30) : fX1_filled (nI a) 4 = nI ((a + 3) / 4 * 4) := by
  have e : nI a + 4 - 1 = nI (a + 3) := by
    rw [show (4 : Int32) = nI 4 from rfl, nI_add, show (1 : Int32) = nI 1 from rfl, pk_sub (by omega)]
    rfl
  rw [fX1_filled, e, show (4 : Int32) = nI 4 from rfl, pk_div (by omega) (by decide) (by decide), pk_mul]
theorem ff8 {a : Nat} (h : a < 2 ^ 30) : fX0_fill (nI a) 8 = fX1_filled (nI a) 8 := by rw [fill8 h, filled8 h]
theorem ff4 {a : Nat} (h : a < 2 ^ 30) : fX0_fill (nI a) 4 = fX1_filled (nI a) 4 := by rw [fill4 h, filled4 h]
theorem clampN {a : Nat} (h : a < 2 ^ 31) : (nI a).toNatClampNeg = a := nI_clamp h
end
section
/-! a record that can be: the class's test and the reference's are one -/
theorem le0_lt1 {x : Int32} : x ≤ 0 ↔ x < 1 := by
  rw [Int32.le_iff_toInt_le, Int32.lt_iff_toInt_lt, Int32.toInt_zero, show (1 : Int32).toInt = 1 from by decide]
  omega
theorem rec_in {size al : Int32} {d : Nat} (hd : al = nI d) (h0 : 0 < d) (h8 : d ≤ 8) (hf : ∀ a, a < 2 ^ 30 → fX0_fill (nI a) al = nI ((a + (d - 1)) / d * d)) (hq : ∀ a : Nat, a % d = 0 ↔ (a + (d - 1)) / d * d = a) :
    (if size ≤ 0 then (0 : Int32) else if 65536 < size then 0 else if (size - size / al * al) = 0 then 1 else 0) = (if size < 1 then 0 else if 65536 < size then 0 else if (fX0_fill size al) = size then 1 else 0) := by
  by_cases h1 : size < 1
  · rw [if_pos h1, if_pos (le0_lt1.mpr h1)]
  · rw [if_neg h1, if_neg (fun h => h1 (le0_lt1.mp h))]
    by_cases h2 : 65536 < size
    · rw [if_pos h2, if_pos h2]
    · rw [if_neg h2, if_neg h2]
      obtain ⟨a, ha, rfl⟩ : ∃ a : Nat, a ≤ 65536 ∧ size = nI a := by
        refine nI_of2 (M := 65536) (by decide) (fun h => h1 ?_) ?_
        · rw [Int32.lt_iff_toInt_lt] at h ⊢
          rw [Int32.toInt_zero] at h
          rw [show (1 : Int32).toInt = 1 from by decide]
          omega
        · rw [Int32.lt_iff_toInt_lt] at h2
          rw [Int32.le_iff_toInt_le]
          omega
      rw [hf a (by omega), hd, pk_rem (by omega) h0 (by omega)]
      have hb : (a + (d - 1)) / d * d ≤ a + (d - 1) := Nat.div_mul_le_self _ _
      by_cases h3 : a % d = 0
      · rw [if_pos (by rw [h3]; rfl), if_pos (by rw [(hq a).mp h3])]
      · have hm : a % d < d := Nat.mod_lt _ h0
        have hz : ¬ nI (a % d) = 0 := fun h => h3 ((nI_eq (b := 0) (by omega) (by decide)).mp h)
        rw [if_neg hz, if_neg (fun h => h3 ((hq a).mpr ((nI_eq (by omega) (by omega)).mp h)))]
theorem rec1 (size : Int32) : (if size ≤ 0 then (0 : Int32) else if 65536 < size then 0 else if (size - size / 1 * 1) = 0 then 1 else 0) = (if size < 1 then 0 else if 65536 < size then 0 else if (fX0_fill size 1) = size then 1 else 0) :=
  rec_in (d := 1) rfl (by decide) (by decide) (fun a h => by rw [fill1 h, show (a + (1 - 1)) / 1 * 1 = a by omega]) (fun a => by omega)
theorem rec2 (size : Int32) : (if size ≤ 0 then (0 : Int32) else if 65536 < size then 0 else if (size - size / 2 * 2) = 0 then 1 else 0) = (if size < 1 then 0 else if 65536 < size then 0 else if (fX0_fill size 2) = size then 1 else 0) :=
  rec_in (d := 2) rfl (by decide) (by decide) (fun a h => fill2 h) (fun a => by omega)
theorem rec4 (size : Int32) : (if size ≤ 0 then (0 : Int32) else if 65536 < size then 0 else if (size - size / 4 * 4) = 0 then 1 else 0) = (if size < 1 then 0 else if 65536 < size then 0 else if (fX0_fill size 4) = size then 1 else 0) :=
  rec_in (d := 4) rfl (by decide) (by decide) (fun a h => fill4 h) (fun a => by omega)
theorem rec8 (size : Int32) : (if size ≤ 0 then (0 : Int32) else if 65536 < size then 0 else if (size - size / 8 * 8) = 0 then 1 else 0) = (if size < 1 then 0 else if 65536 < size then 0 else if (fX0_fill size 8) = size then 1 else 0) :=
  rec_in (d := 8) rfl (by decide) (by decide) (fun a h => fill8 h) (fun a => by omega)
theorem good_eq (k most size al : Int32) : fX1_isGood k most size al = if k < 0 then 0 else if k ≤ most then (if k = 3 then fX0_isRecord size al else 1) else 0 := by
  rw [fX1_isGood]
  by_cases h1 : k < 0
  · rw [if_pos h1, if_pos h1]
  · rw [if_neg h1, if_neg h1]
    by_cases h2 : k ≤ most
    · rw [if_pos h2, if_pos h2]
      by_cases h3 : k = 3
      · rw [if_pos h3, if_pos h3, fX0_isRecord]
        by_cases a1 : al = 1
        · subst a1
          rw [if_pos rfl, if_pos rfl, rec1]
        · rw [if_neg a1, if_neg a1]
          by_cases a2 : al = 2
          · subst a2
            rw [if_pos rfl, if_pos rfl, rec2]
          · rw [if_neg a2, if_neg a2]
            by_cases a4 : al = 4
            · subst a4
              rw [if_pos rfl, if_pos rfl, rec4]
            · rw [if_neg a4, if_neg a4]
              by_cases a8 : al = 8
              · subst a8
                rw [if_pos rfl, if_pos rfl, rec8]
              · rw [if_neg a8, if_neg a8]
      · rw [if_neg h3, if_neg h3]
    · rw [if_neg h2, if_neg h2]
/-- what is known of a record that can be -/
theorem rec_size {size al : Int32} (h : ¬ fX0_isRecord size al = 0) : ∃ a : Nat, 1 ≤ a ∧ a ≤ 65536 ∧ size = nI a := by
  have key : ¬ size < 1 ∧ ¬ 65536 < size := by
    rw [fX0_isRecord] at h
    by_cases h1 : size < 1
    · exfalso
      apply h
      simp only [if_pos h1, ite_self]
    · by_cases h2 : 65536 < size
      · exfalso
        apply h
        simp only [if_neg h1, if_pos h2, ite_self]
      · exact ⟨h1, h2⟩
  obtain ⟨h1, h2⟩ := key
  rw [Int32.lt_iff_toInt_lt] at h1 h2
  rw [show (1 : Int32).toInt = 1 from by decide] at h1
  have h3 : ¬ size < 0 := by
    rw [Int32.lt_iff_toInt_lt, Int32.toInt_zero]
    omega
  obtain ⟨a, ha, rfl⟩ := nI_of2 (x := size) (M := 65536) (n := 65536) (by decide) h3 (by rw [Int32.le_iff_toInt_le]; omega)
  rw [nI_toInt (by omega)] at h1
  exact ⟨a, by omega, ha, rfl⟩
end
section
/-! homes -/
def hA (mk1 mk2 mk3 : Nat → Int32) (mf1 : Int32) (j : Nat) : Int32 := if fX1_isWide mk1 mk3 (nI j) = 0 then hM mk1 mk2 mk3 mf1 j else fX1_filled (hM mk1 mk2 mk3 mf1 j) 8
theorem home_lt {mk1 mk2 mk3 : Nat → Int32} {mf1 : Int32} {n j : Nat} (hj : j < n) (hn : n ≤ 60) : fX1_home mk1 mk2 mk3 mf1 (nI n) (nI j) = hA mk1 mk2 mk3 mf1 j := by
  rw [fX1_home, if_neg (nI_ge hj (by omega)), clampN (by omega), hA]
theorem home_eq {mk1 mk2 mk3 : Nat → Int32} {mf1 : Int32} {n : Nat} (hn : n ≤ 60) : fX1_home mk1 mk2 mk3 mf1 (nI n) (nI n) = hM mk1 mk2 mk3 mf1 n := by
  rw [fX1_home, if_pos (ile_refl _), clampN (by omega)]
theorem hM_succ (mk1 mk2 mk3 : Nat → Int32) (mf1 : Int32) (j : Nat) : hM mk1 mk2 mk3 mf1 (j + 1) = hA mk1 mk2 mk3 mf1 j + fX1_filled (fX1_bytes mk1 mk2 (nI j)) 4 := by
  rw [hM, hA]
  by_cases h : fX1_isWide mk1 mk3 (nI j) = 0
  · rw [if_pos h, if_pos h]
  · rw [if_neg h, if_neg h]
theorem upd_ne {f : Nat → Int32} {k j : Nat} {x : Int32} (h : j ≠ k) : upd f k x j = f j := pk_un h
theorem wide_ne {mk1 mk3 : Nat → Int32} {n j : Nat} {a c : Int32} (h : j < n) (hn : n ≤ 60) : fX1_isWide (upd mk1 n a) (upd mk3 n c) (nI j) = fX1_isWide mk1 mk3 (nI j) := by
  rw [fX1_isWide, fX1_isWide, clampN (by omega), upd_ne (by omega), upd_ne (by omega)]
theorem bytes_ne {mk1 mk2 : Nat → Int32} {n j : Nat} {a c : Int32} (h : j < n) (hn : n ≤ 60) : fX1_bytes (upd mk1 n a) (upd mk2 n c) (nI j) = fX1_bytes mk1 mk2 (nI j) := by
  rw [fX1_bytes, fX1_bytes, clampN (by omega), upd_ne (by omega), upd_ne (by omega)]
theorem hM_upd {mk1 mk2 mk3 : Nat → Int32} {mf1 a b c : Int32} {n : Nat} (hn : n ≤ 60) : ∀ k, k ≤ n → hM (upd mk1 n a) (upd mk2 n b) (upd mk3 n c) mf1 k = hM mk1 mk2 mk3 mf1 k
  | 0, _ => rfl
  | k + 1, h => by rw [hM, hM, hM_upd hn k (by omega), wide_ne (by omega) hn, bytes_ne (by omega) hn]
theorem hA_upd {mk1 mk2 mk3 : Nat → Int32} {mf1 a b c : Int32} {n j : Nat} (hn : n ≤ 60) (h : j < n) : hA (upd mk1 n a) (upd mk2 n b) (upd mk3 n c) mf1 j = hA mk1 mk2 mk3 mf1 j := by
  rw [hA, hA, hM_upd hn j (by omega), wide_ne h hn]
theorem bytes_new {mk1 mk2 : Nat → Int32} {n : Nat} {a b : Int32} (hn : n ≤ 60) : fX1_bytes (upd mk1 n a) (upd mk2 n b) (nI n) = fX0_bytesOf a b := by
  rw [fX1_bytes, fX0_bytesOf, clampN (by omega), pk_us, pk_us]
  by_cases h2 : a = 2
  · subst h2
    rw [if_pos rfl, if_neg (by decide), if_pos rfl]
  · rw [if_neg h2, if_neg h2]
theorem wide_new {mk1 mk3 : Nat → Int32} {n : Nat} {a c : Int32} (hn : n ≤ 60) : fX1_isWide (upd mk1 n a) (upd mk3 n c) (nI n) = if fX0_homeAlignment a c = 4 then 0 else 1 := by
  rw [fX1_isWide, fX0_homeAlignment, clampN (by omega), pk_us, pk_us]
  by_cases h2 : a = 2
  · rw [if_pos h2, if_pos h2]; rfl
  · rw [if_neg h2, if_neg h2]
    by_cases h3 : a = 3
    · rw [if_pos h3, if_pos h3]
      by_cases h8 : c = 8
      · rw [if_pos h8, if_pos h8]; rfl
      · rw [if_neg h8, if_neg h8]; rfl
    · rw [if_neg h3, if_neg h3]; rfl
theorem al_cases (a c : Int32) : fX0_homeAlignment a c = 4 ∨ fX0_homeAlignment a c = 8 := by
  rw [fX0_homeAlignment]
  repeat' split
  all_goals first | exact Or.inl rfl | exact Or.inr rfl
/-- the new argument's home: the class's number is the reference's -/
theorem home_new {mk1 mk2 mk3 : Nat → Int32} {mf1 a b c : Int32} {n e : Nat} (hn : n ≤ 60) (he : e ≤ 250000) (h : hM mk1 mk2 mk3 mf1 n = nI (4 * e)) :
    hA (upd mk1 n a) (upd mk2 n b) (upd mk3 n c) mf1 n = fX0_fill (nI (4 * e)) (fX0_homeAlignment a c) ∧ ∃ h : Nat, h ≤ 250001 ∧ fX0_fill (nI (4 * e)) (fX0_homeAlignment a c) = nI (4 * h) := by
  rw [hA, wide_new hn, hM_upd hn n (Nat.le_refl n), h]
  rcases al_cases a c with h4 | h8
  · rw [h4, if_pos rfl, if_pos rfl, fill4 (by omega), show (4 * e + 3) / 4 * 4 = 4 * e by omega]
    exact ⟨rfl, e, by omega, rfl⟩
  · rw [h8, if_neg (by decide), fill8 (by omega), filled8 (by omega)]
    exact ⟨rfl, (4 * e + 7) / 8 * 2, by omega, by rw [show 4 * ((4 * e + 7) / 8 * 2) = (4 * e + 7) / 8 * 8 by omega]⟩
def RA (xk1 xk2 xk3 mk1 mk2 mk3 : Nat → Int32) (mf1 : Int32) (j : Nat) : Prop := xk1 j = mk1 j ∧ xk2 j = hA mk1 mk2 mk3 mf1 j ∧ xk3 j = fX1_bytes mk1 mk2 (nI j) ∧ (∃ h : Nat, h ≤ 250000 ∧ xk2 j = nI (4 * h)) ∧ ∃ b : Nat, 1 ≤ b ∧ b ≤ 65536 ∧ xk3 j = nI b
/-- the signature at hand -/
def RS (xk1 xk2 xk3 : Nat → Int32) (xf3 xf4 xf5 xf6 : Int32) (mk1 mk2 mk3 : Nat → Int32) (mf1 mf2 mf9 : Int32) : Prop :=
  ∃ n e : Nat, n ≤ 60 ∧ xf3 = nI n ∧ mf2 = nI n ∧ xf4 = mf1 ∧ xf5 = mf9 ∧ (mf1 = 0 ∨ mf1 = 1 ∨ mf1 = 2 ∨ mf1 = 3 ∨ mf1 = 4) ∧ xf6 = nI (4 * e) ∧ e ≤ 250000 ∧ hM mk1 mk2 mk3 mf1 n = nI (4 * e) ∧ ∀ j, j < n → RA xk1 xk2 xk3 mk1 mk2 mk3 mf1 j
/-- the calls that were told -/
def RC (t : Nat) (xf7 xf8 mf3 mf4 : Int32) : Prop := ∃ k a : Nat, k ≤ t ∧ xf7 = nI k ∧ mf3 = nI k ∧ xf8 = nI (8 * a) ∧ mf4 = nI (8 * a) ∧ a ≤ 125001 ∧ (k = 0 → a = 0)
/-- the frame -/
def RF (xf9 xf10 xf11 xf12 xf13 mf5 mf6 mf7 mf8 : Int32) : Prop := ∃ a lc : Nat, xf9 = nI (8 * a) ∧ mf8 = nI (8 * a) ∧ a ≤ 125001 ∧ mf7 = nI lc ∧ lc ≤ 1000000 ∧ xf10 = fX1_fractionsAt mf7 mf8 ∧ xf11 = fX1_generalAt mf6 mf7 mf8 ∧ xf12 = mf5 ∧ xf13 = mf6 ∧ mf5 &&& 1057030143 = 0 ∧ mf6 &&& (-1431306241) = 0
end
section
def bt (x : Int32) (i : Nat) : Bool := x.toBitVec.getLsbD i
theorem b_ext {x y : Int32} (h : ∀ i, i < 32 → bt x i = bt y i) : x = y := Int32.toBitVec_inj.mp (BitVec.eq_of_getLsbD_eq (fun i hi => h i hi))
theorem b_or (x y : Int32) (i : Nat) : bt (x ||| y) i = (bt x i || bt y i) := by unfold bt; rw [Int32.toBitVec_or, BitVec.getLsbD_or]
theorem b_and (x y : Int32) (i : Nat) : bt (x &&& y) i = (bt x i && bt y i) := by unfold bt; rw [Int32.toBitVec_and, BitVec.getLsbD_and]
theorem b_xor (x y : Int32) (i : Nat) : bt (x ^^^ y) i = (bt x i ^^ bt y i) := by unfold bt; rw [Int32.toBitVec_xor, BitVec.getLsbD_xor]
theorem b_big {x : Int32} {i : Nat} (h : 32 ≤ i) : bt x i = false := BitVec.getLsbD_of_ge _ _ h
theorem b_255 (i : Nat) : bt 255 i = decide (i < 8) := by
  rcases Nat.lt_or_ge i 32 with h | h
  · exact (by decide +kernel : ∀ i, i < 32 → bt 255 i = decide (i < 8)) i h
  · rw [b_big h, decide_eq_false (by omega)]
theorem b_65535 (i : Nat) : bt 65535 i = decide (i < 16) := by
  rcases Nat.lt_or_ge i 32 with h | h
  · exact (by decide +kernel : ∀ i, i < 32 → bt 65535 i = decide (i < 16)) i h
  · rw [b_big h, decide_eq_false (by omega)]
theorem b_m1 : ∀ i, i < 32 → bt (-1) i = true := by decide +kernel
theorem b_0 (i : Nat) : bt 0 i = false := BitVec.getLsbD_zero
theorem s_l : ∀ n, n < 32 → ((nI n &&& 31).toBitVec.smod 32).toNat = n := by decide +kernel
theorem s_u : ∀ n, n < 32 → (((nI n).toUInt32 &&& Int32.toUInt32 31).toBitVec % 32).toNat = n := by decide +kernel
theorem b_shl (n : Nat) (hn : n < 32) (x : Int32) {i : Nat} (hi : i < 32) : bt (x <<< (nI n &&& 31)) i = (decide (n ≤ i) && bt x (i - n)) := by
  unfold bt
  rw [Int32.toBitVec_shiftLeft]
  show (x.toBitVec <<< ((nI n &&& 31).toBitVec.smod 32).toNat).getLsbD i = _
  rw [s_l n hn, BitVec.getLsbD_shiftLeft]
  rcases Nat.lt_or_ge i n with h | h
  · simp [h, Nat.not_le.mpr h]
  · simp [hi, h, Nat.not_lt.mpr h]
theorem b_ushr (n : Nat) (hn : n < 32) (x : Int32) (i : Nat) : bt ((x.toUInt32 >>> ((nI n).toUInt32 &&& Int32.toUInt32 31)).toInt32) i = bt x (n + i) := by
  show (x.toUInt32 >>> ((nI n).toUInt32 &&& Int32.toUInt32 31)).toBitVec.getLsbD i = x.toUInt32.toBitVec.getLsbD (n + i)
  rw [UInt32.toBitVec_shiftRight]
  show (x.toUInt32.toBitVec >>> (((nI n).toUInt32 &&& Int32.toUInt32 31).toBitVec % 32).toNat).getLsbD i = _
  rw [s_u n hn, BitVec.getLsbD_ushiftRight]
theorem b_sshr (n : Nat) (hn : n < 32) (x : Int32) {i : Nat} (hi : i < 32) : bt (x >>> (nI n &&& 31)) i = if n + i < 32 then bt x (n + i) else bt x 31 := by
  unfold bt
  rw [Int32.toBitVec_shiftRight]
  show (x.toBitVec.sshiftRight ((nI n &&& 31).toBitVec.smod 32).toNat).getLsbD i = _
  rw [s_l n hn, BitVec.getLsbD_sshiftRight, BitVec.msb_eq_getLsbD_last]
  simp [hi]
theorem b_shl8 (x : Int32) {i : Nat} (hi : i < 32) : bt (x <<< ((8 : Int32) &&& 31)) i = (decide (8 ≤ i) && bt x (i - 8)) := b_shl 8 (by omega) x hi
theorem b_shl16 (x : Int32) {i : Nat} (hi : i < 32) : bt (x <<< ((16 : Int32) &&& 31)) i = (decide (16 ≤ i) && bt x (i - 16)) := b_shl 16 (by omega) x hi
theorem b_shl24 (x : Int32) {i : Nat} (hi : i < 32) : bt (x <<< ((24 : Int32) &&& 31)) i = (decide (24 ≤ i) && bt x (i - 24)) := b_shl 24 (by omega) x hi
theorem b_sshr8 (x : Int32) {i : Nat} (hi : i < 32) : bt (x >>> ((8 : Int32) &&& 31)) i = if 8 + i < 32 then bt x (8 + i) else bt x 31 := b_sshr 8 (by omega) x hi
theorem bt1 : ∀ i, i < 32 → bt 1 i = decide (i = 0) := by decide +kernel
theorem bt_one (n : Nat) (hn : n < 32) (i : Nat) (hi : i < 32) : bt (1 <<< (nI n &&& 31)) i = decide (i = n) := by
  rw [b_shl n hn 1 hi, bt1 (i - n) (by omega)]
  by_cases h : n ≤ i
  · by_cases e : i = n
    · subst e
      simp
    · rw [decide_eq_false e, decide_eq_false (show ¬ i - n = 0 by omega), Bool.and_false]
  · rw [decide_eq_false h, decide_eq_false (show ¬ i = n by omega), Bool.false_and]
theorem bt_nI {a : Nat} (ha : a < 2 ^ 32) {i : Nat} : bt (nI a) i = a.testBit i := by
  unfold bt
  rw [← BitVec.testBit_toNat, pk_tn ha]
theorem low_nI : ∀ n, n < 32 → ((1 : Int32) <<< (nI n &&& 31)) - 1 = nI (2 ^ n - 1) := by decide +kernel
theorem bt_low (n : Nat) (hn : n < 32) (i : Nat) (hi : i < 32) : bt ((1 <<< (nI n &&& 31)) - 1) i = decide (i < n) := by
  have h1 : 2 ^ n ≤ 2 ^ 31 := Nat.pow_le_pow_right (by decide) (by omega)
  rw [low_nI n hn, bt_nI (by omega), Nat.testBit_two_pow_sub_one]
theorem bitv (x : Int32) {k : Nat} (hk : k < 32) : ((x >>> (nI k &&& 31)) &&& 1) = if bt x k then 1 else 0 := by
  apply b_ext
  intro i hi
  rw [b_and, b_sshr k hk x hi, bt1 i hi]
  by_cases h0 : i = 0
  · subst h0
    rw [if_pos (by omega), Nat.add_zero]
    cases bt x k <;> decide
  · cases bt x k
    · simp [h0, b_0]
    · simp [h0, bt1 i hi]
theorem bit_and (x : Int32) {n : Nat} (hn : n < 32) : (x &&& (1 <<< (nI n &&& 31))) = 0 ↔ bt x n = false := by
  constructor
  · intro h
    have h2 := congrArg (fun z => bt z n) h
    have h3 : bt (x &&& (1 <<< (nI n &&& 31))) n = bt 0 n := h2
    rw [b_and, bt_one n hn n hn, b_0] at h3
    simpa using h3
  · intro h
    apply b_ext
    intro i hi
    rw [b_and, bt_one n hn i hi, b_0]
    by_cases e : i = n
    · subst e
      simp [h]
    · simp [e]
theorem bit_shr (x : Int32) {n : Nat} (hn : n < 32) : ((x >>> (nI n &&& 31)) &&& 1) = 0 ↔ bt x n = false := by
  rw [bitv x hn]
  cases bt x n <;> decide
theorem svM_and (s p2 : Int32) {n : Nat} (hn : n < 32) : ∀ k, k ≤ 32 → svM (s &&& ((1 <<< (nI n &&& 31)) - 1)) p2 k = svM s p2 (if k < n then k else n)
  | 0, _ => by
    by_cases h : 0 < n
    · rw [if_pos h]; rfl
    · rw [if_neg h, show n = 0 by omega]; rfl
  | k + 1, h => by
    rw [svM, svM_and s p2 hn k (by omega), bitv _ (by omega : k < 32), b_and, bt_low n hn k (by omega)]
    by_cases h1 : k < n
    · rw [if_pos h1, decide_eq_true h1, Bool.and_true]
      have e : svM s p2 (k + 1) = svM s p2 k + (if bt s k then 1 else 0) * p2 := by rw [svM, bitv s (by omega : k < 32)]
      by_cases h2 : k + 1 < n
      · rw [if_pos h2, e]
      · rw [if_neg h2, show n = k + 1 by omega, e]
    · rw [if_neg h1, decide_eq_false h1, Bool.and_false, if_neg (show ¬ k + 1 < n by omega)]
      simp
end
section
/-! bits of the sets of registers -/
theorem ofN (s : Int32) : s = nI s.toBitVec.toNat := by
  apply Int32.toBitVec_inj.mp
  apply BitVec.eq_of_toNat_eq
  rw [pk_tn s.toBitVec.isLt]
theorem msk_nat {s m : Int32} (h : s &&& m = 0) : s.toBitVec.toNat &&& m.toBitVec.toNat = 0 := by
  have h2 := congrArg (fun z : Int32 => z.toBitVec.toNat) h
  have h3 : (s &&& m).toBitVec.toNat = (0 : Int32).toBitVec.toNat := h2
  rw [Int32.toBitVec_and, BitVec.toNat_and] at h3
  exact h3
theorem bit0 {x m : Nat} (i : Nat) (h : x &&& m = 0) (hm : m.testBit i = true) : x / 2 ^ i % 2 = 0 := by
  have h2 := congrArg (fun z : Nat => z.testBit i) h
  have h3 : (x &&& m).testBit i = (0 : Nat).testBit i := h2
  rw [Nat.testBit_and, hm, Nat.zero_testBit, Bool.and_true, Nat.testBit_eq_decide_div_mod_eq, decide_eq_false_iff_not] at h3
  omega
theorem low0 {x m : Nat} (k : Nat) (h : x &&& m = 0) (hm : m &&& (2 ^ k - 1) = 2 ^ k - 1) : x % 2 ^ k = 0 := by
  rw [← Nat.and_two_pow_sub_one_eq_mod, ← hm, ← Nat.and_assoc, h, Nat.zero_and]
theorem shr0 {x m : Nat} (k : Nat) (h : x &&& m = 0) : (x >>> k) &&& (m >>> k) = 0 := by
  rw [← Nat.shiftRight_and_distrib, h, Nat.zero_shiftRight]
theorem gen_n {x : Nat} (hx : x < 4294967296) (h1 : x % 65536 = 0) (h2 : x / 16777216 % 64 = 0) : x = x / 1073741824 * 1073741824 + x / 65536 % 256 * 65536 := by omega
theorem gen_of {s : Int32} (h : s &&& 1057030143 = 0) : ∃ c b : Nat, c < 4 ∧ b < 256 ∧ s = nI (c * 1073741824 + b * 65536) := by
  have hx := s.toBitVec.isLt
  have e := ofN s
  have hm : (1057030143 : Int32).toBitVec.toNat = 1057030143 := by decide
  have h0 := msk_nat h
  rw [hm] at h0
  generalize s.toBitVec.toNat = x at hx e h0
  have h1 := low0 16 h0 (by decide)
  have h2 := shr0 24 h0
  rw [show 1057030143 >>> 24 = 2 ^ 6 - 1 from by decide, Nat.and_two_pow_sub_one_eq_mod, Nat.shiftRight_eq_div_pow] at h2
  exact ⟨x / 1073741824, x / 65536 % 256, by omega, by omega, by rw [e]; exact congrArg nI (gen_n hx h1 h2)⟩
theorem frac_y : (List.range 64).all (fun a => (List.range 64).all (fun b => decide ((a * 64 + b) &&& 2730 = 0 → (a * 64 + b) = (a * 64 + b) % 2 + (a * 64 + b) / 4 % 2 * 4 + (a * 64 + b) / 16 % 2 * 16 + (a * 64 + b) / 64 % 2 * 64 + (a * 64 + b) / 256 % 2 * 256 + (a * 64 + b) / 1024 % 2 * 1024))) = true := by decide +kernel
theorem frac_of {s : Int32} (h : s &&& (-1431306241) = 0) : ∃ e0 e1 e2 e3 e4 e5 : Nat, e0 < 2 ∧ e1 < 2 ∧ e2 < 2 ∧ e3 < 2 ∧ e4 < 2 ∧ e5 < 2 ∧ s = nI ((e0 + e1 * 4 + e2 * 16 + e3 * 64 + e4 * 256 + e5 * 1024) * 1048576) := by
  have hx := s.toBitVec.isLt
  have e := ofN s
  have hm : (-1431306241 : Int32).toBitVec.toNat = 2863661055 := by decide
  have h0 := msk_nat h
  rw [hm] at h0
  generalize s.toBitVec.toNat = x at hx e h0
  have h1 := low0 20 h0 (by decide)
  have h2 := shr0 20 h0
  rw [show 2863661055 >>> 20 = 2730 from by decide, Nat.shiftRight_eq_div_pow] at h2
  have hy : x / 2 ^ 20 < 4096 := by omega
  have hxy : x = x / 2 ^ 20 * 1048576 := by omega
  generalize x / 2 ^ 20 = y at h2 hy hxy
  have h3 := List.all_eq_true.mp frac_y (y / 64) (List.mem_range.mpr (by omega))
  have h4 := of_decide_eq_true (List.all_eq_true.mp h3 (y % 64) (List.mem_range.mpr (by omega)))
  rw [show y / 64 * 64 + y % 64 = y by omega] at h4
  have h5 := h4 h2
  refine ⟨y % 2, y / 4 % 2, y / 16 % 2, y / 64 % 2, y / 256 % 2, y / 1024 % 2, Nat.mod_lt _ (by decide), Nat.mod_lt _ (by decide), Nat.mod_lt _ (by decide), Nat.mod_lt _ (by decide), Nat.mod_lt _ (by decide), Nat.mod_lt _ (by decide), ?_⟩
  rw [← h5, ← hxy]
  exact e
end
section
def b1 (x : Nat) : Nat := x - (x / 2 &&& 1431655765)
def b2 (x : Nat) : Nat := (x &&& 858993459) + (x / 4 &&& 858993459)
def b3 (x : Nat) : Nat := (x + x / 16) &&& 252645135
def b4 (x : Nat) : Nat := x + x / 256
def b5 (x : Nat) : Nat := x + x / 65536
def bcN (x : Nat) : Nat := b5 (b4 (b3 (b2 (b1 x)))) &&& 63
theorem e_b1 {x : Nat} (hx : x < 4294967296) : nI x - (((nI x).toUInt32 >>> ((1 : Int32).toUInt32 &&& Int32.toUInt32 31)).toInt32 &&& 1431655765) = nI (b1 x) := by
  have h1 : x / 2 &&& 1431655765 ≤ x / 2 := Nat.and_le_left
  rw [pk_ushrN hx 1 1 (by decide), nI_and (b := 1431655765) (by omega) (by decide) (by decide)]
  exact pk_sub (show x / 2 &&& 1431655765 ≤ x by omega)
theorem e_b2 {x : Nat} (hx : x < 4294967296) : (nI x &&& 858993459) + (((nI x).toUInt32 >>> ((2 : Int32).toUInt32 &&& Int32.toUInt32 31)).toInt32 &&& 858993459) = nI (b2 x) := by
  rw [pk_ushrN hx 2 2 (by decide), nI_and (b := 858993459) (a := x) (by omega) (by decide) (by decide), nI_and (b := 858993459) (by omega) (by decide) (by decide), nI_add]
  rfl
theorem e_b3 {x : Nat} (hx : x < 4026531840) : (nI x + ((nI x).toUInt32 >>> ((4 : Int32).toUInt32 &&& Int32.toUInt32 31)).toInt32) &&& 252645135 = nI (b3 x) := by
  rw [pk_ushrN (by omega) 4 4 (by decide), nI_add, nI_and (b := 252645135) (by omega) (by decide) (by decide)]
  rfl
theorem e_b4 {x : Nat} (hx : x < 4294967296) : nI x + ((nI x).toUInt32 >>> ((8 : Int32).toUInt32 &&& Int32.toUInt32 31)).toInt32 = nI (b4 x) := by
  rw [pk_ushrN hx 8 8 (by decide), nI_add]
  rfl
theorem e_b5 {x : Nat} (hx : x < 4294967296) : nI x + ((nI x).toUInt32 >>> ((16 : Int32).toUInt32 &&& Int32.toUInt32 31)).toInt32 = nI (b5 x) := by
  rw [pk_ushrN hx 16 16 (by decide), nI_add]
  rfl
theorem bc_nat {x : Nat} (hx : x < 4294967296) : fJ0_bitCount (nI x) = nI (bcN x) := by
  have l1 : b1 x < 4294967296 := Nat.lt_of_le_of_lt (Nat.sub_le _ _) hx
  have l2 : b2 (b1 x) ≤ 1717986918 := Nat.add_le_add (Nat.and_le_right (n := b1 x) (m := 858993459)) (Nat.and_le_right (n := b1 x / 4) (m := 858993459))
  have l3 : b3 (b2 (b1 x)) ≤ 252645135 := Nat.and_le_right
  have l4 : b4 (b3 (b2 (b1 x))) ≤ 252645135 + 252645135 := Nat.add_le_add l3 (Nat.le_trans (Nat.div_le_self _ _) l3)
  have l5 : b5 (b4 (b3 (b2 (b1 x)))) ≤ (252645135 + 252645135) + (252645135 + 252645135) := Nat.add_le_add l4 (Nat.le_trans (Nat.div_le_self _ _) l4)
  rw [fJ0_bitCount, e_b1 hx, e_b2 l1, e_b3 (by omega), e_b4 (by omega), e_b5 (by omega), nI_and (b := 63) (by omega) (by decide) (by decide), bcN]
def cntN (x : Nat) : Nat → Nat
  | 0 => 0
  | k + 1 => cntN x k + (if x.testBit k then 1 else 0)
theorem svM_cnt {x : Nat} (hx : x < 4294967296) (p2 : Int32) : ∀ k, k ≤ 32 → svM (nI x) p2 k = nI (cntN x k) * p2
  | 0, _ => by
    rw [svM, cntN, nI_0, Int32.zero_mul]
  | k + 1, h => by
    rw [svM, svM_cnt hx p2 k (by omega), bitv _ (by omega : k < 32), bt_nI hx, cntN, ← nI_add, Int32.add_mul]
    cases x.testBit k <;> rfl
theorem enumG : (List.range 4).all (fun c => (List.range 256).all (fun b => decide (bcN (c * 1073741824 + b * 65536) = cntN (c * 1073741824 + b * 65536) 32))) = true := by decide +kernel
theorem enumF : (List.range 2).all (fun e0 => (List.range 2).all (fun e1 => (List.range 2).all (fun e2 => (List.range 2).all (fun e3 => (List.range 2).all (fun e4 => (List.range 2).all (fun e5 => decide (bcN ((e0 + e1 * 4 + e2 * 16 + e3 * 64 + e4 * 256 + e5 * 1024) * 1048576) = cntN ((e0 + e1 * 4 + e2 * 16 + e3 * 64 + e4 * 256 + e5 * 1024) * 1048576) 32))))))) = true := by decide +kernel
end
section
theorem cntG {s : Int32} (h : s &&& 1057030143 = 0) : (4 : Int32) * fJ0_bitCount s = svM s 4 32 := by
  obtain ⟨c, b, hc, hb, rfl⟩ := gen_of h
  have h1 := List.all_eq_true.mp enumG c (List.mem_range.mpr hc)
  have h2 := of_decide_eq_true (List.all_eq_true.mp h1 b (List.mem_range.mpr hb))
  have hx : c * 1073741824 + b * 65536 < 4294967296 := by omega
  rw [bc_nat hx, svM_cnt hx 4 32 (Nat.le_refl _), h2, Int32.mul_comm]
theorem cntF {s : Int32} (h : s &&& (-1431306241) = 0) : (8 : Int32) * fJ0_bitCount s = svM s 8 32 := by
  obtain ⟨e0, e1, e2, e3, e4, e5, h0, h1, h2, h3, h4, h5, rfl⟩ := frac_of h
  have a0 := List.all_eq_true.mp enumF e0 (List.mem_range.mpr h0)
  have a1 := List.all_eq_true.mp a0 e1 (List.mem_range.mpr h1)
  have a2 := List.all_eq_true.mp a1 e2 (List.mem_range.mpr h2)
  have a3 := List.all_eq_true.mp a2 e3 (List.mem_range.mpr h3)
  have a4 := List.all_eq_true.mp a3 e4 (List.mem_range.mpr h4)
  have a5 := of_decide_eq_true (List.all_eq_true.mp a4 e5 (List.mem_range.mpr h5))
  have hx : (e0 + e1 * 4 + e2 * 16 + e3 * 64 + e4 * 256 + e5 * 1024) * 1048576 < 4294967296 := by omega
  rw [bc_nat hx, svM_cnt hx 8 32 (Nat.le_refl _), a5, Int32.mul_comm]
/-- the place of register n among those that are saved -/
theorem cntGn {s : Int32} (h : s &&& 1057030143 = 0) {n : Nat} (hn : n < 32) : (4 : Int32) * fJ0_bitCount (s &&& ((1 <<< (nI n &&& 31)) - 1)) = svM s 4 n := by
  have h2 : (s &&& ((1 <<< (nI n &&& 31)) - 1)) &&& 1057030143 = 0 := by
    rw [Int32.and_assoc, Int32.and_comm ((1 <<< (nI n &&& 31)) - 1), ← Int32.and_assoc, h, Int32.zero_and]
  rw [cntG h2, svM_and s 4 hn 32 (Nat.le_refl _), if_neg (by omega)]
theorem cntFn {s : Int32} (h : s &&& (-1431306241) = 0) {n : Nat} (hn : n < 32) : (8 : Int32) * fJ0_bitCount (s &&& ((1 <<< (nI n &&& 31)) - 1)) = svM s 8 n := by
  have h2 : (s &&& ((1 <<< (nI n &&& 31)) - 1)) &&& (-1431306241) = 0 := by
    rw [Int32.and_assoc, Int32.and_comm ((1 <<< (nI n &&& 31)) - 1), ← Int32.and_assoc, h, Int32.zero_and]
  rw [cntF h2, svM_and s 8 hn 32 (Nat.le_refl _), if_neg (by omega)]
end
section
def Rel (t : Nat) (σ : xWS) (μ : mWS) : Prop := RS σ.1 σ.2.1 σ.2.2.1 σ.2.2.2.1 σ.2.2.2.2.1 σ.2.2.2.2.2.1 σ.2.2.2.2.2.2.1 μ.1 μ.2.1 μ.2.2.1 μ.2.2.2.2.1 μ.2.2.2.2.2.1 μ.2.2.2.2.2.2.2.2.2.2.2.2 ∧ RC t σ.2.2.2.2.2.2.2.1 σ.2.2.2.2.2.2.2.2.1 μ.2.2.2.2.2.2.1 μ.2.2.2.2.2.2.2.1 ∧ RF σ.2.2.2.2.2.2.2.2.2.1 σ.2.2.2.2.2.2.2.2.2.2.1 σ.2.2.2.2.2.2.2.2.2.2.2.1 σ.2.2.2.2.2.2.2.2.2.2.2.2.1 σ.2.2.2.2.2.2.2.2.2.2.2.2.2 μ.2.2.2.2.2.2.2.2.1 μ.2.2.2.2.2.2.2.2.2.1 μ.2.2.2.2.2.2.2.2.2.2.1 μ.2.2.2.2.2.2.2.2.2.2.2.1
theorem RC.mono {t : Nat} {xf7 xf8 mf3 mf4 : Int32} (h : RC t xf7 xf8 mf3 mf4) : RC (t + 1) xf7 xf8 mf3 mf4 := by
  obtain ⟨k, a, h1, h2⟩ := h
  exact ⟨k, a, by omega, h2⟩
theorem rl_mono {t : Nat} {σ : xWS} {μ : mWS} (h : Rel t σ μ) : Rel (t + 1) σ μ := ⟨h.1, h.2.1.mono, h.2.2⟩
theorem rl_N {t : Nat} {σ : xWS} {μ : mWS} (h : Rel t σ μ) : (μ.2.2.2.2.2.1).toNatClampNeg ≤ 60 := by
  obtain ⟨⟨n, e, hn, -, h2, -⟩, -, -⟩ := h
  rw [h2, clampN (by omega)]
  exact hn
theorem rl_0 {t : Nat} {σ : xWS} {μ : mWS} (h : Rel t σ μ) : ¬ μ.2.2.2.2.2.1 < 0 := by
  obtain ⟨⟨n, e, hn, -, h2, -⟩, -, -⟩ := h
  rw [h2]
  exact nI_pos (by omega)
theorem rl_start : Rel 0 xWI mWI := by
  refine ⟨⟨0, 0, by omega, rfl, rfl, rfl, rfl, by decide, rfl, by omega, by decide, fun j h => absurd h (Nat.not_lt_zero j)⟩, ⟨0, 0, by omega, rfl, rfl, rfl, rfl, by omega, fun _ => rfl⟩, ⟨0, 0, rfl, rfl, by omega, rfl, by omega, by decide, by decide, rfl, rfl, by decide, by decide⟩⟩
end
