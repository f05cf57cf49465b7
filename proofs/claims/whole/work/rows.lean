section
-- ===== PART A: goes FIRST, ahead of the names: the tables' words, and 'selects' of the private methods out of them =====
/-- a private method of a class that the tables say can be made, by its rows of tables_1 -/
def lw_okq (q : MethodName × Nat) : Prop := (q.1.cls ≠ "java/lang/invoke/MethodHandle" ∧ q.1.cls ≠ "java/lang/invoke/VarHandle") ∧ Cond.instantiable q.1.cls q.2 ∈ tables_1 ∧ Cond.privateMethod q.1 ∈ tables_1 ∧ Cond.instanceMethod q.1 ∈ tables_1
theorem lw_p0 : lw_okq (⟨"java/util/ArrayList", "add", "(Ljava/lang/Object;[Ljava/lang/Object;I)V"⟩, 3) := ⟨⟨by decide +kernel, by decide +kernel⟩, List.mem_of_getElem? (i := 30) (by decide +kernel), List.mem_of_getElem? (i := 89) (by decide +kernel), List.mem_of_getElem? (i := 90) (by decide +kernel)⟩
theorem lw_p1 : lw_okq (⟨"java/util/ArrayList", "grow", "()[Ljava/lang/Object;"⟩, 3) := ⟨⟨by decide +kernel, by decide +kernel⟩, List.mem_of_getElem? (i := 30) (by decide +kernel), List.mem_of_getElem? (i := 93) (by decide +kernel), List.mem_of_getElem? (i := 94) (by decide +kernel)⟩
theorem lw_p2 : lw_okq (⟨"java/util/ArrayList", "grow", "(I)[Ljava/lang/Object;"⟩, 3) := ⟨⟨by decide +kernel, by decide +kernel⟩, List.mem_of_getElem? (i := 30) (by decide +kernel), List.mem_of_getElem? (i := 97) (by decide +kernel), List.mem_of_getElem? (i := 98) (by decide +kernel)⟩
theorem lw_p3 : lw_okq (⟨"TaxEqualiser", "landAt", "(I)LTaxEqualiser$Land;"⟩, 2) := ⟨⟨by decide +kernel, by decide +kernel⟩, List.mem_of_getElem? (i := 22) (by decide +kernel), List.mem_of_getElem? (i := 275) (by decide +kernel), List.mem_of_getElem? (i := 276) (by decide +kernel)⟩
theorem lw_p4 : lw_okq (⟨"java/lang/Throwable", "fillInStackTrace", "(I)Ljava/lang/Throwable;"⟩, 6) := ⟨⟨by decide +kernel, by decide +kernel⟩, List.mem_of_getElem? (i := 317) (by decide +kernel), List.mem_of_getElem? (i := 315) (by decide +kernel), List.mem_of_getElem? (i := 316) (by decide +kernel)⟩
theorem lw_p5 : lw_okq (⟨"TaxEqualiser", "personAt", "(I)LTaxEqualiser$Person;"⟩, 2) := ⟨⟨by decide +kernel, by decide +kernel⟩, List.mem_of_getElem? (i := 22) (by decide +kernel), List.mem_of_getElem? (i := 467) (by decide +kernel), List.mem_of_getElem? (i := 468) (by decide +kernel)⟩
theorem lw_p6 : lw_okq (⟨"TaxEqualiserModel", "taxOf", "(IJ)J"⟩, 16) := ⟨⟨by decide +kernel, by decide +kernel⟩, List.mem_of_getElem? (i := 616) (by decide +kernel), List.mem_of_getElem? (i := 697) (by decide +kernel), List.mem_of_getElem? (i := 698) (by decide +kernel)⟩
theorem lw_p7 : lw_okq (⟨"TaxEqualiserModel", "fails", "(I)I"⟩, 16) := ⟨⟨by decide +kernel, by decide +kernel⟩, List.mem_of_getElem? (i := 616) (by decide +kernel), List.mem_of_getElem? (i := 702) (by decide +kernel), List.mem_of_getElem? (i := 703) (by decide +kernel)⟩
theorem lw_p8 : lw_okq (⟨"TaxEqualiserModel", "gross", "(IJ)I"⟩, 16) := ⟨⟨by decide +kernel, by decide +kernel⟩, List.mem_of_getElem? (i := 616) (by decide +kernel), List.mem_of_getElem? (i := 710) (by decide +kernel), List.mem_of_getElem? (i := 711) (by decide +kernel)⟩
theorem lw_p9 : lw_okq (⟨"TaxEqualiserModel", "isAsked", "(I)Z"⟩, 16) := ⟨⟨by decide +kernel, by decide +kernel⟩, List.mem_of_getElem? (i := 616) (by decide +kernel), List.mem_of_getElem? (i := 728) (by decide +kernel), List.mem_of_getElem? (i := 729) (by decide +kernel)⟩
theorem lw_p10 : lw_okq (⟨"TaxEqualiserModel", "own", "(I)I"⟩, 16) := ⟨⟨by decide +kernel, by decide +kernel⟩, List.mem_of_getElem? (i := 616) (by decide +kernel), List.mem_of_getElem? (i := 741) (by decide +kernel), List.mem_of_getElem? (i := 742) (by decide +kernel)⟩
theorem lw_p11 : lw_okq (⟨"TaxEqualiserModel", "part", "(II)I"⟩, 16) := ⟨⟨by decide +kernel, by decide +kernel⟩, List.mem_of_getElem? (i := 616) (by decide +kernel), List.mem_of_getElem? (i := 758) (by decide +kernel), List.mem_of_getElem? (i := 759) (by decide +kernel)⟩
theorem lw_p12 : lw_okq (⟨"TaxEqualiserModel", "heldOf", "(I)I"⟩, 16) := ⟨⟨by decide +kernel, by decide +kernel⟩, List.mem_of_getElem? (i := 616) (by decide +kernel), List.mem_of_getElem? (i := 766) (by decide +kernel), List.mem_of_getElem? (i := 767) (by decide +kernel)⟩
theorem lw_p13 : lw_okq (⟨"TaxEqualiserModel", "supposed", "(I)I"⟩, 16) := ⟨⟨by decide +kernel, by decide +kernel⟩, List.mem_of_getElem? (i := 616) (by decide +kernel), List.mem_of_getElem? (i := 775) (by decide +kernel), List.mem_of_getElem? (i := 776) (by decide +kernel)⟩
theorem lw_p14 : lw_okq (⟨"TaxEqualiserModel", "whole", "(I)I"⟩, 16) := ⟨⟨by decide +kernel, by decide +kernel⟩, List.mem_of_getElem? (i := 616) (by decide +kernel), List.mem_of_getElem? (i := 779) (by decide +kernel), List.mem_of_getElem? (i := 780) (by decide +kernel)⟩
theorem lw_p15 : lw_okq (⟨"TaxEqualiserModel", "atHome", "(I)I"⟩, 16) := ⟨⟨by decide +kernel, by decide +kernel⟩, List.mem_of_getElem? (i := 616) (by decide +kernel), List.mem_of_getElem? (i := 787) (by decide +kernel), List.mem_of_getElem? (i := 788) (by decide +kernel)⟩
def lw_privs_1 : List (MethodName × Nat) := [(⟨"java/util/ArrayList", "add", "(Ljava/lang/Object;[Ljava/lang/Object;I)V"⟩, 3), (⟨"java/util/ArrayList", "grow", "()[Ljava/lang/Object;"⟩, 3), (⟨"java/util/ArrayList", "grow", "(I)[Ljava/lang/Object;"⟩, 3), (⟨"TaxEqualiser", "landAt", "(I)LTaxEqualiser$Land;"⟩, 2), (⟨"java/lang/Throwable", "fillInStackTrace", "(I)Ljava/lang/Throwable;"⟩, 6), (⟨"TaxEqualiser", "personAt", "(I)LTaxEqualiser$Person;"⟩, 2), (⟨"TaxEqualiserModel", "taxOf", "(IJ)J"⟩, 16), (⟨"TaxEqualiserModel", "fails", "(I)I"⟩, 16), (⟨"TaxEqualiserModel", "gross", "(IJ)I"⟩, 16), (⟨"TaxEqualiserModel", "isAsked", "(I)Z"⟩, 16), (⟨"TaxEqualiserModel", "own", "(I)I"⟩, 16), (⟨"TaxEqualiserModel", "part", "(II)I"⟩, 16), (⟨"TaxEqualiserModel", "heldOf", "(I)I"⟩, 16), (⟨"TaxEqualiserModel", "supposed", "(I)I"⟩, 16), (⟨"TaxEqualiserModel", "whole", "(I)I"⟩, 16), (⟨"TaxEqualiserModel", "atHome", "(I)I"⟩, 16)]
theorem lw_r1 : ∀ q ∈ lw_privs_1, lw_okq q := List.forall_mem_cons.mpr ⟨lw_p0, List.forall_mem_cons.mpr ⟨lw_p1, List.forall_mem_cons.mpr ⟨lw_p2, List.forall_mem_cons.mpr ⟨lw_p3, List.forall_mem_cons.mpr ⟨lw_p4, List.forall_mem_cons.mpr ⟨lw_p5, List.forall_mem_cons.mpr ⟨lw_p6, List.forall_mem_cons.mpr ⟨lw_p7, List.forall_mem_cons.mpr ⟨lw_p8, List.forall_mem_cons.mpr ⟨lw_p9, List.forall_mem_cons.mpr ⟨lw_p10, List.forall_mem_cons.mpr ⟨lw_p11, List.forall_mem_cons.mpr ⟨lw_p12, List.forall_mem_cons.mpr ⟨lw_p13, List.forall_mem_cons.mpr ⟨lw_p14, List.forall_mem_cons.mpr ⟨lw_p15, fun _ h => absurd h List.not_mem_nil⟩⟩⟩⟩⟩⟩⟩⟩⟩⟩⟩⟩⟩⟩⟩⟩
theorem lw_p16 : lw_okq (⟨"TaxEqualiserModel", "months", "(I)I"⟩, 16) := ⟨⟨by decide +kernel, by decide +kernel⟩, List.mem_of_getElem? (i := 616) (by decide +kernel), List.mem_of_getElem? (i := 791) (by decide +kernel), List.mem_of_getElem? (i := 792) (by decide +kernel)⟩
theorem lw_p17 : lw_okq (⟨"TaxEqualiserModel", "parts", "(I)I"⟩, 16) := ⟨⟨by decide +kernel, by decide +kernel⟩, List.mem_of_getElem? (i := 616) (by decide +kernel), List.mem_of_getElem? (i := 795) (by decide +kernel), List.mem_of_getElem? (i := 796) (by decide +kernel)⟩
theorem lw_p18 : lw_okq (⟨"TaxEqualiserModel", "taxAtHome", "(I)I"⟩, 16) := ⟨⟨by decide +kernel, by decide +kernel⟩, List.mem_of_getElem? (i := 616) (by decide +kernel), List.mem_of_getElem? (i := 803) (by decide +kernel), List.mem_of_getElem? (i := 804) (by decide +kernel)⟩
theorem lw_p19 : lw_okq (⟨"TaxEqualiserModel", "abroad", "(I)I"⟩, 16) := ⟨⟨by decide +kernel, by decide +kernel⟩, List.mem_of_getElem? (i := 616) (by decide +kernel), List.mem_of_getElem? (i := 811) (by decide +kernel), List.mem_of_getElem? (i := 812) (by decide +kernel)⟩
theorem lw_p20 : lw_okq (⟨"TaxEqualiserModel", "bears", "(I)I"⟩, 16) := ⟨⟨by decide +kernel, by decide +kernel⟩, List.mem_of_getElem? (i := 616) (by decide +kernel), List.mem_of_getElem? (i := 823) (by decide +kernel), List.mem_of_getElem? (i := 824) (by decide +kernel)⟩
theorem lw_p21 : lw_okq (⟨"TaxEqualiserModel", "costOf", "(I)I"⟩, 16) := ⟨⟨by decide +kernel, by decide +kernel⟩, List.mem_of_getElem? (i := 616) (by decide +kernel), List.mem_of_getElem? (i := 835) (by decide +kernel), List.mem_of_getElem? (i := 836) (by decide +kernel)⟩
def lw_privs_2 : List (MethodName × Nat) := [(⟨"TaxEqualiserModel", "months", "(I)I"⟩, 16), (⟨"TaxEqualiserModel", "parts", "(I)I"⟩, 16), (⟨"TaxEqualiserModel", "taxAtHome", "(I)I"⟩, 16), (⟨"TaxEqualiserModel", "abroad", "(I)I"⟩, 16), (⟨"TaxEqualiserModel", "bears", "(I)I"⟩, 16), (⟨"TaxEqualiserModel", "costOf", "(I)I"⟩, 16)]
theorem lw_r2 : ∀ q ∈ lw_privs_2, lw_okq q := List.forall_mem_cons.mpr ⟨lw_p16, List.forall_mem_cons.mpr ⟨lw_p17, List.forall_mem_cons.mpr ⟨lw_p18, List.forall_mem_cons.mpr ⟨lw_p19, List.forall_mem_cons.mpr ⟨lw_p20, List.forall_mem_cons.mpr ⟨lw_p21, fun _ h => absurd h List.not_mem_nil⟩⟩⟩⟩⟩⟩
def lw_privs : List (MethodName × Nat) := lw_privs_1 ++ (lw_privs_2)
def lw_tbl : List Cond := k2_sels lw_privs ++ tables_1
theorem lw_privs_ok : ∀ q ∈ lw_privs, lw_okq q := by
  show ∀ q ∈ lw_privs_1 ++ (lw_privs_2), lw_okq q
  exact List.forall_mem_append.mpr ⟨lw_r1, lw_r2⟩
-- ===== end of PART A; then your names; then what follows =====
end
section
/-! ===== BEGIN words of one list among another's, by their places ===== -/
theorem goodIn_r {big : List Cond} (ws : List Cond) (ps : List Nat) (hp : ws = ps.filterMap (fun i => big[i]?)) (h : ws.all goodWord = true) : GoodIn big ws := by
  intro w hw
  have h1 := List.all_eq_true.mp h w hw
  rw [hp] at hw
  obtain ⟨i, -, hi⟩ := List.mem_filterMap.mp hw
  have hm : w ∈ big := by first | exact List.mem_of_getElem? hi | exact List.getElem?_mem hi
  exact ⟨hm, good_of_word h1⟩
theorem goodIn_app {big a b : List Cond} (ha : GoodIn big a) (hb : GoodIn big b) : GoodIn big (a ++ b) := fun w h => (List.mem_append.mp h).elim (ha w) (hb w)
theorem goodIn_ca {big a b : List Cond} {c : Cond} (ha : GoodIn big (c :: a)) (hb : GoodIn big b) : GoodIn big (c :: (a ++ b)) := fun w h => (List.mem_cons.mp h).elim (fun e => ha w (List.mem_cons.mpr (Or.inl e))) (fun h => (List.mem_append.mp h).elim (fun h => ha w (List.mem_cons.mpr (Or.inr h))) (hb w))
theorem goodIn_sub {big ws : List Cond} (hm : ∀ w ∈ ws, w ∈ big) (h : ws.all goodWord = true) : GoodIn big ws := fun w hw => ⟨hm w hw, good_of_word (List.all_eq_true.mp h w hw)⟩
/-! ===== END ===== -/

/-! ===== BEGIN exceptions that leave a method, and their catching by the caller (launches without stack traces) ===== -/
section VXA
/-! The laws vx_back, vx_callV, vx_callS, vx_callSW, vx_throw0, vx_throwS follow proofs of the library, with one case more: JvmDerived/Free/Laws.lean (Back.of_free), Shelf42/LK1.lean (callV, callS), Shelf/KitTraced.lean (throwNew0V, throwNewS). -/
/-- where a method has thrown q: the class by its name, the cell, what was written, the world -/
def vx_T (XC : String → State → State → Prop) (st : State) (q : Addr) (t : State) (mc ms : Nat) (free : Addr → Prop) : Prop :=
  ∃ (E : String) (ce : Cell) (L : List Loc), XC E st t ∧ t.heap[q]? = some ce ∧ ce.vm = .none ∧ st.vm.findClass E = some ce.cls ∧ st.WarmedH t.vm ∧ st.sameButNew ({ t with vm := st.vm } : State) L mc ms ∧ ∀ z ∈ L, free z.base
def vx_Q (Qc : Array Value → State → Outcome → State → Prop) (XC : String → State → State → Prop) (mc ms : Nat) (free : Addr → Prop) : Array Value → State → Outcome → State → Prop := fun a st o t =>
  (Qc a st o t ∧ ∃ L, FrameEnd st o t L mc ms ∧ ∀ q ∈ L, free q.base) ∨ ∃ q, o = .threw q ∧ vx_T XC st q t mc ms free
/-- a callee that returns or throws -/
def vx_Met (l : Launch) (y : MethodName) (ws : List Cond) (rm : Room) (Pc : Array Value → State → Prop) (Qc : Array Value → State → Outcome → State → Prop) (XC : String → State → State → Prop) (mc ms : Nat) (free : Addr → Prop) : Prop :=
  MetFree l y (headSpec ws rm) Pc (fun _ _ _ _ _ => True) (vx_Q Qc XC mc ms free)
def vx_Post (XC : String → State → State → Prop) (mc ms : Nat) (free : Addr → Prop) : Pt → Array Value → Addr → Pt → Prop := fun A a q B =>
  ∃ (g : JFrame) (mk : MethodId) (t : State) (L : List Loc) (E : String) (ce : Cell), B.U.heap = t.heap ∧ B.U.vm = t.vm ∧ XC E (A.U.calling g mk a) t ∧ t.heap[q]? = some ce ∧ ce.vm = .none ∧ A.U.vm.findClass E = some ce.cls ∧ B.locs = A.locs ++ L ∧ (∀ z ∈ L, free z.base) ∧ B.cells = A.cells + mc ∧ B.slots = A.slots + ms
def vx_Back (l : Launch) (R : Room) (p : Program) (e : Env) (below : List Frame) (s : State) (sargs : Array Value) (y : MethodName) (len W9 : Nat)
    (Pre : Pt → Array Value → Prop) (Post : Pt → Array Value → Option Value → Pt → Prop) (PostX : Pt → Array Value → Addr → Pt → Prop) : Prop :=
  ∀ (m : MethodId) (meth : Method) (c : Code) (A : Pt) (g : JFrame) (ig : Instr) (mk : MethodId) (a : Array Value),
    Stand p l e R s m sargs below meth c A.U A.locs A.cells A.slots → g.method = m → g.locals.size = c.maxLocals → decode c.code g.pc = .ok (ig, len) →
    2 * g.monitorRoom + (g.stack.map fun v => v.category).sum ≤ W9 → A.U.methodNamed? y = some mk → Pre A a →
    (∃ (v : Option Value) (B : Pt), Stand p l e R s m sargs below meth c B.U B.locs B.cells B.slots ∧ Post A a v B ∧
      Steps p.tables e below (doInvoke e (A.U.setTop g) [] mk a).1 (B.U.setTop { g with pc := g.pc + len, stack := v.toList ++ g.stack })) ∨
    (∃ (q : Addr) (B : Pt), Stand p l e R s m sargs below meth c B.U B.locs B.cells B.slots ∧ PostX A a q B ∧
      Steps p.tables e below (doInvoke e (A.U.setTop g) [] mk a).1 ((B.U.setTop g).pushFrame (.throwing q)))
section Payer
variable {l : Launch} {R : Room} {p : Program} {e : Env} {below : List Frame} {s : State} {sargs : Array Value} {y : MethodName} {len W9 : Nat}
theorem vx_back {ws : List Cond} {rm : Room} {Pc : Array Value → State → Prop} {Qc : Array Value → State → Outcome → State → Prop} {XC : String → State → State → Prop} {mc ms : Nat} {free : Addr → Prop} {bytes : ByteArray} {maxL : Nat} {ret : Option FieldType}
    (hM : vx_Met l y ws rm Pc Qc XC mc ms free) (hblind : FrameBlind Pc) (hrc : rm.cells = mc) (hrs : rm.slots = ms)
    (hframes : rm.frames + 1 ≤ R.frames) (hlocals : W9 + (maxL + 11) + rm.locals ≤ R.locals)
    (hws : ∀ w ∈ ws, ∀ a' U, s.WarmedH U.vm → w.before a' U = true) (hcode : Cond.code y bytes maxL ret ∈ ws) (hinit : ∀ a' U, s.WarmedH U.vm → (Cond.initialized y.cls).before a' U = true) :
    vx_Back l R p e below s sargs y len W9 (PreOf R mc ms Pc) (PostOf Qc mc ms free) (vx_Post XC mc ms free) := by
  intro m meth c A g ig mk a X hg hsize hdg hW hn hp
  have h1 : (headSpec ws rm).pre.before a A.U = true := atoms_intro fun w hw => hws w hw _ _ X.warmed
  have h2 : (Cond.code y bytes maxL ret).before a A.U = true := hws _ hcode _ _ X.warmed
  have h3 : (Cond.initialized y.cls).before a A.U = true := hinit _ _ X.warmed
  have h4 : A.cells + (headSpec ws rm).room.cells ≤ R.cells := by rw [show (headSpec ws rm).room.cells = mc from hrc]; exact hp.1
  have h5 : A.slots + (headSpec ws rm).room.slots ≤ R.slots := by rw [show (headSpec ws rm).room.slots = ms from hrs]; exact hp.2.1
  have hPc : Pc a (A.U.calling g mk a) := hblind _ _ _ _ hp.2.2
  obtain ⟨U, Ls, c0, s0⟩ := A
  dsimp only [Pt.U, Pt.locs, Pt.cells, Pt.slots] at h1 h2 h3 h4 h5 X hn hPc ⊢
  obtain ⟨methY, cY, hmY, hcY, -, hlY, -, -, -, -⟩ := Cond.code_spec hn h2
  obtain ⟨kY, hkY, -⟩ := className_of_methodNamed hn
  have hinitY : kY.init = .initialized := Cond.initialized_spec (findClass_of_methodNamed hn) hkY h3
  have h : At U g.method c below := by rw [hg]; exact X.here
  have hlocals9 : W9 + (maxL + 11) + (headSpec ws rm).room.locals ≤ R.locals := hlocals
  have happ : (headSpec ws rm).appliesLoose y e.platform (U.calling g mk a) = true :=
    Spec.appliesLoose_calling (g := g) h hdg hn hkY hinitY
      (X.room_calling (g := g) (R' := (headSpec ws rm).room) hsize hmY hcY hframes (by rw [hlY]; omega) h4 h5) h1
  obtain ⟨mid, hmid⟩ := h.above
  have hfr : (U.setTop g).frames = (.java g :: mid) ++ below := by rw [State.frames_setTop' g h.top, hmid]; rfl
  obtain ⟨o, s₂, hsteps, -, hend, hq⟩ := Steps.callFree hM p X.admits X.cas X.clock (acts := []) hfr happ hPc trivial
  have hq' : vx_Q Qc XC mc ms free a (U.calling g mk a) o s₂ := hq
  rw [State.frames_setTop' g h.top] at hend
  obtain ⟨g₀, hg0⟩ := Option.isSome_iff_exists.mp h.top
  obtain ⟨r, hr⟩ := State.topJava?_eq_some.mp hg0
  have hr' : (({ U with heap := s₂.heap, slotsUsed := s₂.slotsUsed } : State).setVm s₂.vm).frames = .java g₀ :: r := hr
  rcases hq' with ⟨hqc, L, hfe, hL⟩ | ⟨q, rfl, E, ce, L, hx, hce, hcv, hcl, hW₂, hsm, hL⟩
  · obtain ⟨⟨v, rfl⟩, hW₂, e2, q2, q3, q4, q5, q6⟩ := id hfe
    have e3 : s₂ = ({ (U.calling g mk a).setFrames s₂.frames with heap := s₂.heap, slotsUsed := s₂.slotsUsed } : State).setVm s₂.vm := by
      have : s₂ = ({ s₂ with vm := (U.calling g mk a).vm } : State).setVm s₂.vm := rfl
      rw [e2] at this
      exact this
    obtain ⟨c₂, i₂, len₂, hc₂, hd₂, hf₂⟩ := hend
    have hW' : U.WarmedH s₂.vm := hW₂
    have hcc : c₂ = c := by
      have h1 : s₂.code? g.method = U.code? g.method := by
        rw [State.code?_eq, State.code?_eq, hW'.alike.method?]
      exact Option.some.inj (hc₂.symm.trans (h1.trans h.code))
    subst hcc
    have hlen : len₂ = len := by rw [hdg] at hd₂; cases hd₂; rfl
    subst hlen
    have hs₂ : s₂ = (({ U with heap := s₂.heap, slotsUsed := s₂.slotsUsed } : State).setVm s₂.vm).setTop { g with pc := g.pc + len₂, stack := v.toList ++ g.stack } := by
      refine e3.trans ?_
      rw [hf₂, State.calling_eq h.top, State.setFrames_setFrames, State.setTop_of_frames _ hr', hr]
      rfl
    have hsame : U.sameButNew ({ U with heap := s₂.heap, slotsUsed := s₂.slotsUsed } : State) L mc ms := by
      refine ⟨?_, q2, q3, q4, q5, q6⟩
      obtain ⟨t, ht, -⟩ := State.frames_cons hr
      show ({ U with heap := s₂.heap, slotsUsed := s₂.slotsUsed } : State) = { U.setFrames U.frames with heap := s₂.heap, slotsUsed := s₂.slotsUsed }
      rw [State.setFrames_self ht]
    subst hg
    refine Or.inl ⟨v, ⟨(({ U with heap := s₂.heap, slotsUsed := s₂.slotsUsed } : State).setVm s₂.vm), Ls ++ L, c0 + mc, s0 + ms⟩,
      ⟨X.admits, X.cas, X.clock, X.frames, X.room, X.hears, X.method, X.code, (X.here.setHeapUsed s₂.heap s₂.slotsUsed).setVm hW'.alike, X.tail, State.WarmedH.trans X.warmed hW', X.limits, X.bytes, X.same.trans (hsame.setVm s.vm)⟩,
      ⟨g, mk, s₂, L, rfl, rfl, hqc, rfl, hL, rfl, rfl⟩, ?_⟩
    show Steps p.tables e below _ ((({ U with heap := s₂.heap, slotsUsed := s₂.slotsUsed } : State).setVm s₂.vm).setTop { g with pc := g.pc + len₂, stack := v.toList ++ g.stack })
    rw [← hs₂]
    exact hsteps
  · obtain ⟨e2, q2, q3, q4, q5, q6⟩ := id hsm
    have e3 : s₂ = ({ (U.calling g mk a).setFrames s₂.frames with heap := s₂.heap, slotsUsed := s₂.slotsUsed } : State).setVm s₂.vm := by
      have : s₂ = ({ s₂ with vm := (U.calling g mk a).vm } : State).setVm s₂.vm := rfl
      rw [e2] at this
      exact this
    have hf₂ : s₂.frames = .throwing q :: .java g :: U.frames.tail := hend
    have hW' : U.WarmedH s₂.vm := hW₂
    have hs₂ : s₂ = ((({ U with heap := s₂.heap, slotsUsed := s₂.slotsUsed } : State).setVm s₂.vm).setTop g).pushFrame (.throwing q) := by
      refine e3.trans ?_
      rw [hf₂, State.calling_eq h.top, State.setFrames_setFrames, State.pushFrame, State.frames_setTop _ hr', State.setTop_of_frames _ hr', State.setFrames_setFrames, hr]
      rfl
    have hsame : U.sameButNew ({ U with heap := s₂.heap, slotsUsed := s₂.slotsUsed } : State) L mc ms := by
      refine ⟨?_, q2, q3, q4, q5, q6⟩
      obtain ⟨t, ht, -⟩ := State.frames_cons hr
      show ({ U with heap := s₂.heap, slotsUsed := s₂.slotsUsed } : State) = { U.setFrames U.frames with heap := s₂.heap, slotsUsed := s₂.slotsUsed }
      rw [State.setFrames_self ht]
    subst hg
    refine Or.inr ⟨q, ⟨(({ U with heap := s₂.heap, slotsUsed := s₂.slotsUsed } : State).setVm s₂.vm), Ls ++ L, c0 + mc, s0 + ms⟩,
      ⟨X.admits, X.cas, X.clock, X.frames, X.room, X.hears, X.method, X.code, (X.here.setHeapUsed s₂.heap s₂.slotsUsed).setVm hW'.alike, X.tail, State.WarmedH.trans X.warmed hW', X.limits, X.bytes, X.same.trans (hsame.setVm s.vm)⟩,
      ⟨g, mk, s₂, L, E, ce, rfl, rfl, hx, hce, hcv, hcl, rfl, hL, rfl, rfl⟩, ?_⟩
    show Steps p.tables e below _ (((({ U with heap := s₂.heap, slotsUsed := s₂.slotsUsed } : State).setVm s₂.vm).setTop g).pushFrame (.throwing q))
    rw [← hs₂]
    exact hsteps
end Payer
section Calls
variable {p : Program} {l : Launch} {e : Env} {R : Room} {s : State} {m : MethodId} {args : Array Value} {below : List Frame} {meth : Method} {c : Code} {T : State} {locs : List Loc} {cells slots : Nat}
theorem vx_callV (X : Stand p l e R s m args below meth c T locs cells slots) (hexec : p.tables.exec = Jvm.exec) {own C : String} {index : Nat} {y : MethodName} {bytes : ByteArray} {maxL : Nat} {ret : Option FieldType}
    (hown : s.vm.findClass own = some m.cls) (hlink : (Cond.methodLink own index y).before args s = true) (hinst : (Cond.instanceMethod y).before args s = true) (hsel : (Cond.selects C y y).before args s = true)
    (hcode : (Cond.code y bytes maxL ret).before args s = true) (hy : y.cls ≠ "java/lang/invoke/MethodHandle" ∧ y.cls ≠ "java/lang/invoke/VarHandle")
    {W9 : Nat} {Pre : Pt → Array Value → Prop} {Post : Pt → Array Value → Option Value → Pt → Prop} {PostX : Pt → Array Value → Addr → Pt → Prop} (hK : vx_Back l R p e below s args y 3 W9 Pre Post PostX)
    {b : Addr} {cellB : Cell} (hcell : T.heap[b]? = some cellB) (hobj : cellB.vm.isStatics = false) (hcls : s.vm.findClass C = some cellB.cls)
    {g : JFrame} (hg : g.method = m) (hsize : g.locals.size = c.maxLocals) {argsL rest : List Value} (hlen : ∀ sig, parseMethodDescriptor y.desc = some sig → argsL.length = sig.parameters.length)
    (hstack : g.stack = argsL.reverse ++ .ref b :: rest) (hW : 2 * g.monitorRoom + (rest.map fun v => v.category).sum ≤ W9) (hdg : decode c.code g.pc = .ok (.invokevirtual index, 3))
    (hpre : ∀ vm₁, s.WarmedH vm₁ → Pre ⟨T.setVm vm₁, locs, cells, slots⟩ (Value.ref b :: argsL).toArray) :
    (∃ (v : Option Value) (vm₁ : Vm) (B : Pt), s.WarmedH vm₁ ∧ Stand p l e R s m args below meth c B.U B.locs B.cells B.slots ∧ Post ⟨T.setVm vm₁, locs, cells, slots⟩ (Value.ref b :: argsL).toArray v B ∧
      ∀ target, Steps p.tables e below (B.U.setTop { g with pc := g.pc + 3, stack := v.toList ++ rest }) target → Steps p.tables e below (T.setTop g) target) ∨
    (∃ (q : Addr) (vm₁ : Vm) (B : Pt), s.WarmedH vm₁ ∧ Stand p l e R s m args below meth c B.U B.locs B.cells B.slots ∧ PostX ⟨T.setVm vm₁, locs, cells, slots⟩ (Value.ref b :: argsL).toArray q B ∧
      Steps p.tables e below (T.setTop g) ((B.U.setTop { g with stack := rest }).pushFrame (.throwing q))) := by
  obtain ⟨mk, methM, hnamed, hmethM, hstM, habM⟩ := Cond.instanceMethod_spec hinst
  obtain ⟨methM', cM, hmethM', -, -, -, -, -, -, hsigM⟩ := Cond.code_spec hnamed hcode
  cases hmethM.symm.trans hmethM'
  obtain ⟨c2, r2, m2, q1, q2, q3, q4, kP, hkP, hkPi⟩ := Cond.selects_spec hsel
  cases hcls.symm.trans q1
  cases (State.methodFound?_of_named hnamed hy).symm.trans q2
  cases hnamed.symm.trans q3
  have hselP : selectMethod e.platform s.vm cellB.cls mk = .method mk := by rw [Launch.admits_selectMethod X.admits]; exact q4
  obtain ⟨vm₁, X₁, hstep₁⟩ := X.invokevirtual hexec hown hlink hnamed hmethM hstM hkP hkPi hy (a := b) (cell := cellB) hcell
    (fun z h => by rw [h] at hobj; cases hobj) hselP hmethM habM hkP hkPi (g := g) hg (argsL := argsL) (rest := rest) (hlen _ hsigM) hstack hdg
  rcases hK m meth c ⟨T.setVm vm₁, locs, cells, slots⟩ { g with stack := rest } (.invokevirtual index) mk (Value.ref b :: argsL).toArray X₁ hg hsize hdg hW (X₁.named hnamed) (hpre vm₁ X₁.warmed) with ⟨v, B, X', hpost, hsteps⟩ | ⟨q, B, X', hpost, hsteps⟩
  · exact Or.inl ⟨v, vm₁, B, X₁.warmed, X', hpost, fun target h => hstep₁ _ fun acts => by rw [doInvoke_state]; exact hsteps.trans h⟩
  · exact Or.inr ⟨q, vm₁, B, X₁.warmed, X', hpost, hstep₁ _ fun acts => by rw [doInvoke_state]; exact hsteps⟩
theorem vx_callS (X : Stand p l e R s m args below meth c T locs cells slots) (hexec : p.tables.exec = Jvm.exec) {own : String} {index : Nat} {y : MethodName} {bytes : ByteArray} {maxL : Nat} {ret : Option FieldType}
    (hown : s.vm.findClass own = some m.cls) (hlink : (Cond.methodLink own index y).before args s = true) (hstat : (Cond.static y).before args s = true) (hinit : (Cond.initialized y.cls).before args s = true)
    (hcode : (Cond.code y bytes maxL ret).before args s = true) (hy : y.cls ≠ "java/lang/invoke/MethodHandle" ∧ y.cls ≠ "java/lang/invoke/VarHandle")
    {W9 : Nat} {Pre : Pt → Array Value → Prop} {Post : Pt → Array Value → Option Value → Pt → Prop} {PostX : Pt → Array Value → Addr → Pt → Prop} (hK : vx_Back l R p e below s args y 3 W9 Pre Post PostX)
    {g : JFrame} (hg : g.method = m) (hsize : g.locals.size = c.maxLocals) {argsL rest : List Value} (hlen : ∀ sig, parseMethodDescriptor y.desc = some sig → argsL.length = sig.parameters.length)
    (hstack : g.stack = argsL.reverse ++ rest) (hW : 2 * g.monitorRoom + (rest.map fun v => v.category).sum ≤ W9) (hdg : decode c.code g.pc = .ok (.invokestatic index, 3))
    (hpre : ∀ vm₁, s.WarmedH vm₁ → Pre ⟨T.setVm vm₁, locs, cells, slots⟩ argsL.toArray) :
    (∃ (v : Option Value) (vm₁ : Vm) (B : Pt), s.WarmedH vm₁ ∧ Stand p l e R s m args below meth c B.U B.locs B.cells B.slots ∧ Post ⟨T.setVm vm₁, locs, cells, slots⟩ argsL.toArray v B ∧
      ∀ target, Steps p.tables e below (B.U.setTop { g with pc := g.pc + 3, stack := v.toList ++ rest }) target → Steps p.tables e below (T.setTop g) target) ∨
    (∃ (q : Addr) (vm₁ : Vm) (B : Pt), s.WarmedH vm₁ ∧ Stand p l e R s m args below meth c B.U B.locs B.cells B.slots ∧ PostX ⟨T.setVm vm₁, locs, cells, slots⟩ argsL.toArray q B ∧
      Steps p.tables e below (T.setTop g) ((B.U.setTop { g with stack := rest }).pushFrame (.throwing q))) := by
  obtain ⟨mk, hnamed⟩ := Cond.code_named hcode
  obtain ⟨methM, cM, hmethM, -, -, -, -, -, -, hsigM⟩ := Cond.code_spec hnamed hcode
  have hstatic : methM.isStatic = true := Cond.static_spec hnamed hmethM hstat
  obtain ⟨kP, hkP, -⟩ := className_of_methodNamed hnamed
  have hinitP : kP.init = .initialized := Cond.initialized_spec (findClass_of_methodNamed hnamed) hkP hinit
  obtain ⟨vm₁, X₁, hstep₁⟩ := X.invokestatic hexec hown hlink hnamed hmethM hstatic hkP hinitP hy (g := g) hg (argsL := argsL) (rest := rest) (hlen _ hsigM) hstack hdg
  rcases hK m meth c ⟨T.setVm vm₁, locs, cells, slots⟩ { g with stack := rest } (.invokestatic index) mk argsL.toArray X₁ hg hsize hdg hW (X₁.named hnamed) (hpre vm₁ X₁.warmed) with ⟨v, B, X', hpost, hsteps⟩ | ⟨q, B, X', hpost, hsteps⟩
  · exact Or.inl ⟨v, vm₁, B, X₁.warmed, X', hpost, fun target h => hstep₁ _ fun acts => by rw [doInvoke_state]; exact hsteps.trans h⟩
  · exact Or.inr ⟨q, vm₁, B, X₁.warmed, X', hpost, hstep₁ _ fun acts => by rw [doInvoke_state]; exact hsteps⟩
end Calls
theorem vx_cls {s : State} {T : State} {vm₁ : Vm} {E : String} {k : ClassId} (hW : s.WarmedH vm₁) (h : (T.setVm vm₁).vm.findClass E = some k) : s.vm.findClass E = some k := by
  have h1 : vm₁.findClass E = some k := h
  rw [hW.alike.findClass] at h1
  exact h1
/-- the method's frame g, with q thrown over it -/
def vx_W (p : Program) (l : Launch) (e : Env) (R : Room) (s : State) (m : MethodId) (args : Array Value) (below : List Frame) (meth : Method) (c : Code) (H : Heap) (locs : List Loc) (cells slots : Nat) (Q : State → Prop) (g : JFrame) (q : Addr) : Prop :=
  ∀ T : State, T.heap = H → Stand p l e R s m args below meth c T locs cells slots → ∃ t, Steps p.tables e below ((T.setTop g).pushFrame (.throwing q)) t ∧ Q t
def vx_Run (p : Program) (l : Launch) (e : Env) (R : Room) (s : State) (m : MethodId) (args : Array Value) (below : List Frame) (meth : Method) (c : Code) (H : Heap) (locs : List Loc) (cells slots mc ms : Nat) (g : JFrame) (rest : List Value) (Qa : State → Outcome → State → Prop) (XC : String → State → State → Prop) (free : Addr → Prop) : Prop :=
  ∀ T : State, T.heap = H → Stand p l e R s m args below meth c T locs cells slots →
    (∃ (v : Option Value) (st₀ t T' : State) (L : List Loc), st₀.heap = H ∧ Stand p l e R s m args below meth c T' (locs ++ L) (cells + mc) (slots + ms) ∧ (∀ q ∈ L, free q.base) ∧ T'.heap = t.heap ∧ T'.vm = t.vm ∧ Qa st₀ (.returned v) t ∧
      Goes p e below T g T' { g with pc := g.pc + 3, stack := v.toList ++ rest }) ∨
    (∃ (q : Addr) (st₀ t T' : State) (L : List Loc) (E : String) (ce : Cell), st₀.heap = H ∧ Stand p l e R s m args below meth c T' (locs ++ L) (cells + mc) (slots + ms) ∧ (∀ z ∈ L, free z.base) ∧ T'.heap = t.heap ∧ T'.vm = t.vm ∧ XC E st₀ t ∧ t.heap[q]? = some ce ∧ ce.vm = .none ∧ s.vm.findClass E = some ce.cls ∧
      Steps p.tables e below (T.setTop g) ((T'.setTop { g with stack := rest }).pushFrame (.throwing q)))
def vx_X {S : Type} (px : S → Prop) (B : String → S → State → Prop) (A : Nat → Prop) : String → State → State → Prop := fun E st t => ∃ u : S, px u ∧ B E u t ∧ va_F A st t
section Runs
variable {p : Program} {l : Launch} {e : Env} {R : Room} {s : State} {m : MethodId} {args : Array Value} {below : List Frame} {meth : Method} {c : Code} {H : Heap} {locs : List Loc} {cells slots : Nat}
variable {y : MethodName} {bytes cc : ByteArray} {maxL nL mc ms n index : Nat} {ret : Option FieldType} {ws : List Cond} {rm : Room} {Pc : Array Value → State → Prop} {Qc : Array Value → State → Outcome → State → Prop} {XC : String → State → State → Prop} {free : Addr → Prop} {Ts : List Cond} {own C : String} {b : Addr} {As rest : List Value} {g : JFrame}
theorem vx_callBack (cb : CallB R s args own index y bytes maxL ret ws rm mc ms n) (hM : vx_Met l y ws rm Pc Qc XC mc ms free) (hbl : FrameBlind Pc) : vx_Back l R p e below s args y 3 8 (PreOf R mc ms Pc) (PostOf Qc mc ms free) (vx_Post XC mc ms free) := by
  obtain ⟨hrc, hrs, hfr, hlo, hws, hcw, -, hini, -⟩ := cb
  exact vx_back (bytes := bytes) (maxL := maxL) (ret := ret) hM hbl hrc hrs hfr hlo hws hcw (fun a' U hW => word_at hW (Or.inl (by first | rfl | simp [Cond.onTables, Cond.keeps, Cond.steady])) hini)
theorem vx_runV (S : CallFix p m c cc nL s args Ts own) (hM : vx_Met l y ws rm Pc Qc XC mc ms free) (cw : CallW R s args own C index y bytes maxL ret ws rm mc ms n) (hp : PreV s H C b Pc As)
    (hg : g.method = m) (hn : As.length = n) (hsize : g.locals.size = nL) (hstack : g.stack = As.reverse ++ .ref b :: rest) (hW : 2 * g.monitorRoom + (rest.map fun v => v.category).sum ≤ 8) (hdg : decode cc g.pc = .ok (.invokevirtual index, 3)) (hf : cells + mc ≤ R.cells ∧ slots + ms ≤ R.slots) :
    vx_Run p l e R s m args below meth c H locs cells slots mc ms g rest (Qc (Value.ref b :: As).toArray) XC free := by
  have hK : vx_Back l R p e below s args y 3 8 (PreOf R mc ms Pc) (PostOf Qc mc ms free) (vx_Post XC mc ms free) := vx_callBack cw.1 hM hp.1
  obtain ⟨⟨-, -, -, -, -, -, hcode, -, hy, hlen, hl⟩, hin, hse⟩ := cw
  obtain ⟨hx, hb, hml, ho, -⟩ := S
  obtain ⟨-, ⟨cellB, hcB, hoB, hclB⟩, hPc⟩ := hp
  intro T hT X
  rcases vx_callV X hx (C := C) (bytes := bytes) (maxL := maxL) (ret := ret) ho hl hin hse hcode hy hK (by rw [hT]; exact hcB) hoB hclB hg (hsize.trans hml.symm) (argsL := As) (rest := rest) (fun sig h => hn.trans (hlen sig h)) hstack hW (by rw [hb]; exact hdg)
    (fun vm₁ hW₁ => ⟨hf.1, hf.2, hPc (T.setVm vm₁) hT hW₁⟩) with ⟨v, vm₁, ⟨U', l2, c2, s2⟩, hW₁, X', ⟨g', mk, t, L, e1, e2, hq, h1, hL, h2, h3⟩, st⟩ | ⟨q, vm₁, ⟨U', l2, c2, s2⟩, hW₁, X', ⟨g', mk, t, L, E, ce, e1, e2, hq, hce, hcv, hcl, h1, hL, h2, h3⟩, st⟩
  · dsimp only [Pt.U, Pt.locs, Pt.cells, Pt.slots] at X' e1 e2 h1 h2 h3 st
    subst h1; subst h2; subst h3
    exact Or.inl ⟨v, (T.setVm vm₁).calling g' mk (Value.ref b :: As).toArray, t, U', L, hT, X', hL, e1, e2, hq, st⟩
  · dsimp only [Pt.U, Pt.locs, Pt.cells, Pt.slots] at X' e1 e2 h1 h2 h3 st hcl
    subst h1; subst h2; subst h3
    exact Or.inr ⟨q, (T.setVm vm₁).calling g' mk (Value.ref b :: As).toArray, t, U', L, E, ce, hT, X', hL, e1, e2, hq, hce, hcv, vx_cls hW₁ hcl, st⟩
theorem vx_runS (S : CallFix p m c cc nL s args Ts own) (hM : vx_Met l y ws rm Pc Qc XC mc ms free) (cw : CallB R s args own index y bytes maxL ret ws rm mc ms n ∧ (Cond.static y).before args s = true) (hp : PreS s H Pc As)
    (hg : g.method = m) (hn : As.length = n) (hsize : g.locals.size = nL) (hstack : g.stack = As.reverse ++ rest) (hW : 2 * g.monitorRoom + (rest.map fun v => v.category).sum ≤ 8) (hdg : decode cc g.pc = .ok (.invokestatic index, 3)) (hf : cells + mc ≤ R.cells ∧ slots + ms ≤ R.slots) :
    vx_Run p l e R s m args below meth c H locs cells slots mc ms g rest (Qc As.toArray) XC free := by
  have hK : vx_Back l R p e below s args y 3 8 (PreOf R mc ms Pc) (PostOf Qc mc ms free) (vx_Post XC mc ms free) := vx_callBack cw.1 hM hp.1
  obtain ⟨⟨-, -, -, -, -, -, hcode, hini, hy, hlen, hl⟩, hstt⟩ := cw
  obtain ⟨hx, hb, hml, ho, -⟩ := S
  intro T hT X
  rcases vx_callS X hx (bytes := bytes) (maxL := maxL) (ret := ret) ho hl hstt hini hcode hy hK hg (hsize.trans hml.symm) (argsL := As) (rest := rest) (fun sig h => hn.trans (hlen sig h)) hstack hW (by rw [hb]; exact hdg)
    (fun vm₁ hW₁ => ⟨hf.1, hf.2, hp.2 (T.setVm vm₁) hT hW₁⟩) with ⟨v, vm₁, ⟨U', l2, c2, s2⟩, hW₁, X', ⟨g', mk, t, L, e1, e2, hq, h1, hL, h2, h3⟩, st⟩ | ⟨q, vm₁, ⟨U', l2, c2, s2⟩, hW₁, X', ⟨g', mk, t, L, E, ce, e1, e2, hq, hce, hcv, hcl, h1, hL, h2, h3⟩, st⟩
  · dsimp only [Pt.U, Pt.locs, Pt.cells, Pt.slots] at X' e1 e2 h1 h2 h3 st
    subst h1; subst h2; subst h3
    exact Or.inl ⟨v, (T.setVm vm₁).calling g' mk As.toArray, t, U', L, hT, X', hL, e1, e2, hq, st⟩
  · dsimp only [Pt.U, Pt.locs, Pt.cells, Pt.slots] at X' e1 e2 h1 h2 h3 st hcl
    subst h1; subst h2; subst h3
    exact Or.inr ⟨q, (T.setVm vm₁).calling g' mk As.toArray, t, U', L, E, ce, hT, X', hL, e1, e2, hq, hce, hcv, vx_cls hW₁ hcl, st⟩
end Runs
section Rows
variable {p : Program} {l : Launch} {e : Env} {R : Room} {s : State} {m : MethodId} {args : Array Value} {below : List Frame} {meth : Method} {c : Code} {H : Heap} {locs : List Loc} {cells slots : Nat} {Q : State → Prop}
variable {mc ms : Nat} {free : Addr → Prop} {A0 A1 : Nat → Prop} {H0 : Heap} {a : Array Value} {pc : Nat} {ls : Array Slot} {st0 rest : List Value}
theorem vx_keep {st₀ t T' : State} {L : List Loc} (h0 : st₀.heap = H) (e1 : T'.heap = t.heap) (hS : va_S A0 H0 H locs) (hA : ∀ q, q < H.size → A1 q → A0 q) (hf : ∀ q, free q → A0 q) (hL : ∀ q ∈ L, free q.base) (hF : va_F A1 st₀ t) :
    H.size ≤ T'.heap.size ∧ (∀ q : Nat, q < H.size → ¬ A1 q → T'.heap[q]? = H[q]?) ∧ va_S A0 H0 T'.heap (locs ++ L) := by
  obtain ⟨hz, hk⟩ := hF
  rw [h0] at hz hk
  exact ⟨by rw [e1]; exact hz, fun q h1 h2 => by rw [e1]; exact hk q h1 h2,
    ⟨Nat.le_trans hS.1 (by rw [e1]; exact hz), fun q h1 h2 => by rw [e1, hk q (Nat.lt_of_lt_of_le h1 hS.1) (fun z => h2 (hA q (Nat.lt_of_lt_of_le h1 hS.1) z))]; exact hS.2.1 q h1 h2, fun q hq => by
      rcases List.mem_append.mp hq with h | h
      · exact hS.2.2 q h
      · exact hf _ (hL q h)⟩⟩
theorem vx_calli {S SX : Type} {post : Int32 → S → Prop} {px : SX → Prop} {B : S → State → Prop} {BX : String → SX → State → Prop} {AX : Nat → Prop} (hr : vx_Run p l e R s m args below meth c H locs cells slots mc ms (F0 m pc ls st0) rest (va_Qi post B A1 a) (vx_X px BX AX) free) (hS : va_S A0 H0 H locs) (hA : ∀ q, q < H.size → A1 q → A0 q) (hf : ∀ q, free q → A0 q) (hAX : ∀ q, q < H.size → AX q → A0 q)
    (kx : ∀ (E : String) (ce : Cell) (q9 : Addr) (u : SX) (t : State) (H1 : Heap) (locs1 : List Loc), t.heap = H1 → s.vm.Alike t.vm → px u → BX E u t → H.size ≤ H1.size → (∀ q : Nat, q < H.size → ¬ AX q → H1[q]? = H[q]?) → va_S A0 H0 H1 locs1 → H1[q9]? = some ce → ce.vm = .none → s.vm.findClass E = some ce.cls → vx_W p l e R s m args below meth c H1 locs1 (cells + mc) (slots + ms) Q (F0 m pc ls rest) q9)
    (kk : ∀ (r : Int32) (u : S) (t : State) (H1 : Heap) (locs1 : List Loc), t.heap = H1 → s.vm.Alike t.vm → post r u → B u t → H.size ≤ H1.size → (∀ q : Nat, q < H.size → ¬ A1 q → H1[q]? = H[q]?) → va_S A0 H0 H1 locs1 → W p l e R s m args below meth c H1 locs1 (cells + mc) (slots + ms) Q (F0 m (pc + 3) ls (.int r :: rest))) : W p l e R s m args below meth c H locs cells slots Q (F0 m pc ls st0) := by
  intro T hT X
  rcases hr T hT X with ⟨v, st₀, t, T', L, h0, X', hL, e1, e2, ⟨⟨r, u, hv, hp, hb⟩, hF⟩, st⟩ | ⟨q, st₀, t, T', L, E, ce, h0, X', hL, e1, e2, ⟨u, hp, hb, hF⟩, hce, hcv, hcl, st⟩
  · cases hv
    obtain ⟨k1, k2, k3⟩ := vx_keep h0 e1 hS hA hf hL hF
    obtain ⟨t2, a1, b1⟩ := kk r u t T'.heap (locs ++ L) e1.symm (by rw [← e2]; exact X'.warmed.alike) hp hb k1 k2 k3 T' rfl X'
    exact ⟨t2, st t2 a1, b1⟩
  · obtain ⟨k1, k2, k3⟩ := vx_keep h0 e1 hS hAX hf hL hF
    obtain ⟨t2, a1, b1⟩ := kx E ce q u t T'.heap (locs ++ L) e1.symm (by rw [← e2]; exact X'.warmed.alike) hp hb k1 k2 k3 (by rw [e1]; exact hce) hcv hcl T' rfl X'
    exact ⟨t2, st.trans a1, b1⟩
theorem vx_calll {S SX : Type} {post : Int64 → S → Prop} {px : SX → Prop} {B : S → State → Prop} {BX : String → SX → State → Prop} {AX : Nat → Prop} (hr : vx_Run p l e R s m args below meth c H locs cells slots mc ms (F0 m pc ls st0) rest (va_Ql post B A1 a) (vx_X px BX AX) free) (hS : va_S A0 H0 H locs) (hA : ∀ q, q < H.size → A1 q → A0 q) (hf : ∀ q, free q → A0 q) (hAX : ∀ q, q < H.size → AX q → A0 q)
    (kx : ∀ (E : String) (ce : Cell) (q9 : Addr) (u : SX) (t : State) (H1 : Heap) (locs1 : List Loc), t.heap = H1 → s.vm.Alike t.vm → px u → BX E u t → H.size ≤ H1.size → (∀ q : Nat, q < H.size → ¬ AX q → H1[q]? = H[q]?) → va_S A0 H0 H1 locs1 → H1[q9]? = some ce → ce.vm = .none → s.vm.findClass E = some ce.cls → vx_W p l e R s m args below meth c H1 locs1 (cells + mc) (slots + ms) Q (F0 m pc ls rest) q9)
    (kk : ∀ (r : Int64) (u : S) (t : State) (H1 : Heap) (locs1 : List Loc), t.heap = H1 → s.vm.Alike t.vm → post r u → B u t → H.size ≤ H1.size → (∀ q : Nat, q < H.size → ¬ A1 q → H1[q]? = H[q]?) → va_S A0 H0 H1 locs1 → W p l e R s m args below meth c H1 locs1 (cells + mc) (slots + ms) Q (F0 m (pc + 3) ls (.long r :: rest))) : W p l e R s m args below meth c H locs cells slots Q (F0 m pc ls st0) := by
  intro T hT X
  rcases hr T hT X with ⟨v, st₀, t, T', L, h0, X', hL, e1, e2, ⟨⟨r, u, hv, hp, hb⟩, hF⟩, st⟩ | ⟨q, st₀, t, T', L, E, ce, h0, X', hL, e1, e2, ⟨u, hp, hb, hF⟩, hce, hcv, hcl, st⟩
  · cases hv
    obtain ⟨k1, k2, k3⟩ := vx_keep h0 e1 hS hA hf hL hF
    obtain ⟨t2, a1, b1⟩ := kk r u t T'.heap (locs ++ L) e1.symm (by rw [← e2]; exact X'.warmed.alike) hp hb k1 k2 k3 T' rfl X'
    exact ⟨t2, st t2 a1, b1⟩
  · obtain ⟨k1, k2, k3⟩ := vx_keep h0 e1 hS hAX hf hL hF
    obtain ⟨t2, a1, b1⟩ := kx E ce q u t T'.heap (locs ++ L) e1.symm (by rw [← e2]; exact X'.warmed.alike) hp hb k1 k2 k3 (by rw [e1]; exact hce) hcv hcl T' rfl X'
    exact ⟨t2, st.trans a1, b1⟩
theorem vx_callf {S SX : Type} {post : UInt32 → S → Prop} {px : SX → Prop} {B : S → State → Prop} {BX : String → SX → State → Prop} {AX : Nat → Prop} (hr : vx_Run p l e R s m args below meth c H locs cells slots mc ms (F0 m pc ls st0) rest (va_Qf post B A1 a) (vx_X px BX AX) free) (hS : va_S A0 H0 H locs) (hA : ∀ q, q < H.size → A1 q → A0 q) (hf : ∀ q, free q → A0 q) (hAX : ∀ q, q < H.size → AX q → A0 q)
    (kx : ∀ (E : String) (ce : Cell) (q9 : Addr) (u : SX) (t : State) (H1 : Heap) (locs1 : List Loc), t.heap = H1 → s.vm.Alike t.vm → px u → BX E u t → H.size ≤ H1.size → (∀ q : Nat, q < H.size → ¬ AX q → H1[q]? = H[q]?) → va_S A0 H0 H1 locs1 → H1[q9]? = some ce → ce.vm = .none → s.vm.findClass E = some ce.cls → vx_W p l e R s m args below meth c H1 locs1 (cells + mc) (slots + ms) Q (F0 m pc ls rest) q9)
    (kk : ∀ (r : UInt32) (u : S) (t : State) (H1 : Heap) (locs1 : List Loc), t.heap = H1 → s.vm.Alike t.vm → post r u → B u t → H.size ≤ H1.size → (∀ q : Nat, q < H.size → ¬ A1 q → H1[q]? = H[q]?) → va_S A0 H0 H1 locs1 → W p l e R s m args below meth c H1 locs1 (cells + mc) (slots + ms) Q (F0 m (pc + 3) ls (.float r :: rest))) : W p l e R s m args below meth c H locs cells slots Q (F0 m pc ls st0) := by
  intro T hT X
  rcases hr T hT X with ⟨v, st₀, t, T', L, h0, X', hL, e1, e2, ⟨⟨r, u, hv, hp, hb⟩, hF⟩, st⟩ | ⟨q, st₀, t, T', L, E, ce, h0, X', hL, e1, e2, ⟨u, hp, hb, hF⟩, hce, hcv, hcl, st⟩
  · cases hv
    obtain ⟨k1, k2, k3⟩ := vx_keep h0 e1 hS hA hf hL hF
    obtain ⟨t2, a1, b1⟩ := kk r u t T'.heap (locs ++ L) e1.symm (by rw [← e2]; exact X'.warmed.alike) hp hb k1 k2 k3 T' rfl X'
    exact ⟨t2, st t2 a1, b1⟩
  · obtain ⟨k1, k2, k3⟩ := vx_keep h0 e1 hS hAX hf hL hF
    obtain ⟨t2, a1, b1⟩ := kx E ce q u t T'.heap (locs ++ L) e1.symm (by rw [← e2]; exact X'.warmed.alike) hp hb k1 k2 k3 (by rw [e1]; exact hce) hcv hcl T' rfl X'
    exact ⟨t2, st.trans a1, b1⟩
theorem vx_calld {S SX : Type} {post : UInt64 → S → Prop} {px : SX → Prop} {B : S → State → Prop} {BX : String → SX → State → Prop} {AX : Nat → Prop} (hr : vx_Run p l e R s m args below meth c H locs cells slots mc ms (F0 m pc ls st0) rest (va_Qd post B A1 a) (vx_X px BX AX) free) (hS : va_S A0 H0 H locs) (hA : ∀ q, q < H.size → A1 q → A0 q) (hf : ∀ q, free q → A0 q) (hAX : ∀ q, q < H.size → AX q → A0 q)
    (kx : ∀ (E : String) (ce : Cell) (q9 : Addr) (u : SX) (t : State) (H1 : Heap) (locs1 : List Loc), t.heap = H1 → s.vm.Alike t.vm → px u → BX E u t → H.size ≤ H1.size → (∀ q : Nat, q < H.size → ¬ AX q → H1[q]? = H[q]?) → va_S A0 H0 H1 locs1 → H1[q9]? = some ce → ce.vm = .none → s.vm.findClass E = some ce.cls → vx_W p l e R s m args below meth c H1 locs1 (cells + mc) (slots + ms) Q (F0 m pc ls rest) q9)
    (kk : ∀ (r : UInt64) (u : S) (t : State) (H1 : Heap) (locs1 : List Loc), t.heap = H1 → s.vm.Alike t.vm → post r u → B u t → H.size ≤ H1.size → (∀ q : Nat, q < H.size → ¬ A1 q → H1[q]? = H[q]?) → va_S A0 H0 H1 locs1 → W p l e R s m args below meth c H1 locs1 (cells + mc) (slots + ms) Q (F0 m (pc + 3) ls (.double r :: rest))) : W p l e R s m args below meth c H locs cells slots Q (F0 m pc ls st0) := by
  intro T hT X
  rcases hr T hT X with ⟨v, st₀, t, T', L, h0, X', hL, e1, e2, ⟨⟨r, u, hv, hp, hb⟩, hF⟩, st⟩ | ⟨q, st₀, t, T', L, E, ce, h0, X', hL, e1, e2, ⟨u, hp, hb, hF⟩, hce, hcv, hcl, st⟩
  · cases hv
    obtain ⟨k1, k2, k3⟩ := vx_keep h0 e1 hS hA hf hL hF
    obtain ⟨t2, a1, b1⟩ := kk r u t T'.heap (locs ++ L) e1.symm (by rw [← e2]; exact X'.warmed.alike) hp hb k1 k2 k3 T' rfl X'
    exact ⟨t2, st t2 a1, b1⟩
  · obtain ⟨k1, k2, k3⟩ := vx_keep h0 e1 hS hAX hf hL hF
    obtain ⟨t2, a1, b1⟩ := kx E ce q u t T'.heap (locs ++ L) e1.symm (by rw [← e2]; exact X'.warmed.alike) hp hb k1 k2 k3 (by rw [e1]; exact hce) hcv hcl T' rfl X'
    exact ⟨t2, st.trans a1, b1⟩
theorem vx_callv {S SX : Type} {post : S → Prop} {px : SX → Prop} {B : S → State → Prop} {BX : String → SX → State → Prop} {AX : Nat → Prop} (hr : vx_Run p l e R s m args below meth c H locs cells slots mc ms (F0 m pc ls st0) rest (va_Qv post B A1 a) (vx_X px BX AX) free) (hS : va_S A0 H0 H locs) (hA : ∀ q, q < H.size → A1 q → A0 q) (hf : ∀ q, free q → A0 q) (hAX : ∀ q, q < H.size → AX q → A0 q)
    (kx : ∀ (E : String) (ce : Cell) (q9 : Addr) (u : SX) (t : State) (H1 : Heap) (locs1 : List Loc), t.heap = H1 → s.vm.Alike t.vm → px u → BX E u t → H.size ≤ H1.size → (∀ q : Nat, q < H.size → ¬ AX q → H1[q]? = H[q]?) → va_S A0 H0 H1 locs1 → H1[q9]? = some ce → ce.vm = .none → s.vm.findClass E = some ce.cls → vx_W p l e R s m args below meth c H1 locs1 (cells + mc) (slots + ms) Q (F0 m pc ls rest) q9)
    (kk : ∀ (u : S) (t : State) (H1 : Heap) (locs1 : List Loc), t.heap = H1 → s.vm.Alike t.vm → post u → B u t → H.size ≤ H1.size → (∀ q : Nat, q < H.size → ¬ A1 q → H1[q]? = H[q]?) → va_S A0 H0 H1 locs1 → W p l e R s m args below meth c H1 locs1 (cells + mc) (slots + ms) Q (F0 m (pc + 3) ls (rest))) : W p l e R s m args below meth c H locs cells slots Q (F0 m pc ls st0) := by
  intro T hT X
  rcases hr T hT X with ⟨v, st₀, t, T', L, h0, X', hL, e1, e2, ⟨⟨u, hv, hp, hb⟩, hF⟩, st⟩ | ⟨q, st₀, t, T', L, E, ce, h0, X', hL, e1, e2, ⟨u, hp, hb, hF⟩, hce, hcv, hcl, st⟩
  · cases hv
    obtain ⟨k1, k2, k3⟩ := vx_keep h0 e1 hS hA hf hL hF
    obtain ⟨t2, a1, b1⟩ := kk u t T'.heap (locs ++ L) e1.symm (by rw [← e2]; exact X'.warmed.alike) hp hb k1 k2 k3 T' rfl X'
    exact ⟨t2, st t2 a1, b1⟩
  · obtain ⟨k1, k2, k3⟩ := vx_keep h0 e1 hS hAX hf hL hF
    obtain ⟨t2, a1, b1⟩ := kx E ce q u t T'.heap (locs ++ L) e1.symm (by rw [← e2]; exact X'.warmed.alike) hp hb k1 k2 k3 (by rw [e1]; exact hce) hcv hcl T' rfl X'
    exact ⟨t2, st.trans a1, b1⟩
/-- caught by the row x of this method's table; the rows ahead don't take it -/
theorem vx_catch {own name : String} {E : String} {ce : Cell} {q : Addr} (hown : s.vm.findClass own = some m.cls) (pre : List ExceptionTableEntry) (x : ExceptionTableEntry) (suf : List ExceptionTableEntry) (hsplit : c.exceptionTable.toList = pre ++ x :: suf)
    (hpass : ∀ z ∈ pre, covers z pc = false ∨ (z.catchType ≠ 0 ∧ ∃ nm : String, (Cond.classLink own z.catchType nm).before args s = true ∧ va_Nc E nm s)) (hx : covers x pc = true) (h0 : x.catchType ≠ 0)
    (hlink : (Cond.classLink own x.catchType name).before args s = true) (hcast : (Cond.castable E name).before args s = true) (hcell : H[q]? = some ce) (hv : ce.vm = .none) (hcl : s.vm.findClass E = some ce.cls)
    (kk : W p l e R s m args below meth c H locs cells slots Q (F0 m x.handlerPc ls [.ref q])) : vx_W p l e R s m args below meth c H locs cells slots Q (F0 m pc ls rest) q := by
  intro T hT X
  have hpl : e.platform.magicAccessors = ({} : Platform).magicAccessors := by rw [X.admits.platform]
  obtain ⟨c3, c4, hc3, hc4, hasg⟩ := Cond.castable_spec hcast
  cases Option.some.inj (hc3.symm.trans hcl)
  obtain ⟨c5, hc5, hcl5⟩ := Cond.classLink_spec hown hlink e.platform hpl
  cases Option.some.inj (hc4.symm.trans hc5)
  obtain ⟨vm', X', st⟩ := X.thenCaughtThrough q (g := F0 m pc ls rest) rfl (Steps.refl _) (by rw [hT]; exact hcell) (by rw [hv]; rfl) (by obtain ⟨k9, h9, -⟩ := Vm.findClass_spec hcl; exact ⟨k9, h9⟩) pre x suf hsplit
    (fun z hz => by
      rcases hpass z hz with h | ⟨hz0, nm, hl1, hn1⟩
      · exact Or.inl h
      · obtain ⟨c6, hc6, hcl6⟩ := Cond.classLink_spec hown hl1 e.platform hpl
        obtain ⟨a8, b8, h1, h2, h3⟩ := hn1
        cases Option.some.inj (h1.symm.trans hcl)
        cases Option.some.inj (h2.symm.trans hc6)
        exact Or.inr ⟨hz0, _, hcl6, h3⟩) hx (Or.inr ⟨h0, c4, hcl5, hasg⟩)
  obtain ⟨t, a1, b1⟩ := kk (T.setVm vm') hT X'
  exact ⟨t, st.trans a1, b1⟩
end Rows
section Ends
variable {p : Program} {l : Launch} {e : Env} {R : Room} {s : State} {m : MethodId} {args : Array Value} {below : List Frame} {meth : Method} {c : Code} {H : Heap} {locs : List Loc} {cells slots : Nat} {Q : State → Prop}
variable {mc ms : Nat} {free : Addr → Prop} {A0 A1 : Nat → Prop} {H0 : Heap} {a : Array Value} {ls : Array Slot} {st0 rest : List Value}
variable {Qc : Array Value → State → Outcome → State → Prop} {XC : String → State → State → Prop}
/-- what a body that may throw owes at its end -/
def vx_MQ (below : List Frame) (Qc : Array Value → State → Outcome → State → Prop) (XC : String → State → State → Prop) (a : Array Value) (s : State) (mc ms : Nat) (free : Addr → Prop) : State → Prop := fun t =>
  ∃ o, t.status = .running ∧ Ended t below o ∧ vx_Q Qc XC mc ms free a s o t
theorem vx_ret {g : JFrame} {mc ms : Nat} (k : W p l e R s m args below meth c H locs cells slots (MQ below Qc args s mc ms free) g) : W p l e R s m args below meth c H locs cells slots (vx_MQ below Qc XC args s mc ms free) g := by
  intro T hT X
  obtain ⟨t, a1, o, b1, b2, b3, b4⟩ := k T hT X
  exact ⟨t, a1, o, b1, b2, Or.inl ⟨b3, b4⟩⟩
/-- not caught here: it goes on to the caller -/
theorem vx_widen {g : JFrame} {q : Addr} {k n : Nat} (h1 : cells ≤ k) (h2 : slots ≤ n) (kk : vx_W p l e R s m args below meth c H locs k n Q g q) : vx_W p l e R s m args below meth c H locs cells slots Q g q := fun T hT X => kk T hT (stand_widen X h1 h2)
theorem vx_out {pc : Nat} {E : String} {ce : Cell} {q : Addr} {mc ms : Nat} (hout : ∀ x ∈ c.exceptionTable.toList, covers x pc = false) (hlocks : meth.locks = false) (hcell : H[q]? = some ce) (hv : ce.vm = .none) (hcl : s.vm.findClass E = some ce.cls)
    (hx : ∀ t : State, t.heap = H → s.vm.Alike t.vm → XC E s t) (hf : ∀ z ∈ locs, free z.base) (hc : cells ≤ mc) (hs : slots ≤ ms) :
    vx_W p l e R s m args below meth c H locs cells slots (vx_MQ below Qc XC args s mc ms free) (F0 m pc ls rest) q := by
  intro T hT X
  obtain ⟨st1, hrun, hend, hW, hsm⟩ := X.leaveThrown q (g := F0 m pc ls rest) rfl rfl rfl hout hlocks
  have hcell9 : (T.setFrames (.throwing q :: below)).heap[q]? = some ce := by
    show T.heap[q]? = some ce
    rw [hT]; exact hcell
  exact ⟨_, st1, .threw q, hrun, hend, Or.inr ⟨q, rfl, E, ce, locs, hx _ hT hW.alike, hcell9, hv, hcl, hW, hsm.mono hc hs, hf⟩⟩
theorem vx_frame {U : State} {k n : Nat} (h : s.sameButNew ({ U with vm := s.vm } : State) locs k n) : s.heap.size ≤ U.heap.size ∧ ∀ q : Nat, q < s.heap.size → (∀ z ∈ locs, z.base ≠ q) → U.heap[q]? = s.heap[q]? := by
  obtain ⟨-, h2, -, -, -, h6⟩ := h
  refine ⟨h2, fun q hq hz => ?_⟩
  obtain ⟨c9, e1, e2, e3, e4⟩ := h6 q _ (Array.getElem?_eq_getElem hq)
  have hs : c9.slots = (s.heap[q]).slots := Array.ext_getElem? fun i => e4 i fun hm => hz _ hm rfl
  have h9 : c9 = s.heap[q] := by
    rw [hs] at e2
    exact e2
  have e5 : U.heap[q]? = some c9 := e1
  rw [e5, h9, Array.getElem?_eq_getElem hq]
/-- the words of a throw but the four that speak of the heap -/
def vx_no (w : Cond) : Bool := decide (w ≠ .isRef (.static Bundle.tN "UNASSIGNED_STACK" Bundle.steD)) && decide (w ≠ .isRef (.static Bundle.tN "SUPPRESSED_SENTINEL" Bundle.listD)) && decide (w ≠ .laysStatic Bundle.tN "UNASSIGNED_STACK" Bundle.steD) && decide (w ≠ .laysStatic Bundle.tN "SUPPRESSED_SENTINEL" Bundle.listD)
def vx_at0 (own : String) (ic : Nat) (X : String) (names : List String) : List Cond := (Bundle.ownAtoms0 own ic X names).filter vx_no
def vx_atS (own : String) (ic : Nat) (X : String) (names : List String) : List Cond := (Bundle.ownAtoms own ic X names).filter vx_no
/-- a word that the tables alone decide, or a good one -/
def vx_ot (w : Cond) : Bool := w.onTables || goodWord w
theorem vx_ot_at {args a' : Array Value} {s U : State} {w : Cond} (hW : s.WarmedH U.vm) (hvm : s.vm = U.vm) (hg : vx_ot w = true) (h : w.before args s = true) : w.before a' U = true := by
  simp only [vx_ot, Bool.or_eq_true] at hg
  rcases hg with hg | hg
  · exact va_tabs hg hvm h
  · exact word_at hW (good_of_word hg) h
/-- a list's words: the good ones out of the method's own list, the others by premises of their own -/
theorem vx_hat {args : Array Value} {s : State} {L B : List Cond} (h1 : ∀ w ∈ L.filter goodWord, w.before args s = true) (h2 : ∀ w ∈ L.filter (fun w => !goodWord w), w ∈ B) (h3 : ∀ w ∈ B, w.before args s = true) : ∀ w ∈ L, w.before args s = true := by
  intro w hw
  by_cases g : goodWord w = true
  · exact h1 w (List.mem_filter.mpr ⟨hw, g⟩)
  · refine h3 w (h2 w (List.mem_filter.mpr ⟨hw, ?_⟩))
    show (!goodWord w) = true
    cases hgw : goodWord w
    · rfl
    · exact absurd hgw g
theorem vx_c {args : Array Value} {s : State} {w : Cond} {B : List Cond} (h : w.before args s = true) (t : ∀ w ∈ B, w.before args s = true) : ∀ w' ∈ w :: B, w'.before args s = true := fun w' h' => (List.mem_cons.mp h').elim (fun e => by rw [e]; exact h) (t w')
theorem vx_n {args : Array Value} {s : State} : ∀ w ∈ ([] : List Cond), w.before args s = true := fun _ h => nomatch h
theorem vx_own {args : Array Value} {s : State} {L : List Cond} (h1 : ∀ w ∈ L.filter vx_no, w.before args s = true)
    (hU : (Cond.isRef (.static Bundle.tN "UNASSIGNED_STACK" Bundle.steD)).before args s = true) (hN : (Cond.isRef (.static Bundle.tN "SUPPRESSED_SENTINEL" Bundle.listD)).before args s = true)
    (lU : (Cond.laysStatic Bundle.tN "UNASSIGNED_STACK" Bundle.steD).before args s = true) (lN : (Cond.laysStatic Bundle.tN "SUPPRESSED_SENTINEL" Bundle.listD).before args s = true) : ∀ w ∈ L, w.before args s = true := by
  intro w hw
  by_cases e1 : w = .isRef (.static Bundle.tN "UNASSIGNED_STACK" Bundle.steD)
  · rw [e1]; exact hU
  · by_cases e2 : w = .isRef (.static Bundle.tN "SUPPRESSED_SENTINEL" Bundle.listD)
    · rw [e2]; exact hN
    · by_cases e3 : w = .laysStatic Bundle.tN "UNASSIGNED_STACK" Bundle.steD
      · rw [e3]; exact lU
      · by_cases e4 : w = .laysStatic Bundle.tN "SUPPRESSED_SENTINEL" Bundle.listD
        · rw [e4]; exact lN
        · exact h1 w (List.mem_filter.mpr ⟨hw, by unfold vx_no; rw [decide_eq_true e1, decide_eq_true e2, decide_eq_true e3, decide_eq_true e4]; rfl⟩)
/-- where a static field lies, its class's statics cell in H -/
def vx_L (C n d : String) (A : Nat → Prop) (U : State) (H : Heap) : Prop := ∃ (c : ClassId) (k : Class) (i : Nat) (f : Field) (a : Nat) (cell : Cell), U.vm.findClass C = some c ∧ U.fieldFound? C n d = some (c, k, i, f) ∧ f.isStatic = true ∧ k.statics = some a ∧ H[a]? = some cell ∧ cell.vm.isStatics = true ∧ cell.cls = c ∧ f.slot < cell.slots.size ∧ k.staticTypes[f.slot]? = some f.type ∧ ¬ A a
theorem vx_L.moved {C n d : String} {A : Nat → Prop} {u U : State} {H : Heap} (hvm : u.vm.Alike U.vm) (h : vx_L C n d A u H) : vx_L C n d A U H := by
  obtain ⟨c, k, i, f, a, cell, h1, h2, h3, h4, h5, h6, h7, h8, h9, h10⟩ := h
  obtain ⟨k', hi', he⟩ := State.fieldFound?_setVm hvm h2
  exact ⟨c, k', i, f, a, cell, by rw [hvm.findClass]; exact h1, hi', h3, by rw [he]; exact h4, h5, h6, h7, h8, by rw [he]; exact h9, h10⟩
theorem vx_L.kept {C n d : String} {A : Nat → Prop} {U : State} {H H1 : Heap} (h : vx_L C n d A U H) (hq : ∀ a : Nat, a < H.size → ¬ A a → H1[a]? = H[a]?) : vx_L C n d A U H1 := by
  obtain ⟨c, k, i, f, a, cell, h1, h2, h3, h4, h5, h6, h7, h8, h9, h10⟩ := h
  exact ⟨c, k, i, f, a, cell, h1, h2, h3, h4, by rw [hq a (Array.getElem?_eq_some_iff.mp h5).1 h10]; exact h5, h6, h7, h8, h9, h10⟩
theorem vx_L.narrow {C n d : String} {A B : Nat → Prop} {U : State} {H : Heap} (h : vx_L C n d A U H) (hAB : ∀ q, B q → A q) : vx_L C n d B U H := by
  obtain ⟨c, k, i, f, a, cell, h1, h2, h3, h4, h5, h6, h7, h8, h9, h10⟩ := h
  exact ⟨c, k, i, f, a, cell, h1, h2, h3, h4, h5, h6, h7, h8, h9, fun z => h10 (hAB _ z)⟩
theorem vx_L.word {C n d : String} {A : Nat → Prop} {s : State} {args : Array Value} (h : vx_L C n d A s s.heap) : (Cond.laysStatic C n d).before args s = true := by
  obtain ⟨c, k, i, f, a, cell, h1, h2, h3, h4, h5, h6, h7, h8, h9, -⟩ := h
  show (Cond.laysStatic C n d).holds args s none s [] = true
  exact Cond.laysStatic_of h1 h2 h3 h4 h5 h6 h7 h8 h9
/-- .. and what it holds: null or some reference -/
def vx_Zq (C n d : String) (A : Nat → Prop) (U : State) (H : Heap) : Prop := va_Zq C n d A U H ∧ vx_L C n d A U H
theorem vx_Zq.moved {C n d : String} {A : Nat → Prop} {u U : State} {H : Heap} (hvm : u.vm.Alike U.vm) (h : vx_Zq C n d A u H) : vx_Zq C n d A U H := ⟨va_Zq.moved hvm h.1, vx_L.moved hvm h.2⟩
theorem vx_Zq.kept {C n d : String} {A : Nat → Prop} {U : State} {H H1 : Heap} (h : vx_Zq C n d A U H) (hq : ∀ a : Nat, a < H.size → ¬ A a → H1[a]? = H[a]?) : vx_Zq C n d A U H1 := ⟨va_Zq.kept h.1 hq, vx_L.kept h.2 hq⟩
theorem vx_Zq.narrow {C n d : String} {A B : Nat → Prop} {U : State} {H : Heap} (h : vx_Zq C n d A U H) (hAB : ∀ q, B q → A q) : vx_Zq C n d B U H := ⟨va_Zq.narrow h.1 hAB, vx_L.narrow h.2 hAB⟩
theorem vx_Zqof {args : Array Value} {s : State} {C n d : String} {A : Nat → Prop} (hl : (Cond.laysStatic C n d).before args s = true) (hini : (Cond.initialized C).before args s = true) (h : (Cond.isRef (.static C n d)).before args s = true) (hA : ∀ a : Nat, a < s.heap.size → ¬ A a) : vx_Zq C n d A s s.heap := by
  refine ⟨va_Zqof hl hini h hA, ?_⟩
  obtain ⟨c, k, i, f, a, cell, h1, h2, h3, h4, h5, h6, h7, h8, h9⟩ := Cond.laysStatic_spec hl
  exact ⟨c, k, i, f, a, cell, h1, h2, h3, h4, h5, h6, h7, h8, h9, hA a (Array.getElem?_eq_some_iff.mp h5).1⟩
theorem vx_isRef {C n d : String} {v : Value} {A : Nat → Prop} {s : State} {args : Array Value} (h : va_Z C n d v A s s.heap) (hv : v.isRef = true) : (Cond.isRef (.static C n d)).before args s = true := by
  obtain ⟨cf, kf, fi, f, a, cell, h1, h2, h3, h4, h5, h6, h7, -⟩ := h
  have he : (Term.static C n d).eval args s none [] s = some v := by
    simp [Term.eval, State.fieldNamed?, h1, h2, h4, h5, h6, h7]
  simp only [Cond.before, Cond.holds, Cond.value, he]
  cases v <;> simp_all [Value.isRef]
theorem vx_isRefq {C n d : String} {A : Nat → Prop} {s : State} {args : Array Value} (h : va_Zq C n d A s s.heap) : (Cond.isRef (.static C n d)).before args s = true := by
  rcases h with h | ⟨t, h⟩
  · exact vx_isRef h rfl
  · exact vx_isRef h rfl
/-- the same frame, seen from here: as if the method were called anew in this heap -/
theorem vx_rebase {T : State} (X : Stand p l e R s m args below meth c T locs cells slots) {R' : Room} (hf : R'.frames ≤ R.frames) (hl : R'.locals ≤ R.locals) (hc : cells + R'.cells ≤ R.cells) (hs : slots + R'.slots ≤ R.slots) :
    Stand p l e R' ((T.setVm s.vm).setFrames (.invoking m args :: below)) m args below meth c T [] 0 0 := by
  have htop : (T.setVm s.vm).topJava?.isSome := X.here.top
  have hF : ((T.setVm s.vm).setFrames (.invoking m args :: below)).frames = .invoking m args :: below := State.frames_setFrames _ (State.cur_lt_of_top htop)
  obtain ⟨g₀, hg0⟩ := Option.isSome_iff_exists.mp htop
  obtain ⟨r, hr⟩ := State.topJava?_eq_some.mp hg0
  have hl9 : e.platform.stackLimits (T.setVm s.vm).me = e.platform.stackLimits s.me := X.limits
  have hb9 : (T.setVm s.vm).me.stackBytes = s.me.stackBytes := X.bytes
  refine ⟨X.admits, X.cas, X.clock, hF, ?_, X.hears, X.method, X.code, X.here, X.tail, X.warmed, ?_, ?_, ?_⟩
  · have h := X.room
    have hU : ((T.setVm s.vm).setFrames (.invoking m args :: below)).localsInUse = s.localsInUse := by
      rw [State.localsInUse_invoking hF (meth := meth) (c := c) X.method X.code, State.localsInUse_invoking X.frames X.method X.code]
    simp only [State.hasRoom, Bool.and_eq_true, decide_eq_true_eq] at h ⊢
    obtain ⟨⟨⟨⟨h1, h2, h3, h4, h5, h6⟩, h7⟩, h8⟩, h9⟩ := h
    rw [X.frames, List.length_cons] at h2 h3
    have q1 := X.heapSize
    have q2 := X.used
    simp only [hF, hU, List.length_cons, State.stackLimits_setFrames, State.stackBytes_setFrames, hl9, hb9]
    refine ⟨⟨⟨⟨by omega, by omega, by omega, by omega, by omega, h6⟩, ?_⟩, ?_⟩, X.book⟩
    · show T.heap.size + R'.cells ≤ e.platform.maxCells
      omega
    · show T.slotsUsed + R'.slots ≤ e.platform.maxSlots
      omega
  · rw [State.stackLimits_setFrames]; rfl
  · rw [State.stackBytes_setFrames]; rfl
  · refine ⟨?_, Nat.le_refl _, Nat.le_refl _, ?_, ?_, fun a c9 h9 => ⟨c9, h9, rfl, rfl, fun _ _ => rfl⟩⟩
    · obtain ⟨t, ht, -⟩ := State.frames_cons hr
      show T.setVm s.vm = { ((T.setVm s.vm).setFrames (.invoking m args :: below)).setFrames (T.setVm s.vm).frames with heap := T.heap, slotsUsed := T.slotsUsed }
      rw [State.setFrames_setFrames, State.setFrames_self ht]
      rfl
    · show T.slotsUsed = T.slotsUsed + ((T.heap.toList.drop T.heap.size).map (·.slots.size)).sum
      rw [List.drop_eq_nil_of_le (Nat.le_of_eq Array.length_toList)]
      rfl
    · show ((T.heap.toList.drop T.heap.size).map (·.slots.size)).sum ≤ 0
      rw [List.drop_eq_nil_of_le (Nat.le_of_eq Array.length_toList)]
      exact Nat.le_refl _
/-- 'throw new E()': new; dup; invokespecial; athrow -/
theorem vx_throw0 {cc : ByteArray} {pc : Nat} (hexec : p.tables.exec = Jvm.exec) (hb : c.code = cc) (hl : l.stackTraces = false) {own cls : String} {names : List String} {ik ic mc ms : Nat} {A : Nat → Prop}
    (hown : s.vm.findClass own = some m.cls) (hcls : Bundle.fit cls = true) (hnames : ∀ n ∈ names, Bundle.fit n = true)
    (hk : (Cond.classLink own ik cls).before args s = true) (hini : (Cond.initialized cls).before args s = true) (hat : ∀ w ∈ vx_at0 own ic cls names, w.before args s = true)
    (hgood : ∀ w ∈ Cond.classLink own ik cls :: Cond.initialized cls :: vx_at0 own ic cls names, vx_ot w = true)
    (hU : vx_Zq Bundle.tN "UNASSIGNED_STACK" Bundle.steD A s s.heap) (hN : vx_Zq Bundle.tN "SUPPRESSED_SENTINEL" Bundle.listD A s s.heap) (hS : va_S A s.heap H locs) (hsize : ls.size = c.maxLocals)
    (d0 : decode cc pc = .ok (.new ik, 3)) (d3 : decode cc (pc + 3) = .ok (.dup, 1)) (d4 : decode cc (pc + 4) = .ok (.invokespecial ic, 3)) (d7 : decode cc (pc + 7) = .ok (.athrow, 1))
    (hout : ∀ x ∈ c.exceptionTable.toList, covers x (pc + 7) = false)
    (hRframes : names.length + 3 < R.frames) (hRlocals : (rest.map fun v => v.category).sum + (13 * (names.length + 1) + 42) ≤ R.locals) (hRcells : cells + 1 ≤ R.cells) (hRslots : slots + 6 ≤ R.slots) (hlocks : meth.locks = false)
    (hx : ∀ t : State, s.vm.Alike t.vm → H.size ≤ t.heap.size → (∀ q : Nat, q < H.size → t.heap[q]? = H[q]?) → XC cls s t)
    (hf : ∀ z ∈ locs, free z.base) (hc : cells + 1 ≤ mc) (hs : slots + 6 ≤ ms) :
    W p l e R s m args below meth c H locs cells slots (vx_MQ below Qc XC args s mc ms free) (F0 m pc ls rest) := by
  intro T hT X
  have htr : e.platform.stackTraces = false := (show e.platform.stackTraces = l.stackTraces by rw [X.admits.platform]).trans hl
  have Y := vx_rebase X (R' := { frames := R.frames, locals := R.locals, cells := 1, slots := 6 }) (Nat.le_refl _) (Nat.le_refl _) hRcells hRslots
  obtain ⟨s', hA⟩ : ∃ z, z = (T.setVm s.vm).setFrames (.invoking m args :: below) := ⟨_, rfl⟩
  rw [← hA] at Y
  have hvm : s'.vm = s.vm := by rw [hA]; rfl
  have hhp : s'.heap = H := by rw [hA]; exact hT
  have hW0 : s.WarmedH s'.vm := by rw [hvm]; exact State.WarmedH.refl s
  have hat' : ∀ w ∈ vx_at0 own ic cls names, w.before args s' = true := fun w hw => vx_ot_at hW0 hvm.symm (hgood w (List.mem_cons_of_mem _ (List.mem_cons_of_mem _ hw))) (hat w hw)
  have hk' : (Cond.classLink own ik cls).before args s' = true := vx_ot_at hW0 hvm.symm (hgood _ List.mem_cons_self) hk
  have hini' : (Cond.initialized cls).before args s' = true := vx_ot_at hW0 hvm.symm (hgood _ (List.mem_cons_of_mem _ List.mem_cons_self)) hini
  have hU' : vx_Zq Bundle.tN "UNASSIGNED_STACK" Bundle.steD A s' s'.heap := by rw [hhp]; exact vx_Zq.moved hW0.alike (hU.kept hS.2.1)
  have hN' : vx_Zq Bundle.tN "SUPPRESSED_SENTINEL" Bundle.listD A s' s'.heap := by rw [hhp]; exact vx_Zq.moved hW0.alike (hN.kept hS.2.1)
  have h : ∀ w ∈ Bundle.ownAtoms0 own ic cls names, w.before args s' = true := vx_own hat' (vx_isRefq hU'.1) (vx_isRefq hN'.1) hU'.2.word hN'.2.word
  have hown' : s'.vm.findClass own = some m.cls := by rw [hvm]; exact hown
  have hins : (Cond.instantiable cls 6).before args s' = true := h _ (by simp [Bundle.ownAtoms0])
  obtain ⟨vm₁, cX, kX, hfX, hkX, -, -, X₁, st1⟩ := Y.newCold hexec (own := own) (C := cls) (index := ik) (n := 6) hown' hk' hins hini'
    (g := F0 m pc ls rest) rfl (by rw [hb]; exact d0) (Nat.le_refl _) (Nat.le_refl _)
  generalize hT1 : (T.setVm vm₁).pushCell { cls := cX, slots := kX.instanceTypes.map defaultValue, vm := .none } = T1 at X₁ st1
  have hcat : (Value.ref T.heap.size).category = 1 := rfl
  have hcellA : T1.heap[T.heap.size]? = some (freshCell cX kX) := by rw [← hT1]; exact State.heap_pushCell_size _ _
  have d3' : decode c.code (pc + 3) = .ok (.dup, 1) := by rw [hb]; exact d3
  obtain ⟨U, hsteps, hrun, hend, hW, hsame, ce, hce, hO⟩ := X₁.ctorThrow0 hexec htr (own := own) (cls := cls) (names := names) (ic := ic) hown' hcls hnames h (fun x hx => nomatch hx) hfX hkX hcellA (by rw [hhp, hT]; exact Nat.le_refl _)
    (g := { method := m, pc := pc + 4, locals := ls, stack := .ref T.heap.size :: .ref T.heap.size :: rest, locked := none }) rfl hsize rfl rfl (rest := rest) rfl
    (by rw [hb]; exact d4) (by rw [hb]; exact d7) hout hRframes (by simp only [List.map_cons, List.sum_cons, hcat]; omega) hlocks
  obtain ⟨f1, f2⟩ := vx_frame hsame
  rw [hhp] at f1 f2
  have hWs : s.WarmedH U.vm := State.WarmedH.trans hW0 hW
  have hcl : s.vm.findClass cls = some ce.cls := by
    have h9 := hO.cls
    rw [hvm] at h9
    exact h9
  have hall : s.sameButNew ({ U with vm := s.vm } : State) locs mc ms := by
    subst hA
    obtain ⟨e1, e2⟩ := hsame
    rw [State.setFrames_setFrames] at e1
    have h2 : (T.setVm s.vm).sameButNew ({ U with vm := s.vm } : State) [] (0 + 1) (0 + 6) := ⟨e1, e2⟩
    have h3 := X.same.trans h2
    rw [List.append_nil] at h3
    exact h3.mono hc hs
  refine ⟨U, ?_, .threw T.heap.size, hrun, hend, Or.inr ⟨T.heap.size, rfl, cls, ce, locs, hx U hWs.alike f1 (fun q hq => f2 q hq (fun z hz => nomatch hz)), hce, hO.vm, hcl, hWs, hall, hf⟩⟩
  refine st1 _ ?_
  show Steps p.tables e below (T1.setTop { method := m, pc := pc + 3, locals := ls, stack := .ref T.heap.size :: rest, locked := none }) _
  jvm_step X₁.here [X₁.here.top, hexec, d3', Value.category]
  exact hsteps
/-- 'throw new E("text")': new; dup; ldc; invokespecial; athrow -/
theorem vx_throwS {cc : ByteArray} {pc : Nat} (hexec : p.tables.exec = Jvm.exec) (hb : c.code = cc) (hl : l.stackTraces = false) {own cls text : String} {names : List String} {ik is ic mc ms sa : Nat} {A : Nat → Prop}
    (hown : s.vm.findClass own = some m.cls) (hcls : Bundle.fit cls = true) (hnames : ∀ n ∈ names, Bundle.fit n = true)
    (hk : (Cond.classLink own ik cls).before args s = true) (hini : (Cond.initialized cls).before args s = true) (hstr : vk_R own is text sa s) (hat : ∀ w ∈ vx_atS own ic cls names, w.before args s = true)
    (hgood : ∀ w ∈ Cond.classLink own ik cls :: Cond.initialized cls :: vx_atS own ic cls names, vx_ot w = true)
    (hU : vx_Zq Bundle.tN "UNASSIGNED_STACK" Bundle.steD A s s.heap) (hN : vx_Zq Bundle.tN "SUPPRESSED_SENTINEL" Bundle.listD A s s.heap) (hS : va_S A s.heap H locs) (hsize : ls.size = c.maxLocals)
    (d0 : decode cc pc = .ok (.new ik, 3)) (d3 : decode cc (pc + 3) = .ok (.dup, 1)) (d4 : decode cc (pc + 4) = .ok (.ldc is, 2)) (d6 : decode cc (pc + 6) = .ok (.invokespecial ic, 3)) (d9 : decode cc (pc + 9) = .ok (.athrow, 1))
    (hout : ∀ x ∈ c.exceptionTable.toList, covers x (pc + 9) = false)
    (hRframes : names.length + 3 < R.frames) (hRlocals : (rest.map fun v => v.category).sum + (13 * (names.length + 1) + 43) ≤ R.locals) (hRcells : cells + 1 ≤ R.cells) (hRslots : slots + 6 ≤ R.slots) (hlocks : meth.locks = false)
    (hx : ∀ t : State, s.vm.Alike t.vm → H.size ≤ t.heap.size → (∀ q : Nat, q < H.size → t.heap[q]? = H[q]?) → XC cls s t)
    (hf : ∀ z ∈ locs, free z.base) (hc : cells + 1 ≤ mc) (hs : slots + 6 ≤ ms) :
    W p l e R s m args below meth c H locs cells slots (vx_MQ below Qc XC args s mc ms free) (F0 m pc ls rest) := by
  intro T hT X
  have htr : e.platform.stackTraces = false := (show e.platform.stackTraces = l.stackTraces by rw [X.admits.platform]).trans hl
  have Y := vx_rebase X (R' := { frames := R.frames, locals := R.locals, cells := 1, slots := 6 }) (Nat.le_refl _) (Nat.le_refl _) hRcells hRslots
  obtain ⟨s', hA⟩ : ∃ z, z = (T.setVm s.vm).setFrames (.invoking m args :: below) := ⟨_, rfl⟩
  rw [← hA] at Y
  have hvm : s'.vm = s.vm := by rw [hA]; rfl
  have hhp : s'.heap = H := by rw [hA]; exact hT
  have hW0 : s.WarmedH s'.vm := by rw [hvm]; exact State.WarmedH.refl s
  have hat' : ∀ w ∈ vx_atS own ic cls names, w.before args s' = true := fun w hw => vx_ot_at hW0 hvm.symm (hgood w (List.mem_cons_of_mem _ (List.mem_cons_of_mem _ hw))) (hat w hw)
  have hk' : (Cond.classLink own ik cls).before args s' = true := vx_ot_at hW0 hvm.symm (hgood _ List.mem_cons_self) hk
  have hini' : (Cond.initialized cls).before args s' = true := vx_ot_at hW0 hvm.symm (hgood _ (List.mem_cons_of_mem _ List.mem_cons_self)) hini
  have hU' : vx_Zq Bundle.tN "UNASSIGNED_STACK" Bundle.steD A s' s'.heap := by rw [hhp]; exact vx_Zq.moved hW0.alike (hU.kept hS.2.1)
  have hN' : vx_Zq Bundle.tN "SUPPRESSED_SENTINEL" Bundle.listD A s' s'.heap := by rw [hhp]; exact vx_Zq.moved hW0.alike (hN.kept hS.2.1)
  have h : ∀ w ∈ Bundle.ownAtoms own ic cls names, w.before args s' = true := vx_own hat' (vx_isRefq hU'.1) (vx_isRefq hN'.1) hU'.2.word hN'.2.word
  have hown' : s'.vm.findClass own = some m.cls := by rw [hvm]; exact hown
  have hins : (Cond.instantiable cls 6).before args s' = true := h _ (by simp [Bundle.ownAtoms])
  obtain ⟨vm₁, cX, kX, hfX, hkX, -, -, X₁, st1⟩ := Y.newCold hexec (own := own) (C := cls) (index := ik) (n := 6) hown' hk' hins hini'
    (g := F0 m pc ls rest) rfl (by rw [hb]; exact d0) (Nat.le_refl _) (Nat.le_refl _)
  generalize hT1 : (T.setVm vm₁).pushCell { cls := cX, slots := kX.instanceTypes.map defaultValue, vm := .none } = T1 at X₁ st1
  have hcat : (Value.ref T.heap.size).category = 1 := rfl
  have hcellA : T1.heap[T.heap.size]? = some (freshCell cX kX) := by rw [← hT1]; exact State.heap_pushCell_size _ _
  have d3' : decode c.code (pc + 3) = .ok (.dup, 1) := by rw [hb]; exact d3
  have d4' : decode c.code (pc + 4) = .ok (.ldc is, 2) := by rw [hb]; exact d4
  have hstr' : vk_R own is text sa s' := vk_R.warm hW0 hstr
  obtain ⟨U, hsteps, hrun, hend, hW, hsame, ce, hce, hO⟩ := X₁.ctorThrowS hexec htr (own := own) (cls := cls) (names := names) (ic := ic) hown' hcls hnames h (fun x hx => nomatch hx) hfX hkX hcellA (by rw [hhp, hT]; exact Nat.le_refl _) (msg := .ref sa) rfl
    (g := { method := m, pc := pc + 6, locals := ls, stack := .ref sa :: .ref T.heap.size :: .ref T.heap.size :: rest, locked := none }) rfl hsize rfl rfl (rest := rest) rfl
    (by rw [hb]; exact d6) (by rw [hb]; exact d9) hout hRframes (by simp only [List.map_cons, List.sum_cons, hcat]; omega) hlocks
  obtain ⟨f1, f2⟩ := vx_frame hsame
  rw [hhp] at f1 f2
  have hWs : s.WarmedH U.vm := State.WarmedH.trans hW0 hW
  have hcl : s.vm.findClass cls = some ce.cls := by
    have h9 := hO.cls
    rw [hvm] at h9
    exact h9
  have hall : s.sameButNew ({ U with vm := s.vm } : State) locs mc ms := by
    subst hA
    obtain ⟨e1, e2⟩ := hsame
    rw [State.setFrames_setFrames] at e1
    have h2 : (T.setVm s.vm).sameButNew ({ U with vm := s.vm } : State) [] (0 + 1) (0 + 6) := ⟨e1, e2⟩
    have h3 := X.same.trans h2
    rw [List.append_nil] at h3
    exact h3.mono hc hs
  refine ⟨U, ?_, .threw T.heap.size, hrun, hend, Or.inr ⟨T.heap.size, rfl, cls, ce, locs, hx U hWs.alike f1 (fun q hq => f2 q hq (fun z hz => nomatch hz)), hce, hO.vm, hcl, hWs, hall, hf⟩⟩
  refine st1 _ ?_
  show Steps p.tables e below (T1.setTop { method := m, pc := pc + 3, locals := ls, stack := .ref T.heap.size :: rest, locked := none }) _
  jvm_step X₁.here [X₁.here.top, hexec, d3', Value.category]
  exact X₁.ldcString hexec (own := own) (text := text) (index := is) (a := sa) hown' hstr'.1 hstr'.2
    (g := { method := m, pc := pc + 4, locals := ls, stack := .ref T.heap.size :: .ref T.heap.size :: rest, locked := none }) rfl d4' _ hsteps
/-- 'throw new E("text")', the text by a wide index -/
theorem vx_throwSW {cc : ByteArray} {pc : Nat} (hexec : p.tables.exec = Jvm.exec) (hb : c.code = cc) (hl : l.stackTraces = false) {own cls text : String} {names : List String} {ik is ic mc ms sa : Nat} {A : Nat → Prop}
    (hown : s.vm.findClass own = some m.cls) (hcls : Bundle.fit cls = true) (hnames : ∀ n ∈ names, Bundle.fit n = true)
    (hk : (Cond.classLink own ik cls).before args s = true) (hini : (Cond.initialized cls).before args s = true) (hstr : vk_R own is text sa s) (hat : ∀ w ∈ vx_atS own ic cls names, w.before args s = true)
    (hgood : ∀ w ∈ Cond.classLink own ik cls :: Cond.initialized cls :: vx_atS own ic cls names, vx_ot w = true)
    (hU : vx_Zq Bundle.tN "UNASSIGNED_STACK" Bundle.steD A s s.heap) (hN : vx_Zq Bundle.tN "SUPPRESSED_SENTINEL" Bundle.listD A s s.heap) (hS : va_S A s.heap H locs) (hsize : ls.size = c.maxLocals)
    (d0 : decode cc pc = .ok (.new ik, 3)) (d3 : decode cc (pc + 3) = .ok (.dup, 1)) (d4 : decode cc (pc + 4) = .ok (.ldc_w is, 3)) (d7 : decode cc (pc + 7) = .ok (.invokespecial ic, 3)) (d10 : decode cc (pc + 10) = .ok (.athrow, 1))
    (hout : ∀ x ∈ c.exceptionTable.toList, covers x (pc + 10) = false)
    (hRframes : names.length + 3 < R.frames) (hRlocals : (rest.map fun v => v.category).sum + (13 * (names.length + 1) + 43) ≤ R.locals) (hRcells : cells + 1 ≤ R.cells) (hRslots : slots + 6 ≤ R.slots) (hlocks : meth.locks = false)
    (hx : ∀ t : State, s.vm.Alike t.vm → H.size ≤ t.heap.size → (∀ q : Nat, q < H.size → t.heap[q]? = H[q]?) → XC cls s t)
    (hf : ∀ z ∈ locs, free z.base) (hc : cells + 1 ≤ mc) (hs : slots + 6 ≤ ms) :
    W p l e R s m args below meth c H locs cells slots (vx_MQ below Qc XC args s mc ms free) (F0 m pc ls rest) := by
  intro T hT X
  have htr : e.platform.stackTraces = false := (show e.platform.stackTraces = l.stackTraces by rw [X.admits.platform]).trans hl
  have Y := vx_rebase X (R' := { frames := R.frames, locals := R.locals, cells := 1, slots := 6 }) (Nat.le_refl _) (Nat.le_refl _) hRcells hRslots
  obtain ⟨s', hA⟩ : ∃ z, z = (T.setVm s.vm).setFrames (.invoking m args :: below) := ⟨_, rfl⟩
  rw [← hA] at Y
  have hvm : s'.vm = s.vm := by rw [hA]; rfl
  have hhp : s'.heap = H := by rw [hA]; exact hT
  have hW0 : s.WarmedH s'.vm := by rw [hvm]; exact State.WarmedH.refl s
  have hat' : ∀ w ∈ vx_atS own ic cls names, w.before args s' = true := fun w hw => vx_ot_at hW0 hvm.symm (hgood w (List.mem_cons_of_mem _ (List.mem_cons_of_mem _ hw))) (hat w hw)
  have hk' : (Cond.classLink own ik cls).before args s' = true := vx_ot_at hW0 hvm.symm (hgood _ List.mem_cons_self) hk
  have hini' : (Cond.initialized cls).before args s' = true := vx_ot_at hW0 hvm.symm (hgood _ (List.mem_cons_of_mem _ List.mem_cons_self)) hini
  have hU' : vx_Zq Bundle.tN "UNASSIGNED_STACK" Bundle.steD A s' s'.heap := by rw [hhp]; exact vx_Zq.moved hW0.alike (hU.kept hS.2.1)
  have hN' : vx_Zq Bundle.tN "SUPPRESSED_SENTINEL" Bundle.listD A s' s'.heap := by rw [hhp]; exact vx_Zq.moved hW0.alike (hN.kept hS.2.1)
  have h : ∀ w ∈ Bundle.ownAtoms own ic cls names, w.before args s' = true := vx_own hat' (vx_isRefq hU'.1) (vx_isRefq hN'.1) hU'.2.word hN'.2.word
  have hown' : s'.vm.findClass own = some m.cls := by rw [hvm]; exact hown
  have hins : (Cond.instantiable cls 6).before args s' = true := h _ (by simp [Bundle.ownAtoms])
  obtain ⟨vm₁, cX, kX, hfX, hkX, -, -, X₁, st1⟩ := Y.newCold hexec (own := own) (C := cls) (index := ik) (n := 6) hown' hk' hins hini'
    (g := F0 m pc ls rest) rfl (by rw [hb]; exact d0) (Nat.le_refl _) (Nat.le_refl _)
  generalize hT1 : (T.setVm vm₁).pushCell { cls := cX, slots := kX.instanceTypes.map defaultValue, vm := .none } = T1 at X₁ st1
  have hcat : (Value.ref T.heap.size).category = 1 := rfl
  have hcellA : T1.heap[T.heap.size]? = some (freshCell cX kX) := by rw [← hT1]; exact State.heap_pushCell_size _ _
  have d3' : decode c.code (pc + 3) = .ok (.dup, 1) := by rw [hb]; exact d3
  have d4' : decode c.code (pc + 4) = .ok (.ldc_w is, 3) := by rw [hb]; exact d4
  have hstr' : vk_R own is text sa s' := vk_R.warm hW0 hstr
  obtain ⟨U, hsteps, hrun, hend, hW, hsame, ce, hce, hO⟩ := X₁.ctorThrowS hexec htr (own := own) (cls := cls) (names := names) (ic := ic) hown' hcls hnames h (fun x hx => nomatch hx) hfX hkX hcellA (by rw [hhp, hT]; exact Nat.le_refl _) (msg := .ref sa) rfl
    (g := { method := m, pc := pc + 7, locals := ls, stack := .ref sa :: .ref T.heap.size :: .ref T.heap.size :: rest, locked := none }) rfl hsize rfl rfl (rest := rest) rfl
    (by rw [hb]; exact d7) (by rw [hb]; exact d10) hout hRframes (by simp only [List.map_cons, List.sum_cons, hcat]; omega) hlocks
  obtain ⟨f1, f2⟩ := vx_frame hsame
  rw [hhp] at f1 f2
  have hWs : s.WarmedH U.vm := State.WarmedH.trans hW0 hW
  have hcl : s.vm.findClass cls = some ce.cls := by
    have h9 := hO.cls
    rw [hvm] at h9
    exact h9
  have hall : s.sameButNew ({ U with vm := s.vm } : State) locs mc ms := by
    subst hA
    obtain ⟨e1, e2⟩ := hsame
    rw [State.setFrames_setFrames] at e1
    have h2 : (T.setVm s.vm).sameButNew ({ U with vm := s.vm } : State) [] (0 + 1) (0 + 6) := ⟨e1, e2⟩
    have h3 := X.same.trans h2
    rw [List.append_nil] at h3
    exact h3.mono hc hs
  refine ⟨U, ?_, .threw T.heap.size, hrun, hend, Or.inr ⟨T.heap.size, rfl, cls, ce, locs, hx U hWs.alike f1 (fun q hq => f2 q hq (fun z hz => nomatch hz)), hce, hO.vm, hcl, hWs, hall, hf⟩⟩
  refine st1 _ ?_
  show Steps p.tables e below (T1.setTop { method := m, pc := pc + 3, locals := ls, stack := .ref T.heap.size :: rest, locked := none }) _
  jvm_step X₁.here [X₁.here.top, hexec, d3', Value.category]
  exact X₁.ldcStringW hexec (own := own) (text := text) (index := is) (a := sa) hown' hstr'.1 hstr'.2
    (g := { method := m, pc := pc + 4, locals := ls, stack := .ref T.heap.size :: .ref T.heap.size :: rest, locked := none }) rfl d4' _ hsteps
end Ends
section Bodies
variable {l : Launch}
theorem vx_ofW {y : MethodName} {ws ws' : List Cond} {rm : Room} {Pc : Array Value → State → Prop} {Qc : Array Value → State → Outcome → State → Prop} {XC : String → State → State → Prop} {mc ms : Nat} {free : Addr → Prop} {cc : ByteArray} {maxL : Nat} {ret : Option FieldType}
    (hy : plainName y.cls = true) (hw : ws = Cond.code y cc maxL ret :: ws')
    (body : ∀ p e s m args below meth c s₁, BodyLoose p l y (headSpec ws rm) cc maxL ret e s m args below meth c s₁ → c.maxLocals = maxL → (∀ x ∈ c.exceptionTable.toList, False) → Pc args s →
      W p l e (headSpec ws rm).room s m args below meth c s.heap [] 0 0 (vx_MQ below Qc XC args s mc ms free) (entryFrame m args maxL)) : vx_Met l y ws rm Pc Qc XC mc ms free := by
  refine MetFree.of_bodyS (code := cc) (maxLocals := maxL) (ret := ret) hy ?_ ?_
  · intro args s m h hn
    obtain ⟨meth, c, h1, h2, h3, h4, h5, h6, -, -⟩ := Cond.code_spec hn (atoms_spec (ws := ws) h _ (by rw [hw]; exact List.mem_cons_self))
    exact ⟨meth, c, h1, h2, h3, h4, h5, h6⟩
  · intro p e s m args below meth c s₁ B hml hP _
    have hh0 : s₁.heap = s.heap := by rw [B.state]; rfl
    have ht : ∀ x ∈ c.exceptionTable.toList, False := by
      obtain ⟨meth9, c9, h1, h2, -, -, -, -, h7, -⟩ := Cond.code_spec B.named (atoms_spec (ws := ws) B.pre _ (by rw [hw]; exact List.mem_cons_self))
      cases Option.some.inj (h1.symm.trans B.method)
      cases Option.some.inj (h2.symm.trans (Stand.of_body B).code)
      intro x hx
      rw [Array.isEmpty_iff.mp h7] at hx
      cases hx
    obtain ⟨t, a1, o, b1, b2, b3⟩ := body p e s m args below meth c s₁ B hml ht hP s₁ hh0 (Stand.of_body B)
    exact ⟨t, o, a1, b1, b2, b3⟩
/-- the table of a body with handlers -/
theorem vx_table {p : Program} {x y : MethodName} {S : Spec} {cc bytes : ByteArray} {maxL maxL' : Nat} {ret ret' : Option FieldType} {e : Env} {s s₁ : State} {m : MethodId} {args : Array Value} {below : List Frame} {meth : Method} {c : Code} {hh : List (Nat × Nat × Nat × Nat)}
    (B : BodyLoose p l y S cc maxL ret e s m args below meth c s₁) (h : (Cond.codeWith y bytes maxL' ret' hh).before args s = true) : c.exceptionTable.toList = tableOf hh := by
  obtain ⟨m9, meth9, c9, hn9, h1, h2, -, -, h6, -⟩ := Cond.codeWith_spec h
  cases Option.some.inj (hn9.symm.trans B.named)
  cases Option.some.inj (h1.symm.trans B.method)
  cases Option.some.inj (h2.symm.trans (Stand.of_body B).code)
  rw [← h6, table_eq]
end Bodies
end VXA
/-! ===== END ===== -/
/-! ===== BEGIN a static call of a method with an exception table ===== -/
section VXS
variable {p : Program} {l : Launch} {e : Env} {R : Room} {s : State} {m : MethodId} {args : Array Value} {below : List Frame} {meth : Method} {c : Code} {T : State} {H : Heap} {locs : List Loc} {cells slots : Nat}
abbrev vx_CSW (R : Room) (s : State) (args : Array Value) (own : String) (index : Nat) (y : MethodName) (bytes : ByteArray) (maxL : Nat) (ret : Option FieldType) (hh : List (Nat × Nat × Nat × Nat)) (ws : List Cond) (rm : Room) (mc ms n : Nat) : Prop :=
  (rm.cells = mc ∧ rm.slots = ms ∧ rm.frames + 1 ≤ R.frames ∧ 8 + (maxL + 11) + rm.locals ≤ R.locals ∧ (∀ w ∈ ws, ∀ (a' : Array Value) (U : State), s.WarmedH U.vm → w.before a' U = true) ∧ Cond.codeWith y bytes maxL ret hh ∈ ws) ∧
  (Cond.codeWith y bytes maxL ret hh).before args s = true ∧ (Cond.initialized y.cls).before args s = true ∧ (y.cls ≠ "java/lang/invoke/MethodHandle" ∧ y.cls ≠ "java/lang/invoke/VarHandle") ∧
  (∀ sig, parseMethodDescriptor y.desc = some sig → n = sig.parameters.length) ∧ (Cond.methodLink own index y).before args s = true ∧ (Cond.static y).before args s = true
theorem vx_cwSW {own : String} {index maxL mc ms : Nat} {y : MethodName} {bytes : ByteArray} {ret : Option FieldType} {hh : List (Nat × Nat × Nat × Nat)} {Ts ws ws' : List Cond} {rm : Room} (n : Nat) (ht : ∀ w ∈ Ts, w.before args s = true) (hT : GoodIn Ts (va_wsS own index y ws)) (hw : ws = Cond.codeWith y bytes maxL ret hh :: ws') (hrc : rm.cells = mc) (hrs : rm.slots = ms)
    (hd : y.cls ≠ "java/lang/invoke/MethodHandle" ∧ y.cls ≠ "java/lang/invoke/VarHandle" ∧ (parseMethodDescriptor y.desc).map (fun d => d.parameters.length) = some n) (hR : rm.frames + 1 ≤ R.frames ∧ 8 + (maxL + 11) + rm.locals ≤ R.locals) :
    vx_CSW R s args own index y bytes maxL ret hh ws rm mc ms n := by
  have ok : ∀ w ∈ va_wsS own index y ws, w.before args s = true := fun w h => ht w (hT w h).1
  have hG : GoodIn Ts ws := fun w h => hT w (by unfold va_wsS; exact List.mem_append_right _ h)
  have hc : Cond.codeWith y bytes maxL ret hh ∈ ws := by rw [hw]; exact List.mem_cons_self
  refine ⟨⟨hrc, hrs, hR.1, hR.2, pay_in ht hG, hc⟩, ht _ (hG _ hc).1, ok _ (by simp [va_wsS]), ⟨hd.1, hd.2.1⟩, fun sig h => ?_, ok _ (by simp [va_wsS]), ok _ (by simp [va_wsS])⟩
  have h2 := hd.2.2
  rw [h] at h2
  exact (Option.some.inj h2).symm
theorem vx_callSW (X : Stand p l e R s m args below meth c T locs cells slots) (hexec : p.tables.exec = Jvm.exec) {own : String} {index : Nat} {y : MethodName} {bytes : ByteArray} {maxL : Nat} {ret : Option FieldType} {hh : List (Nat × Nat × Nat × Nat)}
    (hown : s.vm.findClass own = some m.cls) (hlink : (Cond.methodLink own index y).before args s = true) (hstat : (Cond.static y).before args s = true) (hinit : (Cond.initialized y.cls).before args s = true)
    (hcode : (Cond.codeWith y bytes maxL ret hh).before args s = true) (hy : y.cls ≠ "java/lang/invoke/MethodHandle" ∧ y.cls ≠ "java/lang/invoke/VarHandle")
    {W9 : Nat} {Pre : Pt → Array Value → Prop} {Post : Pt → Array Value → Option Value → Pt → Prop} (hK : Back l R p e below s args y 3 W9 Pre Post)
    {g : JFrame} (hg : g.method = m) (hsize : g.locals.size = c.maxLocals) {argsL rest : List Value} (hlen : ∀ sig, parseMethodDescriptor y.desc = some sig → argsL.length = sig.parameters.length)
    (hstack : g.stack = argsL.reverse ++ rest) (hW : 2 * g.monitorRoom + (rest.map fun v => v.category).sum ≤ W9) (hdg : decode c.code g.pc = .ok (.invokestatic index, 3))
    (hpre : ∀ vm₁, s.WarmedH vm₁ → Pre ⟨T.setVm vm₁, locs, cells, slots⟩ argsL.toArray) :
    ∃ (v : Option Value) (vm₁ : Vm) (B : Pt), s.WarmedH vm₁ ∧ Stand p l e R s m args below meth c B.U B.locs B.cells B.slots ∧ Post ⟨T.setVm vm₁, locs, cells, slots⟩ argsL.toArray v B ∧
      ∀ target, Steps p.tables e below (B.U.setTop { g with pc := g.pc + 3, stack := v.toList ++ rest }) target → Steps p.tables e below (T.setTop g) target := by
  obtain ⟨mk, methM, cM, hnamed, hmethM, -, -, -, -, -, -, hsigM⟩ := Cond.codeWith_spec hcode
  have hstatic : methM.isStatic = true := Cond.static_spec hnamed hmethM hstat
  obtain ⟨kP, hkP, -⟩ := className_of_methodNamed hnamed
  have hinitP : kP.init = .initialized := Cond.initialized_spec (findClass_of_methodNamed hnamed) hkP hinit
  obtain ⟨vm₁, X₁, hstep₁⟩ := X.invokestatic hexec hown hlink hnamed hmethM hstatic hkP hinitP hy (g := g) hg (argsL := argsL) (rest := rest) (hlen _ hsigM) hstack hdg
  obtain ⟨v, B, X', hpost, hsteps⟩ := hK m meth c ⟨T.setVm vm₁, locs, cells, slots⟩ { g with stack := rest } (.invokestatic index) mk argsL.toArray X₁ hg hsize hdg hW (X₁.named hnamed) (hpre vm₁ X₁.warmed)
  exact ⟨v, vm₁, B, X₁.warmed, X', hpost, fun target h => hstep₁ _ fun acts => by rw [doInvoke_state]; exact hsteps.trans h⟩
theorem vx_runSW {y : MethodName} {bytes cc : ByteArray} {maxL nL mc ms n index : Nat} {ret : Option FieldType} {hh : List (Nat × Nat × Nat × Nat)} {ws : List Cond} {rm : Room} {Pc : Array Value → State → Prop} {Qc : Array Value → State → Outcome → State → Prop} {free : Addr → Prop} {Ts : List Cond} {own : String} {As rest : List Value} {g : JFrame}
    (S : CallFix p m c cc nL s args Ts own) (hM : Met l y ws rm Pc Qc mc ms free) (cw : vx_CSW R s args own index y bytes maxL ret hh ws rm mc ms n) (hp : PreS s H Pc As)
    (hg : g.method = m) (hn : As.length = n) (hsize : g.locals.size = nL) (hstack : g.stack = As.reverse ++ rest) (hW : 2 * g.monitorRoom + (rest.map fun v => v.category).sum ≤ 8) (hdg : decode cc g.pc = .ok (.invokestatic index, 3)) (hf : cells + mc ≤ R.cells ∧ slots + ms ≤ R.slots) :
    va_Run p l e R s m args below meth c H locs cells slots mc ms g rest (Qc As.toArray) (free) := by
  obtain ⟨⟨hrc, hrs, hfr, hlo, hws, hcw⟩, hcode, hini, hy, hlen, hl, hstt⟩ := cw
  have hK : Back l R p e below s args y 3 8 (PreOf R mc ms Pc) (PostOf Qc mc ms free) := va_backW (hh := hh) (bytes := bytes) (maxL := maxL) (ret := ret) hM hp.1 hrc hrs hfr hlo hws hcw (fun a' U hW => word_at hW (Or.inl (by first | rfl | simp [Cond.onTables, Cond.keeps, Cond.steady])) hini)
  obtain ⟨hx, hb, hml, ho, -⟩ := S
  intro T hT X
  obtain ⟨v, vm₁, ⟨U', l2, c2, s2⟩, hW₁, X', ⟨g', mk, t, L, e1, e2, hq, h1, hL, h2, h3⟩, st⟩ := vx_callSW X hx (hh := hh) (bytes := bytes) (maxL := maxL) (ret := ret) ho hl hstt hini hcode hy hK hg (hsize.trans hml.symm) (argsL := As) (rest := rest) (fun sig h => hn.trans (hlen sig h)) hstack hW (by rw [hb]; exact hdg)
    (fun vm₁ hW₁ => ⟨hf.1, hf.2, hp.2 (T.setVm vm₁) hT hW₁⟩)
  dsimp only [Pt.U, Pt.locs, Pt.cells, Pt.slots] at X' e1 e2 h1 h2 h3 st
  subst h1; subst h2; subst h3
  exact ⟨v, (T.setVm vm₁).calling g' mk As.toArray, t, U', L, hT, X', hL, e1, e2, hq, st⟩
/-- not caught here, past rows that name other classes: it goes on to the caller -/
theorem vx_outP {p : Program} {l : Launch} {e : Env} {R : Room} {s : State} {m : MethodId} {args : Array Value} {below : List Frame} {meth : Method} {c : Code} {H : Heap} {locs : List Loc} {cells slots : Nat} {free : Addr → Prop} {ls : Array Slot} {rest : List Value} {Qc : Array Value → State → Outcome → State → Prop} {XC : String → State → State → Prop}
    {pc : Nat} {own E : String} {ce : Cell} {q : Addr} {mc ms : Nat} (hown : s.vm.findClass own = some m.cls) (hlocks : meth.locks = false)
    (hpass : ∀ z ∈ c.exceptionTable.toList, covers z pc = false ∨ (z.catchType ≠ 0 ∧ ∃ nm : String, (Cond.classLink own z.catchType nm).before args s = true ∧ va_Nc E nm s)) (hcell : H[q]? = some ce) (hv : ce.vm = .none) (hcl : s.vm.findClass E = some ce.cls)
    (hx : ∀ t : State, t.heap = H → s.vm.Alike t.vm → XC E s t) (hf : ∀ z ∈ locs, free z.base) (hc : cells ≤ mc) (hs : slots ≤ ms) :
    vx_W p l e R s m args below meth c H locs cells slots (vx_MQ below Qc XC args s mc ms free) (F0 m pc ls rest) q := by
  intro T hT X
  have hpl : e.platform.magicAccessors = ({} : Platform).magicAccessors := by rw [X.admits.platform]
  obtain ⟨vm', hW', X', st⟩ := X.outThrough hlocks q (g := F0 m pc ls rest) rfl rfl rfl (cell := ce) (by rw [hT]; exact hcell) (by rw [hv]; rfl)
    (by obtain ⟨k9, h9, -⟩ := Vm.findClass_spec hcl; exact ⟨k9, h9⟩) (fun z hz => by
      rcases hpass z hz with h | ⟨hz0, nm, hl1, hn1⟩
      · exact Or.inl h
      · obtain ⟨c6, hc6, hcl6⟩ := Cond.classLink_spec hown hl1 e.platform hpl
        obtain ⟨a8, b8, h1, h2, h3⟩ := hn1
        cases Option.some.inj (h1.symm.trans hcl)
        cases Option.some.inj (h2.symm.trans hc6)
        exact Or.inr ⟨hz0, _, hcl6, h3⟩)
  obtain ⟨g₀, hfr⟩ := X'.frames_eq
  have hcell9 : ((T.setVm vm').setFrames (.throwing q :: below)).heap[q]? = some ce := by
    show T.heap[q]? = some ce
    rw [hT]; exact hcell
  have hend : Ended ((T.setVm vm').setFrames (.throwing q :: below)) below (.threw q) := State.frames_setFrames _ (State.cur_lt_of_frames hfr)
  refine ⟨(T.setVm vm').setFrames (.throwing q :: below), ?_, .threw q, X'.here.running, hend, Or.inr ⟨q, rfl, E, ce, locs, hx _ hT (X'.ends _).1.alike, hcell9, hv, hcl, (X'.ends _).1, (X'.ends _).2.mono hc hs, hf⟩⟩
  rw [X.pushThrowing_eq]
  exact st
/-- a thing of a world lies in the heap -/
theorem vx_lt {D : va_G} {cl : List vw_C} {ws : va_W} {H1 : Heap} (h : va_P D cl ws H1) {k : Nat} {q : Nat × va_E} (hk : ws[k]? = some q) : q.1 < H1.size := (h k q hk).lt
end VXS
/-! ===== END ===== -/
/-! ===== BEGIN methods with a table of their own: called by a name, returning or throwing ===== -/
section VXH
/-! vx_backW, vx_callVX, vx_callSX, vx_callVW, vx_runVW, vx_runVX, vx_runSX, vx_ofWH follow the same proofs as their sisters above (Free/Laws.lean, Shelf42/LK1.lean); vx_outP calls Shelf42/NT130.lean (outThrough). -/
section
variable {l : Launch} {R : Room} {p : Program} {e : Env} {below : List Frame} {s : State} {sargs : Array Value} {y : MethodName} {len W9 : Nat}
theorem vx_backW {ws : List Cond} {rm : Room} {Pc : Array Value → State → Prop} {Qc : Array Value → State → Outcome → State → Prop} {XC : String → State → State → Prop} {mc ms : Nat} {free : Addr → Prop} {bytes : ByteArray} {maxL : Nat} {ret : Option FieldType} {hh : List (Nat × Nat × Nat × Nat)}
    (hM : vx_Met l y ws rm Pc Qc XC mc ms free) (hblind : FrameBlind Pc) (hrc : rm.cells = mc) (hrs : rm.slots = ms)
    (hframes : rm.frames + 1 ≤ R.frames) (hlocals : W9 + (maxL + 11) + rm.locals ≤ R.locals)
    (hws : ∀ w ∈ ws, ∀ a' U, s.WarmedH U.vm → w.before a' U = true) (hcode : Cond.codeWith y bytes maxL ret hh ∈ ws) (hinit : ∀ a' U, s.WarmedH U.vm → (Cond.initialized y.cls).before a' U = true) :
    vx_Back l R p e below s sargs y len W9 (PreOf R mc ms Pc) (PostOf Qc mc ms free) (vx_Post XC mc ms free) := by
  intro m meth c A g ig mk a X hg hsize hdg hW hn hp
  have h1 : (headSpec ws rm).pre.before a A.U = true := atoms_intro fun w hw => hws w hw _ _ X.warmed
  have h2 : (Cond.codeWith y bytes maxL ret hh).before a A.U = true := hws _ hcode _ _ X.warmed
  have h3 : (Cond.initialized y.cls).before a A.U = true := hinit _ _ X.warmed
  have h4 : A.cells + (headSpec ws rm).room.cells ≤ R.cells := by rw [show (headSpec ws rm).room.cells = mc from hrc]; exact hp.1
  have h5 : A.slots + (headSpec ws rm).room.slots ≤ R.slots := by rw [show (headSpec ws rm).room.slots = ms from hrs]; exact hp.2.1
  have hPc : Pc a (A.U.calling g mk a) := hblind _ _ _ _ hp.2.2
  obtain ⟨U, Ls, c0, s0⟩ := A
  dsimp only [Pt.U, Pt.locs, Pt.cells, Pt.slots] at h1 h2 h3 h4 h5 X hn hPc ⊢
  obtain ⟨m9, methY, cY, hn9, hmY, hcY, -, hlY, -⟩ := Cond.codeWith_spec h2
  cases Option.some.inj (hn9.symm.trans hn)
  obtain ⟨kY, hkY, -⟩ := className_of_methodNamed hn
  have hinitY : kY.init = .initialized := Cond.initialized_spec (findClass_of_methodNamed hn) hkY h3
  have h : At U g.method c below := by rw [hg]; exact X.here
  have hlocals9 : W9 + (maxL + 11) + (headSpec ws rm).room.locals ≤ R.locals := hlocals
  have happ : (headSpec ws rm).appliesLoose y e.platform (U.calling g mk a) = true :=
    Spec.appliesLoose_calling (g := g) h hdg hn hkY hinitY
      (X.room_calling (g := g) (R' := (headSpec ws rm).room) hsize hmY hcY hframes (by rw [hlY]; omega) h4 h5) h1
  obtain ⟨mid, hmid⟩ := h.above
  have hfr : (U.setTop g).frames = (.java g :: mid) ++ below := by rw [State.frames_setTop' g h.top, hmid]; rfl
  obtain ⟨o, s₂, hsteps, -, hend, hq⟩ := Steps.callFree hM p X.admits X.cas X.clock (acts := []) hfr happ hPc trivial
  have hq' : vx_Q Qc XC mc ms free a (U.calling g mk a) o s₂ := hq
  rw [State.frames_setTop' g h.top] at hend
  obtain ⟨g₀, hg0⟩ := Option.isSome_iff_exists.mp h.top
  obtain ⟨r, hr⟩ := State.topJava?_eq_some.mp hg0
  have hr' : (({ U with heap := s₂.heap, slotsUsed := s₂.slotsUsed } : State).setVm s₂.vm).frames = .java g₀ :: r := hr
  rcases hq' with ⟨hqc, L, hfe, hL⟩ | ⟨q, rfl, E, ce, L, hx, hce, hcv, hcl, hW₂, hsm, hL⟩
  · obtain ⟨⟨v, rfl⟩, hW₂, e2, q2, q3, q4, q5, q6⟩ := id hfe
    have e3 : s₂ = ({ (U.calling g mk a).setFrames s₂.frames with heap := s₂.heap, slotsUsed := s₂.slotsUsed } : State).setVm s₂.vm := by
      have : s₂ = ({ s₂ with vm := (U.calling g mk a).vm } : State).setVm s₂.vm := rfl
      rw [e2] at this
      exact this
    obtain ⟨c₂, i₂, len₂, hc₂, hd₂, hf₂⟩ := hend
    have hW' : U.WarmedH s₂.vm := hW₂
    have hcc : c₂ = c := by
      have h1 : s₂.code? g.method = U.code? g.method := by
        rw [State.code?_eq, State.code?_eq, hW'.alike.method?]
      exact Option.some.inj (hc₂.symm.trans (h1.trans h.code))
    subst hcc
    have hlen : len₂ = len := by rw [hdg] at hd₂; cases hd₂; rfl
    subst hlen
    have hs₂ : s₂ = (({ U with heap := s₂.heap, slotsUsed := s₂.slotsUsed } : State).setVm s₂.vm).setTop { g with pc := g.pc + len₂, stack := v.toList ++ g.stack } := by
      refine e3.trans ?_
      rw [hf₂, State.calling_eq h.top, State.setFrames_setFrames, State.setTop_of_frames _ hr', hr]
      rfl
    have hsame : U.sameButNew ({ U with heap := s₂.heap, slotsUsed := s₂.slotsUsed } : State) L mc ms := by
      refine ⟨?_, q2, q3, q4, q5, q6⟩
      obtain ⟨t, ht, -⟩ := State.frames_cons hr
      show ({ U with heap := s₂.heap, slotsUsed := s₂.slotsUsed } : State) = { U.setFrames U.frames with heap := s₂.heap, slotsUsed := s₂.slotsUsed }
      rw [State.setFrames_self ht]
    subst hg
    refine Or.inl ⟨v, ⟨(({ U with heap := s₂.heap, slotsUsed := s₂.slotsUsed } : State).setVm s₂.vm), Ls ++ L, c0 + mc, s0 + ms⟩,
      ⟨X.admits, X.cas, X.clock, X.frames, X.room, X.hears, X.method, X.code, (X.here.setHeapUsed s₂.heap s₂.slotsUsed).setVm hW'.alike, X.tail, State.WarmedH.trans X.warmed hW', X.limits, X.bytes, X.same.trans (hsame.setVm s.vm)⟩,
      ⟨g, mk, s₂, L, rfl, rfl, hqc, rfl, hL, rfl, rfl⟩, ?_⟩
    show Steps p.tables e below _ ((({ U with heap := s₂.heap, slotsUsed := s₂.slotsUsed } : State).setVm s₂.vm).setTop { g with pc := g.pc + len₂, stack := v.toList ++ g.stack })
    rw [← hs₂]
    exact hsteps
  · obtain ⟨e2, q2, q3, q4, q5, q6⟩ := id hsm
    have e3 : s₂ = ({ (U.calling g mk a).setFrames s₂.frames with heap := s₂.heap, slotsUsed := s₂.slotsUsed } : State).setVm s₂.vm := by
      have : s₂ = ({ s₂ with vm := (U.calling g mk a).vm } : State).setVm s₂.vm := rfl
      rw [e2] at this
      exact this
    have hf₂ : s₂.frames = .throwing q :: .java g :: U.frames.tail := hend
    have hW' : U.WarmedH s₂.vm := hW₂
    have hs₂ : s₂ = ((({ U with heap := s₂.heap, slotsUsed := s₂.slotsUsed } : State).setVm s₂.vm).setTop g).pushFrame (.throwing q) := by
      refine e3.trans ?_
      rw [hf₂, State.calling_eq h.top, State.setFrames_setFrames, State.pushFrame, State.frames_setTop _ hr', State.setTop_of_frames _ hr', State.setFrames_setFrames, hr]
      rfl
    have hsame : U.sameButNew ({ U with heap := s₂.heap, slotsUsed := s₂.slotsUsed } : State) L mc ms := by
      refine ⟨?_, q2, q3, q4, q5, q6⟩
      obtain ⟨t, ht, -⟩ := State.frames_cons hr
      show ({ U with heap := s₂.heap, slotsUsed := s₂.slotsUsed } : State) = { U.setFrames U.frames with heap := s₂.heap, slotsUsed := s₂.slotsUsed }
      rw [State.setFrames_self ht]
    subst hg
    refine Or.inr ⟨q, ⟨(({ U with heap := s₂.heap, slotsUsed := s₂.slotsUsed } : State).setVm s₂.vm), Ls ++ L, c0 + mc, s0 + ms⟩,
      ⟨X.admits, X.cas, X.clock, X.frames, X.room, X.hears, X.method, X.code, (X.here.setHeapUsed s₂.heap s₂.slotsUsed).setVm hW'.alike, X.tail, State.WarmedH.trans X.warmed hW', X.limits, X.bytes, X.same.trans (hsame.setVm s.vm)⟩,
      ⟨g, mk, s₂, L, E, ce, rfl, rfl, hx, hce, hcv, hcl, rfl, hL, rfl, rfl⟩, ?_⟩
    show Steps p.tables e below _ (((({ U with heap := s₂.heap, slotsUsed := s₂.slotsUsed } : State).setVm s₂.vm).setTop g).pushFrame (.throwing q))
    rw [← hs₂]
    exact hsteps
end
variable {p : Program} {l : Launch} {e : Env} {R : Room} {s : State} {m : MethodId} {args : Array Value} {below : List Frame} {meth : Method} {c : Code} {T : State} {H : Heap} {locs : List Loc} {cells slots : Nat}
theorem vx_callVX (X : Stand p l e R s m args below meth c T locs cells slots) (hexec : p.tables.exec = Jvm.exec) {own C : String} {index : Nat} {y : MethodName} {bytes : ByteArray} {maxL : Nat} {ret : Option FieldType} {hh : List (Nat × Nat × Nat × Nat)}
    (hown : s.vm.findClass own = some m.cls) (hlink : (Cond.methodLink own index y).before args s = true) (hinst : (Cond.instanceMethod y).before args s = true) (hsel : (Cond.selects C y y).before args s = true)
    (hcode : (Cond.codeWith y bytes maxL ret hh).before args s = true) (hy : y.cls ≠ "java/lang/invoke/MethodHandle" ∧ y.cls ≠ "java/lang/invoke/VarHandle")
    {W9 : Nat} {Pre : Pt → Array Value → Prop} {Post : Pt → Array Value → Option Value → Pt → Prop} {PostX : Pt → Array Value → Addr → Pt → Prop} (hK : vx_Back l R p e below s args y 3 W9 Pre Post PostX)
    {b : Addr} {cellB : Cell} (hcell : T.heap[b]? = some cellB) (hobj : cellB.vm.isStatics = false) (hcls : s.vm.findClass C = some cellB.cls)
    {g : JFrame} (hg : g.method = m) (hsize : g.locals.size = c.maxLocals) {argsL rest : List Value} (hlen : ∀ sig, parseMethodDescriptor y.desc = some sig → argsL.length = sig.parameters.length)
    (hstack : g.stack = argsL.reverse ++ .ref b :: rest) (hW : 2 * g.monitorRoom + (rest.map fun v => v.category).sum ≤ W9) (hdg : decode c.code g.pc = .ok (.invokevirtual index, 3))
    (hpre : ∀ vm₁, s.WarmedH vm₁ → Pre ⟨T.setVm vm₁, locs, cells, slots⟩ (Value.ref b :: argsL).toArray) :
    (∃ (v : Option Value) (vm₁ : Vm) (B : Pt), s.WarmedH vm₁ ∧ Stand p l e R s m args below meth c B.U B.locs B.cells B.slots ∧ Post ⟨T.setVm vm₁, locs, cells, slots⟩ (Value.ref b :: argsL).toArray v B ∧
      ∀ target, Steps p.tables e below (B.U.setTop { g with pc := g.pc + 3, stack := v.toList ++ rest }) target → Steps p.tables e below (T.setTop g) target) ∨
    (∃ (q : Addr) (vm₁ : Vm) (B : Pt), s.WarmedH vm₁ ∧ Stand p l e R s m args below meth c B.U B.locs B.cells B.slots ∧ PostX ⟨T.setVm vm₁, locs, cells, slots⟩ (Value.ref b :: argsL).toArray q B ∧
      Steps p.tables e below (T.setTop g) ((B.U.setTop { g with stack := rest }).pushFrame (.throwing q))) := by
  obtain ⟨mk, methM, hnamed, hmethM, hstM, habM⟩ := Cond.instanceMethod_spec hinst
  obtain ⟨m8, methM', cM, hn8, hmethM', -, -, -, -, -, -, hsigM⟩ := Cond.codeWith_spec hcode
  cases Option.some.inj (hn8.symm.trans hnamed)
  cases hmethM.symm.trans hmethM'
  obtain ⟨c2, r2, m2, q1, q2, q3, q4, kP, hkP, hkPi⟩ := Cond.selects_spec hsel
  cases hcls.symm.trans q1
  cases (State.methodFound?_of_named hnamed hy).symm.trans q2
  cases hnamed.symm.trans q3
  have hselP : selectMethod e.platform s.vm cellB.cls mk = .method mk := by rw [Launch.admits_selectMethod X.admits]; exact q4
  obtain ⟨vm₁, X₁, hstep₁⟩ := X.invokevirtual hexec hown hlink hnamed hmethM hstM hkP hkPi hy (a := b) (cell := cellB) hcell
    (fun z h => by rw [h] at hobj; cases hobj) hselP hmethM habM hkP hkPi (g := g) hg (argsL := argsL) (rest := rest) (hlen _ hsigM) hstack hdg
  rcases hK m meth c ⟨T.setVm vm₁, locs, cells, slots⟩ { g with stack := rest } (.invokevirtual index) mk (Value.ref b :: argsL).toArray X₁ hg hsize hdg hW (X₁.named hnamed) (hpre vm₁ X₁.warmed) with ⟨v, B, X', hpost, hsteps⟩ | ⟨q, B, X', hpost, hsteps⟩
  · exact Or.inl ⟨v, vm₁, B, X₁.warmed, X', hpost, fun target h => hstep₁ _ fun acts => by rw [doInvoke_state]; exact hsteps.trans h⟩
  · exact Or.inr ⟨q, vm₁, B, X₁.warmed, X', hpost, hstep₁ _ fun acts => by rw [doInvoke_state]; exact hsteps⟩
theorem vx_callSX (X : Stand p l e R s m args below meth c T locs cells slots) (hexec : p.tables.exec = Jvm.exec) {own : String} {index : Nat} {y : MethodName} {bytes : ByteArray} {maxL : Nat} {ret : Option FieldType} {hh : List (Nat × Nat × Nat × Nat)}
    (hown : s.vm.findClass own = some m.cls) (hlink : (Cond.methodLink own index y).before args s = true) (hstat : (Cond.static y).before args s = true) (hinit : (Cond.initialized y.cls).before args s = true)
    (hcode : (Cond.codeWith y bytes maxL ret hh).before args s = true) (hy : y.cls ≠ "java/lang/invoke/MethodHandle" ∧ y.cls ≠ "java/lang/invoke/VarHandle")
    {W9 : Nat} {Pre : Pt → Array Value → Prop} {Post : Pt → Array Value → Option Value → Pt → Prop} {PostX : Pt → Array Value → Addr → Pt → Prop} (hK : vx_Back l R p e below s args y 3 W9 Pre Post PostX)
    {g : JFrame} (hg : g.method = m) (hsize : g.locals.size = c.maxLocals) {argsL rest : List Value} (hlen : ∀ sig, parseMethodDescriptor y.desc = some sig → argsL.length = sig.parameters.length)
    (hstack : g.stack = argsL.reverse ++ rest) (hW : 2 * g.monitorRoom + (rest.map fun v => v.category).sum ≤ W9) (hdg : decode c.code g.pc = .ok (.invokestatic index, 3))
    (hpre : ∀ vm₁, s.WarmedH vm₁ → Pre ⟨T.setVm vm₁, locs, cells, slots⟩ argsL.toArray) :
    (∃ (v : Option Value) (vm₁ : Vm) (B : Pt), s.WarmedH vm₁ ∧ Stand p l e R s m args below meth c B.U B.locs B.cells B.slots ∧ Post ⟨T.setVm vm₁, locs, cells, slots⟩ argsL.toArray v B ∧
      ∀ target, Steps p.tables e below (B.U.setTop { g with pc := g.pc + 3, stack := v.toList ++ rest }) target → Steps p.tables e below (T.setTop g) target) ∨
    (∃ (q : Addr) (vm₁ : Vm) (B : Pt), s.WarmedH vm₁ ∧ Stand p l e R s m args below meth c B.U B.locs B.cells B.slots ∧ PostX ⟨T.setVm vm₁, locs, cells, slots⟩ argsL.toArray q B ∧
      Steps p.tables e below (T.setTop g) ((B.U.setTop { g with stack := rest }).pushFrame (.throwing q))) := by
  obtain ⟨mk, methM, cM, hnamed, hmethM, -, -, -, -, -, -, hsigM⟩ := Cond.codeWith_spec hcode
  have hstatic : methM.isStatic = true := Cond.static_spec hnamed hmethM hstat
  obtain ⟨kP, hkP, -⟩ := className_of_methodNamed hnamed
  have hinitP : kP.init = .initialized := Cond.initialized_spec (findClass_of_methodNamed hnamed) hkP hinit
  obtain ⟨vm₁, X₁, hstep₁⟩ := X.invokestatic hexec hown hlink hnamed hmethM hstatic hkP hinitP hy (g := g) hg (argsL := argsL) (rest := rest) (hlen _ hsigM) hstack hdg
  rcases hK m meth c ⟨T.setVm vm₁, locs, cells, slots⟩ { g with stack := rest } (.invokestatic index) mk argsL.toArray X₁ hg hsize hdg hW (X₁.named hnamed) (hpre vm₁ X₁.warmed) with ⟨v, B, X', hpost, hsteps⟩ | ⟨q, B, X', hpost, hsteps⟩
  · exact Or.inl ⟨v, vm₁, B, X₁.warmed, X', hpost, fun target h => hstep₁ _ fun acts => by rw [doInvoke_state]; exact hsteps.trans h⟩
  · exact Or.inr ⟨q, vm₁, B, X₁.warmed, X', hpost, hstep₁ _ fun acts => by rw [doInvoke_state]; exact hsteps⟩
theorem vx_callVW (X : Stand p l e R s m args below meth c T locs cells slots) (hexec : p.tables.exec = Jvm.exec) {own C : String} {index : Nat} {y : MethodName} {bytes : ByteArray} {maxL : Nat} {ret : Option FieldType} {hh : List (Nat × Nat × Nat × Nat)}
    (hown : s.vm.findClass own = some m.cls) (hlink : (Cond.methodLink own index y).before args s = true) (hinst : (Cond.instanceMethod y).before args s = true) (hsel : (Cond.selects C y y).before args s = true)
    (hcode : (Cond.codeWith y bytes maxL ret hh).before args s = true) (hy : y.cls ≠ "java/lang/invoke/MethodHandle" ∧ y.cls ≠ "java/lang/invoke/VarHandle")
    {W9 : Nat} {Pre : Pt → Array Value → Prop} {Post : Pt → Array Value → Option Value → Pt → Prop} (hK : Back l R p e below s args y 3 W9 Pre Post)
    {b : Addr} {cellB : Cell} (hcell : T.heap[b]? = some cellB) (hobj : cellB.vm.isStatics = false) (hcls : s.vm.findClass C = some cellB.cls)
    {g : JFrame} (hg : g.method = m) (hsize : g.locals.size = c.maxLocals) {argsL rest : List Value} (hlen : ∀ sig, parseMethodDescriptor y.desc = some sig → argsL.length = sig.parameters.length)
    (hstack : g.stack = argsL.reverse ++ .ref b :: rest) (hW : 2 * g.monitorRoom + (rest.map fun v => v.category).sum ≤ W9) (hdg : decode c.code g.pc = .ok (.invokevirtual index, 3))
    (hpre : ∀ vm₁, s.WarmedH vm₁ → Pre ⟨T.setVm vm₁, locs, cells, slots⟩ (Value.ref b :: argsL).toArray) :
    ∃ (v : Option Value) (vm₁ : Vm) (B : Pt), s.WarmedH vm₁ ∧ Stand p l e R s m args below meth c B.U B.locs B.cells B.slots ∧ Post ⟨T.setVm vm₁, locs, cells, slots⟩ (Value.ref b :: argsL).toArray v B ∧
      ∀ target, Steps p.tables e below (B.U.setTop { g with pc := g.pc + 3, stack := v.toList ++ rest }) target → Steps p.tables e below (T.setTop g) target := by
  obtain ⟨mk, methM, hnamed, hmethM, hstM, habM⟩ := Cond.instanceMethod_spec hinst
  obtain ⟨m8, methM', cM, hn8, hmethM', -, -, -, -, -, -, hsigM⟩ := Cond.codeWith_spec hcode
  cases Option.some.inj (hn8.symm.trans hnamed)
  cases hmethM.symm.trans hmethM'
  obtain ⟨c2, r2, m2, q1, q2, q3, q4, kP, hkP, hkPi⟩ := Cond.selects_spec hsel
  cases hcls.symm.trans q1
  cases (State.methodFound?_of_named hnamed hy).symm.trans q2
  cases hnamed.symm.trans q3
  have hselP : selectMethod e.platform s.vm cellB.cls mk = .method mk := by rw [Launch.admits_selectMethod X.admits]; exact q4
  obtain ⟨vm₁, X₁, hstep₁⟩ := X.invokevirtual hexec hown hlink hnamed hmethM hstM hkP hkPi hy (a := b) (cell := cellB) hcell
    (fun z h => by rw [h] at hobj; cases hobj) hselP hmethM habM hkP hkPi (g := g) hg (argsL := argsL) (rest := rest) (hlen _ hsigM) hstack hdg
  obtain ⟨v, B, X', hpost, hsteps⟩ := hK m meth c ⟨T.setVm vm₁, locs, cells, slots⟩ { g with stack := rest } (.invokevirtual index) mk (Value.ref b :: argsL).toArray X₁ hg hsize hdg hW (X₁.named hnamed) (hpre vm₁ X₁.warmed)
  exact ⟨v, vm₁, B, X₁.warmed, X', hpost, fun target h => hstep₁ _ fun acts => by rw [doInvoke_state]; exact hsteps.trans h⟩
abbrev vx_CVW (R : Room) (s : State) (args : Array Value) (own C : String) (index : Nat) (y : MethodName) (bytes : ByteArray) (maxL : Nat) (ret : Option FieldType) (hh : List (Nat × Nat × Nat × Nat)) (ws : List Cond) (rm : Room) (mc ms n : Nat) : Prop :=
  (rm.cells = mc ∧ rm.slots = ms ∧ rm.frames + 1 ≤ R.frames ∧ 8 + (maxL + 11) + rm.locals ≤ R.locals ∧ (∀ w ∈ ws, ∀ (a' : Array Value) (U : State), s.WarmedH U.vm → w.before a' U = true) ∧ Cond.codeWith y bytes maxL ret hh ∈ ws) ∧
  (Cond.codeWith y bytes maxL ret hh).before args s = true ∧ (Cond.initialized y.cls).before args s = true ∧ (y.cls ≠ "java/lang/invoke/MethodHandle" ∧ y.cls ≠ "java/lang/invoke/VarHandle") ∧
  (∀ sig, parseMethodDescriptor y.desc = some sig → n = sig.parameters.length) ∧ (Cond.methodLink own index y).before args s = true ∧ (Cond.instanceMethod y).before args s = true ∧ (Cond.selects C y y).before args s = true
theorem vx_cwVW {own C : String} {index maxL mc ms : Nat} {y : MethodName} {bytes : ByteArray} {ret : Option FieldType} {hh : List (Nat × Nat × Nat × Nat)} {Ts ws ws' : List Cond} {rm : Room} (n : Nat) (ht : ∀ w ∈ Ts, w.before args s = true) (hT : GoodIn Ts (wsV own index C y ws)) (hw : ws = Cond.codeWith y bytes maxL ret hh :: ws') (hrc : rm.cells = mc) (hrs : rm.slots = ms)
    (hd : y.cls = C ∧ y.cls ≠ "java/lang/invoke/MethodHandle" ∧ y.cls ≠ "java/lang/invoke/VarHandle" ∧ (parseMethodDescriptor y.desc).map (fun d => d.parameters.length) = some n) (hR : rm.frames + 1 ≤ R.frames ∧ 8 + (maxL + 11) + rm.locals ≤ R.locals) :
    vx_CVW R s args own C index y bytes maxL ret hh ws rm mc ms n := by
  obtain ⟨hC, hd⟩ := hd
  subst hC
  have ok : ∀ w ∈ wsV own index y.cls y ws, w.before args s = true := fun w h => ht w (hT w h).1
  have hG : GoodIn Ts ws := fun w h => hT w (by unfold wsV; exact List.mem_append_right _ h)
  have hc : Cond.codeWith y bytes maxL ret hh ∈ ws := by rw [hw]; exact List.mem_cons_self
  refine ⟨⟨hrc, hrs, hR.1, hR.2, pay_in ht hG, hc⟩, ht _ (hG _ hc).1, ok _ (by simp [wsV]), ⟨hd.1, hd.2.1⟩, fun sig h => ?_, ok _ (by simp [wsV]), ok _ (by simp [wsV]), ok _ (by simp [wsV])⟩
  have h2 := hd.2.2
  rw [h] at h2
  exact (Option.some.inj h2).symm
theorem vx_runVW {y : MethodName} {bytes cc : ByteArray} {maxL nL mc ms n index : Nat} {ret : Option FieldType} {hh : List (Nat × Nat × Nat × Nat)} {ws : List Cond} {rm : Room} {Pc : Array Value → State → Prop} {Qc : Array Value → State → Outcome → State → Prop} {free : Addr → Prop} {Ts : List Cond} {own C : String} {b : Addr} {As rest : List Value} {g : JFrame}
    (S : CallFix p m c cc nL s args Ts own) (hM : Met l y ws rm Pc Qc mc ms free) (cw : vx_CVW R s args own C index y bytes maxL ret hh ws rm mc ms n) (hp : PreV s H C b Pc As)
    (hg : g.method = m) (hn : As.length = n) (hsize : g.locals.size = nL) (hstack : g.stack = As.reverse ++ .ref b :: rest) (hW : 2 * g.monitorRoom + (rest.map fun v => v.category).sum ≤ 8) (hdg : decode cc g.pc = .ok (.invokevirtual index, 3)) (hf : cells + mc ≤ R.cells ∧ slots + ms ≤ R.slots) :
    va_Run p l e R s m args below meth c H locs cells slots mc ms g rest (Qc (Value.ref b :: As).toArray) free := by
  obtain ⟨⟨hrc, hrs, hfr, hlo, hws, hcw⟩, hcode, hini, hy, hlen, hl, hin, hse⟩ := cw
  have hK : Back l R p e below s args y 3 8 (PreOf R mc ms Pc) (PostOf Qc mc ms free) := va_backW (hh := hh) (bytes := bytes) (maxL := maxL) (ret := ret) hM hp.1 hrc hrs hfr hlo hws hcw (fun a' U hW => word_at hW (Or.inl (by first | rfl | simp [Cond.onTables, Cond.keeps, Cond.steady])) hini)
  obtain ⟨hx, hb, hml, ho, -⟩ := S
  obtain ⟨-, ⟨cellB, hcB, hoB, hclB⟩, hPc⟩ := hp
  intro T hT X
  obtain ⟨v, vm₁, ⟨U', l2, c2, s2⟩, hW₁, X', ⟨g', mk, t, L, e1, e2, hq, h1, hL, h2, h3⟩, st⟩ := vx_callVW X hx (C := C) (hh := hh) (bytes := bytes) (maxL := maxL) (ret := ret) ho hl hin hse hcode hy hK (by rw [hT]; exact hcB) hoB hclB hg (hsize.trans hml.symm) (argsL := As) (rest := rest) (fun sig h => hn.trans (hlen sig h)) hstack hW (by rw [hb]; exact hdg)
    (fun vm₁ hW₁ => ⟨hf.1, hf.2, hPc (T.setVm vm₁) hT hW₁⟩)
  dsimp only [Pt.U, Pt.locs, Pt.cells, Pt.slots] at X' e1 e2 h1 h2 h3 st
  subst h1; subst h2; subst h3
  exact ⟨v, (T.setVm vm₁).calling g' mk (Value.ref b :: As).toArray, t, U', L, hT, X', hL, e1, e2, hq, st⟩
section
variable {y : MethodName} {bytes cc : ByteArray} {maxL nL mc ms n index : Nat} {ret : Option FieldType} {ws : List Cond} {rm : Room} {Pc : Array Value → State → Prop} {Qc : Array Value → State → Outcome → State → Prop} {XC : String → State → State → Prop} {free : Addr → Prop} {Ts : List Cond} {own C : String} {b : Addr} {As rest : List Value} {g : JFrame}
theorem vx_runVX {hh : List (Nat × Nat × Nat × Nat)} (S : CallFix p m c cc nL s args Ts own) (hM : vx_Met l y ws rm Pc Qc XC mc ms free) (cw : vx_CVW R s args own C index y bytes maxL ret hh ws rm mc ms n) (hp : PreV s H C b Pc As)
    (hg : g.method = m) (hn : As.length = n) (hsize : g.locals.size = nL) (hstack : g.stack = As.reverse ++ .ref b :: rest) (hW : 2 * g.monitorRoom + (rest.map fun v => v.category).sum ≤ 8) (hdg : decode cc g.pc = .ok (.invokevirtual index, 3)) (hf : cells + mc ≤ R.cells ∧ slots + ms ≤ R.slots) :
    vx_Run p l e R s m args below meth c H locs cells slots mc ms g rest (Qc (Value.ref b :: As).toArray) XC free := by
  obtain ⟨⟨hrc, hrs, hfr, hlo, hws, hcw⟩, hcode, hini, hy, hlen, hl, hin, hse⟩ := cw
  have hK : vx_Back l R p e below s args y 3 8 (PreOf R mc ms Pc) (PostOf Qc mc ms free) (vx_Post XC mc ms free) := vx_backW (hh := hh) (bytes := bytes) (maxL := maxL) (ret := ret) hM hp.1 hrc hrs hfr hlo hws hcw (fun a' U hW => word_at hW (Or.inl (by first | rfl | simp [Cond.onTables, Cond.keeps, Cond.steady])) hini)
  obtain ⟨hx, hb, hml, ho, -⟩ := S
  obtain ⟨-, ⟨cellB, hcB, hoB, hclB⟩, hPc⟩ := hp
  intro T hT X
  rcases vx_callVX X hx (C := C) (hh := hh) (bytes := bytes) (maxL := maxL) (ret := ret) ho hl hin hse hcode hy hK (by rw [hT]; exact hcB) hoB hclB hg (hsize.trans hml.symm) (argsL := As) (rest := rest) (fun sig h => hn.trans (hlen sig h)) hstack hW (by rw [hb]; exact hdg)
    (fun vm₁ hW₁ => ⟨hf.1, hf.2, hPc (T.setVm vm₁) hT hW₁⟩) with ⟨v, vm₁, ⟨U', l2, c2, s2⟩, hW₁, X', ⟨g', mk, t, L, e1, e2, hq, h1, hL, h2, h3⟩, st⟩ | ⟨q, vm₁, ⟨U', l2, c2, s2⟩, hW₁, X', ⟨g', mk, t, L, E, ce, e1, e2, hq, hce, hcv, hcl, h1, hL, h2, h3⟩, st⟩
  · dsimp only [Pt.U, Pt.locs, Pt.cells, Pt.slots] at X' e1 e2 h1 h2 h3 st
    subst h1; subst h2; subst h3
    exact Or.inl ⟨v, (T.setVm vm₁).calling g' mk (Value.ref b :: As).toArray, t, U', L, hT, X', hL, e1, e2, hq, st⟩
  · dsimp only [Pt.U, Pt.locs, Pt.cells, Pt.slots] at X' e1 e2 h1 h2 h3 st hcl
    subst h1; subst h2; subst h3
    exact Or.inr ⟨q, (T.setVm vm₁).calling g' mk (Value.ref b :: As).toArray, t, U', L, E, ce, hT, X', hL, e1, e2, hq, hce, hcv, vx_cls hW₁ hcl, st⟩
theorem vx_runSX {hh : List (Nat × Nat × Nat × Nat)} (S : CallFix p m c cc nL s args Ts own) (hM : vx_Met l y ws rm Pc Qc XC mc ms free) (cw : vx_CSW R s args own index y bytes maxL ret hh ws rm mc ms n) (hp : PreS s H Pc As)
    (hg : g.method = m) (hn : As.length = n) (hsize : g.locals.size = nL) (hstack : g.stack = As.reverse ++ rest) (hW : 2 * g.monitorRoom + (rest.map fun v => v.category).sum ≤ 8) (hdg : decode cc g.pc = .ok (.invokestatic index, 3)) (hf : cells + mc ≤ R.cells ∧ slots + ms ≤ R.slots) :
    vx_Run p l e R s m args below meth c H locs cells slots mc ms g rest (Qc As.toArray) XC free := by
  obtain ⟨⟨hrc, hrs, hfr, hlo, hws, hcw⟩, hcode, hini, hy, hlen, hl, hstt⟩ := cw
  have hK : vx_Back l R p e below s args y 3 8 (PreOf R mc ms Pc) (PostOf Qc mc ms free) (vx_Post XC mc ms free) := vx_backW (hh := hh) (bytes := bytes) (maxL := maxL) (ret := ret) hM hp.1 hrc hrs hfr hlo hws hcw (fun a' U hW => word_at hW (Or.inl (by first | rfl | simp [Cond.onTables, Cond.keeps, Cond.steady])) hini)
  obtain ⟨hx, hb, hml, ho, -⟩ := S
  intro T hT X
  rcases vx_callSX X hx (hh := hh) (bytes := bytes) (maxL := maxL) (ret := ret) ho hl hstt hini hcode hy hK hg (hsize.trans hml.symm) (argsL := As) (rest := rest) (fun sig h => hn.trans (hlen sig h)) hstack hW (by rw [hb]; exact hdg)
    (fun vm₁ hW₁ => ⟨hf.1, hf.2, hp.2 (T.setVm vm₁) hT hW₁⟩) with ⟨v, vm₁, ⟨U', l2, c2, s2⟩, hW₁, X', ⟨g', mk, t, L, e1, e2, hq, h1, hL, h2, h3⟩, st⟩ | ⟨q, vm₁, ⟨U', l2, c2, s2⟩, hW₁, X', ⟨g', mk, t, L, E, ce, e1, e2, hq, hce, hcv, hcl, h1, hL, h2, h3⟩, st⟩
  · dsimp only [Pt.U, Pt.locs, Pt.cells, Pt.slots] at X' e1 e2 h1 h2 h3 st
    subst h1; subst h2; subst h3
    exact Or.inl ⟨v, (T.setVm vm₁).calling g' mk As.toArray, t, U', L, hT, X', hL, e1, e2, hq, st⟩
  · dsimp only [Pt.U, Pt.locs, Pt.cells, Pt.slots] at X' e1 e2 h1 h2 h3 st hcl
    subst h1; subst h2; subst h3
    exact Or.inr ⟨q, (T.setVm vm₁).calling g' mk As.toArray, t, U', L, E, ce, hT, X', hL, e1, e2, hq, hce, hcv, vx_cls hW₁ hcl, st⟩
end
end VXH
theorem vx_ofWH {l : Launch} {y : MethodName} {ws ws' : List Cond} {rm : Room} {Pc : Array Value → State → Prop} {Qc : Array Value → State → Outcome → State → Prop} {XC : String → State → State → Prop} {mc ms : Nat} {free : Addr → Prop} {cc : ByteArray} {maxL : Nat} {ret : Option FieldType} {hh : List (Nat × Nat × Nat × Nat)}
    (hy : plainName y.cls = true) (hw : ws = Cond.codeWith y cc maxL ret hh :: ws')
    (body : ∀ p e s m args below meth c s₁, BodyLoose p l y (headSpec ws rm) cc maxL ret e s m args below meth c s₁ → c.maxLocals = maxL → Pc args s →
      W p l e (headSpec ws rm).room s m args below meth c s.heap [] 0 0 (vx_MQ below Qc XC args s mc ms free) (entryFrame m args maxL)) : vx_Met l y ws rm Pc Qc XC mc ms free := by
  refine MetFree.of_bodyS (code := cc) (maxLocals := maxL) (ret := ret) hy ?_ ?_
  · intro args s m h hn
    obtain ⟨m9, meth, c, hn9, h1, h2, h3, h4, -, h5, h6, -⟩ := Cond.codeWith_spec (atoms_spec (ws := ws) h _ (by rw [hw]; exact List.mem_cons_self))
    cases hn.symm.trans hn9
    exact ⟨meth, c, h1, h2, h3, h4, h5, h6⟩
  · intro p e s m args below meth c s₁ B hml hP _
    have hh0 : s₁.heap = s.heap := by rw [B.state]; rfl
    obtain ⟨t, a1, o, b1, b2, b3⟩ := body p e s m args below meth c s₁ B hml hP s₁ hh0 (Stand.of_body B)
    exact ⟨t, o, a1, b1, b2, b3⟩
/-! ===== END ===== -/
end
section
/-! ===== BEGIN printed: names, fields, word lists, decode rows ===== -/
def RX0 : String := "TaxEqualiser$Bonus"
def TX0 : u_T := fun k => match k with
  | 0 => ("TaxEqualiser$Bonus", "coins", "I", true)
  | 1 => ("TaxEqualiser$Bonus", "from", "I", true)
  | _ => ("TaxEqualiser$Bonus", "to", "I", true)
def tyX0 : Nat → FieldType := fun k => match k with
  | 0 => .int
  | 1 => .int
  | _ => .int
abbrev wsX00 : List Cond := u_ws RX0 TX0 3
theorem nmX0 : ∀ a, a < 3 → ∀ b, b < 3 → a ≠ b → (TX0 a).2.1 ≠ (TX0 b).2.1 := by decide +kernel
theorem tyX0_ok : ∀ k, k < 3 → parseFieldDescriptor (TX0 k).2.2.1 = some (tyX0 k) := by decide +kernel
abbrev cX0_init : ByteArray := prog_2_method_1_code
def yX0_init : MethodName := ⟨RX0, "<init>", "(III)V"⟩
def RX1 : String := "TaxEqualiser$Land"
def TX1 : u_T := fun k => match k with
  | 0 => ("TaxEqualiser$Land", "lower", "I", false)
  | 1 => ("TaxEqualiser$Land", "upper", "I", false)
  | 2 => ("TaxEqualiser$Land", "first", "I", false)
  | 3 => ("TaxEqualiser$Land", "second", "I", false)
  | _ => ("TaxEqualiser$Land", "third", "I", false)
def tyX1 : Nat → FieldType := fun k => match k with
  | 0 => .int
  | 1 => .int
  | 2 => .int
  | 3 => .int
  | _ => .int
abbrev wsX10 : List Cond := u_ws RX1 TX1 5
theorem nmX1 : ∀ a, a < 5 → ∀ b, b < 5 → a ≠ b → (TX1 a).2.1 ≠ (TX1 b).2.1 := by decide +kernel
theorem tyX1_ok : ∀ k, k < 5 → parseFieldDescriptor (TX1 k).2.2.1 = some (tyX1 k) := by decide +kernel
abbrev cX1_init : ByteArray := prog_3_method_1_code
def yX1_init : MethodName := ⟨RX1, "<init>", "()V"⟩
abbrev cX1_limit : ByteArray := prog_3_method_2_code
def yX1_limit : MethodName := ⟨RX1, "limit", "(II)V"⟩
abbrev cX1_rate : ByteArray := prog_3_method_3_code
def yX1_rate : MethodName := ⟨RX1, "rate", "(III)V"⟩
abbrev cX1_taxOf : ByteArray := prog_3_method_4_code
def yX1_taxOf : MethodName := ⟨RX1, "taxOf", "(I)I"⟩
abbrev cX1_grossTaxOf : ByteArray := prog_3_method_5_code
def yX1_grossTaxOf : MethodName := ⟨RX1, "grossTaxOf", "(I)I"⟩
abbrev cX1_grossTaxTried : ByteArray := prog_3_method_6_code
def yX1_grossTaxTried : MethodName := ⟨RX1, "grossTaxTried", "(I)I"⟩
abbrev cX1_mostGrossTax : ByteArray := prog_3_method_7_code
def yX1_mostGrossTax : MethodName := ⟨RX1, "mostGrossTax", "(I)I"⟩
def RX2 : String := "TaxEqualiser$Person"
def TX2 : u_T := fun k => match k with
  | 0 => ("TaxEqualiser$Person", "home", "LTaxEqualiser$Land;", true)
  | 1 => ("TaxEqualiser$Person", "host", "LTaxEqualiser$Land;", true)
  | 2 => ("TaxEqualiser$Person", "bonuses", "Ljava/util/List;", true)
  | 3 => ("TaxEqualiser$Person", "pay", "I", false)
  | 4 => ("TaxEqualiser$Person", "abroadFrom", "I", false)
  | 5 => ("TaxEqualiser$Person", "abroadTo", "I", false)
  | 6 => ("TaxEqualiser$Person", "rent", "I", false)
  | _ => ("TaxEqualiser$Person", "norm", "I", false)
def tyX2 : Nat → FieldType := fun k => match k with
  | 0 => .object "TaxEqualiser$Land"
  | 1 => .object "TaxEqualiser$Land"
  | 2 => .object "java/util/List"
  | 3 => .int
  | 4 => .int
  | 5 => .int
  | 6 => .int
  | _ => .int
abbrev wsX20 : List Cond := u_ws RX2 TX2 8
theorem nmX2 : ∀ a, a < 8 → ∀ b, b < 8 → a ≠ b → (TX2 a).2.1 ≠ (TX2 b).2.1 := by decide +kernel
theorem tyX2_ok : ∀ k, k < 8 → parseFieldDescriptor (TX2 k).2.2.1 = some (tyX2 k) := by decide +kernel
abbrev cX2_init : ByteArray := prog_4_method_1_code
def yX2_init : MethodName := ⟨RX2, "<init>", "(LTaxEqualiser$Land;LTaxEqualiser$Land;I)V"⟩
abbrev cX2_monthsAbroad : ByteArray := prog_4_method_2_code
def yX2_monthsAbroad : MethodName := ⟨RX2, "monthsAbroad", "()I"⟩
abbrev cX2_isAbroadIn : ByteArray := prog_4_method_3_code
def yX2_isAbroadIn : MethodName := ⟨RX2, "isAbroadIn", "(I)Z"⟩
abbrev cX2_ownShare : ByteArray := prog_4_method_4_code
def yX2_ownShare : MethodName := ⟨RX2, "ownShare", "()I"⟩
abbrev cX2_partAbroad : ByteArray := prog_4_method_5_code
def yX2_partAbroad : MethodName := ⟨RX2, "partAbroad", "(LTaxEqualiser$Bonus;)I"⟩
abbrev cX2_wholeIncome : ByteArray := prog_4_method_6_code
def yX2_wholeIncome : MethodName := ⟨RX2, "wholeIncome", "()I"⟩
abbrev cX2_heldEachMonth : ByteArray := prog_4_method_7_code
def yX2_heldEachMonth : MethodName := ⟨RX2, "heldEachMonth", "()I"⟩
abbrev cX2_heldInYear : ByteArray := prog_4_method_8_code
def yX2_heldInYear : MethodName := ⟨RX2, "heldInYear", "()I"⟩
abbrev cX2_housingInYear : ByteArray := prog_4_method_9_code
def yX2_housingInYear : MethodName := ⟨RX2, "housingInYear", "()I"⟩
abbrev cX2_supposedTaxOfYear : ByteArray := prog_4_method_10_code
def yX2_supposedTaxOfYear : MethodName := ⟨RX2, "supposedTaxOfYear", "()I"⟩
abbrev cX2_incomeAtHome : ByteArray := prog_4_method_11_code
def yX2_incomeAtHome : MethodName := ⟨RX2, "incomeAtHome", "()I"⟩
abbrev cX2_taxAtHome : ByteArray := prog_4_method_12_code
def yX2_taxAtHome : MethodName := ⟨RX2, "taxAtHome", "()I"⟩
abbrev cX2_incomeAtHost : ByteArray := prog_4_method_13_code
def yX2_incomeAtHost : MethodName := ⟨RX2, "incomeAtHost", "()I"⟩
abbrev cX2_taxAtHost : ByteArray := prog_4_method_14_code
def yX2_taxAtHost : MethodName := ⟨RX2, "taxAtHost", "()I"⟩
abbrev cX2_borneInYear : ByteArray := prog_4_method_15_code
def yX2_borneInYear : MethodName := ⟨RX2, "borneInYear", "()I"⟩
abbrev cX2_settlementOfYear : ByteArray := prog_4_method_16_code
def yX2_settlementOfYear : MethodName := ⟨RX2, "settlementOfYear", "()I"⟩
abbrev cX2_costOfYear : ByteArray := prog_4_method_17_code
def yX2_costOfYear : MethodName := ⟨RX2, "costOfYear", "()I"⟩
def RX3 : String := "TaxEqualiser"
def TX3 : u_T := fun k => match k with
  | 0 => ("TaxEqualiser", "lands", "Ljava/util/List;", true)
  | _ => ("TaxEqualiser", "staff", "Ljava/util/List;", true)
def tyX3 : Nat → FieldType := fun k => match k with
  | 0 => .object "java/util/List"
  | _ => .object "java/util/List"
abbrev wsX30 : List Cond := u_ws RX3 TX3 2
theorem nmX3 : ∀ a, a < 2 → ∀ b, b < 2 → a ≠ b → (TX3 a).2.1 ≠ (TX3 b).2.1 := by decide +kernel
theorem tyX3_ok : ∀ k, k < 2 → parseFieldDescriptor (TX3 k).2.2.1 = some (tyX3 k) := by decide +kernel
abbrev cX3_init : ByteArray := prog_1_method_1_code
def yX3_init : MethodName := ⟨RX3, "<init>", "()V"⟩
abbrev cX3_setLimits : ByteArray := prog_1_method_2_code
def yX3_setLimits : MethodName := ⟨RX3, "setLimits", "(III)V"⟩
abbrev cX3_setRates : ByteArray := prog_1_method_3_code
def yX3_setRates : MethodName := ⟨RX3, "setRates", "(IIII)V"⟩
abbrev cX3_tax : ByteArray := prog_1_method_4_code
def yX3_tax : MethodName := ⟨RX3, "tax", "(II)I"⟩
abbrev cX3_grossTax : ByteArray := prog_1_method_5_code
def yX3_grossTax : MethodName := ⟨RX3, "grossTax", "(II)I"⟩
abbrev cX3_grossTaxByTrying : ByteArray := prog_1_method_6_code
def yX3_grossTaxByTrying : MethodName := ⟨RX3, "grossTaxByTrying", "(II)I"⟩
abbrev cX3_add : ByteArray := prog_1_method_7_code
def yX3_add : MethodName := ⟨RX3, "add", "(III)I"⟩
abbrev cX3_setAbroad : ByteArray := prog_1_method_8_code
def yX3_setAbroad : MethodName := ⟨RX3, "setAbroad", "(III)I"⟩
abbrev cX3_setPay : ByteArray := prog_1_method_9_code
def yX3_setPay : MethodName := ⟨RX3, "setPay", "(II)I"⟩
abbrev cX3_setHousing : ByteArray := prog_1_method_10_code
def yX3_setHousing : MethodName := ⟨RX3, "setHousing", "(III)I"⟩
abbrev cX3_addBonus : ByteArray := prog_1_method_11_code
def yX3_addBonus : MethodName := ⟨RX3, "addBonus", "(IIII)I"⟩
abbrev cX3_people : ByteArray := prog_1_method_12_code
def yX3_people : MethodName := ⟨RX3, "people", "()I"⟩
abbrev cX3_abroadPart : ByteArray := prog_1_method_13_code
def yX3_abroadPart : MethodName := ⟨RX3, "abroadPart", "(II)I"⟩
abbrev cX3_held : ByteArray := prog_1_method_14_code
def yX3_held : MethodName := ⟨RX3, "held", "(II)I"⟩
abbrev cX3_supposedTax : ByteArray := prog_1_method_15_code
def yX3_supposedTax : MethodName := ⟨RX3, "supposedTax", "(I)I"⟩
abbrev cX3_homeIncome : ByteArray := prog_1_method_16_code
def yX3_homeIncome : MethodName := ⟨RX3, "homeIncome", "(I)I"⟩
abbrev cX3_homeTax : ByteArray := prog_1_method_17_code
def yX3_homeTax : MethodName := ⟨RX3, "homeTax", "(I)I"⟩
abbrev cX3_hostIncome : ByteArray := prog_1_method_18_code
def yX3_hostIncome : MethodName := ⟨RX3, "hostIncome", "(I)I"⟩
abbrev cX3_hostTax : ByteArray := prog_1_method_19_code
def yX3_hostTax : MethodName := ⟨RX3, "hostTax", "(I)I"⟩
abbrev cX3_borne : ByteArray := prog_1_method_20_code
def yX3_borne : MethodName := ⟨RX3, "borne", "(I)I"⟩
abbrev cX3_settlement : ByteArray := prog_1_method_21_code
def yX3_settlement : MethodName := ⟨RX3, "settlement", "(I)I"⟩
abbrev cX3_cost : ByteArray := prog_1_method_22_code
def yX3_cost : MethodName := ⟨RX3, "cost", "(I)I"⟩
abbrev cX3_dearest : ByteArray := prog_1_method_23_code
def yX3_dearest : MethodName := ⟨RX3, "dearest", "()I"⟩
abbrev cX3_landAt : ByteArray := prog_1_method_24_code
def yX3_landAt : MethodName := ⟨RX3, "landAt", "(I)LTaxEqualiser$Land;"⟩
abbrev cX3_personAt : ByteArray := prog_1_method_25_code
def yX3_personAt : MethodName := ⟨RX3, "personAt", "(I)LTaxEqualiser$Person;"⟩
abbrev cX3_requireRange : ByteArray := prog_1_method_26_code
def yX3_requireRange : MethodName := ⟨RX3, "requireRange", "(III)V"⟩
def RX4 : String := "TaxEqualiserModel"
def TX4 : u_T := fun k => match k with
  | 0 => ("TaxEqualiserModel", "thrown", "I", false)
  | 1 => ("TaxEqualiserModel", "lower", "[I", true)
  | 2 => ("TaxEqualiserModel", "upper", "[I", true)
  | 3 => ("TaxEqualiserModel", "rate", "[I", true)
  | 4 => ("TaxEqualiserModel", "people", "I", false)
  | 5 => ("TaxEqualiserModel", "home", "[I", true)
  | 6 => ("TaxEqualiserModel", "host", "[I", true)
  | 7 => ("TaxEqualiserModel", "pay", "[I", true)
  | 8 => ("TaxEqualiserModel", "out", "[I", true)
  | 9 => ("TaxEqualiserModel", "back", "[I", true)
  | 10 => ("TaxEqualiserModel", "rent", "[I", true)
  | 11 => ("TaxEqualiserModel", "norm", "[I", true)
  | 12 => ("TaxEqualiserModel", "bonuses", "[I", true)
  | 13 => ("TaxEqualiserModel", "coins", "[I", true)
  | 14 => ("TaxEqualiserModel", "first", "[I", true)
  | _ => ("TaxEqualiserModel", "behind", "[I", true)
def tyX4 : Nat → FieldType := fun k => match k with
  | 0 => .int
  | 1 => .array .int
  | 2 => .array .int
  | 3 => .array .int
  | 4 => .int
  | 5 => .array .int
  | 6 => .array .int
  | 7 => .array .int
  | 8 => .array .int
  | 9 => .array .int
  | 10 => .array .int
  | 11 => .array .int
  | 12 => .array .int
  | 13 => .array .int
  | 14 => .array .int
  | _ => .array .int
abbrev wsX40 : List Cond := u_ws RX4 TX4 16
theorem nmX4 : ∀ a, a < 16 → ∀ b, b < 16 → a ≠ b → (TX4 a).2.1 ≠ (TX4 b).2.1 := by decide +kernel
theorem tyX4_ok : ∀ k, k < 16 → parseFieldDescriptor (TX4 k).2.2.1 = some (tyX4 k) := by decide +kernel
abbrev cX4_init : ByteArray := prog_6_method_1_code
def yX4_init : MethodName := ⟨RX4, "<init>", "()V"⟩
abbrev cX4_thrown : ByteArray := prog_6_method_2_code
def yX4_thrown : MethodName := ⟨RX4, "thrown", "()I"⟩
abbrev cX4_fails : ByteArray := prog_6_method_3_code
def yX4_fails : MethodName := ⟨RX4, "fails", "(I)I"⟩
abbrev cX4_in : ByteArray := prog_6_method_4_code
def yX4_in : MethodName := ⟨RX4, "in", "(III)Z"⟩
abbrev cX4_isLand : ByteArray := prog_6_method_5_code
def yX4_isLand : MethodName := ⟨RX4, "isLand", "(I)Z"⟩
abbrev cX4_isAsked : ByteArray := prog_6_method_6_code
def yX4_isAsked : MethodName := ⟨RX4, "isAsked", "(I)Z"⟩
abbrev cX4_taxOf : ByteArray := prog_6_method_7_code
def yX4_taxOf : MethodName := ⟨RX4, "taxOf", "(IJ)J"⟩
abbrev cX4_gross : ByteArray := prog_6_method_8_code
def yX4_gross : MethodName := ⟨RX4, "gross", "(IJ)I"⟩
abbrev cX4_setLimits : ByteArray := prog_6_method_9_code
def yX4_setLimits : MethodName := ⟨RX4, "setLimits", "(III)V"⟩
abbrev cX4_setRates : ByteArray := prog_6_method_10_code
def yX4_setRates : MethodName := ⟨RX4, "setRates", "(IIII)V"⟩
abbrev cX4_tax : ByteArray := prog_6_method_11_code
def yX4_tax : MethodName := ⟨RX4, "tax", "(II)I"⟩
abbrev cX4_grossTax : ByteArray := prog_6_method_12_code
def yX4_grossTax : MethodName := ⟨RX4, "grossTax", "(II)I"⟩
abbrev cX4_grossTaxByTrying : ByteArray := prog_6_method_13_code
def yX4_grossTaxByTrying : MethodName := ⟨RX4, "grossTaxByTrying", "(II)I"⟩
abbrev cX4_add : ByteArray := prog_6_method_14_code
def yX4_add : MethodName := ⟨RX4, "add", "(III)I"⟩
abbrev cX4_setAbroad : ByteArray := prog_6_method_15_code
def yX4_setAbroad : MethodName := ⟨RX4, "setAbroad", "(III)I"⟩
abbrev cX4_setPay : ByteArray := prog_6_method_16_code
def yX4_setPay : MethodName := ⟨RX4, "setPay", "(II)I"⟩
abbrev cX4_own : ByteArray := prog_6_method_17_code
def yX4_own : MethodName := ⟨RX4, "own", "(I)I"⟩
abbrev cX4_setHousing : ByteArray := prog_6_method_18_code
def yX4_setHousing : MethodName := ⟨RX4, "setHousing", "(III)I"⟩
abbrev cX4_addBonus : ByteArray := prog_6_method_19_code
def yX4_addBonus : MethodName := ⟨RX4, "addBonus", "(IIII)I"⟩
abbrev cX4_people : ByteArray := prog_6_method_20_code
def yX4_people : MethodName := ⟨RX4, "people", "()I"⟩
abbrev cX4_part : ByteArray := prog_6_method_21_code
def yX4_part : MethodName := ⟨RX4, "part", "(II)I"⟩
abbrev cX4_abroadPart : ByteArray := prog_6_method_22_code
def yX4_abroadPart : MethodName := ⟨RX4, "abroadPart", "(II)I"⟩
abbrev cX4_parts : ByteArray := prog_6_method_23_code
def yX4_parts : MethodName := ⟨RX4, "parts", "(I)I"⟩
abbrev cX4_whole : ByteArray := prog_6_method_24_code
def yX4_whole : MethodName := ⟨RX4, "whole", "(I)I"⟩
abbrev cX4_months : ByteArray := prog_6_method_25_code
def yX4_months : MethodName := ⟨RX4, "months", "(I)I"⟩
abbrev cX4_heldOf : ByteArray := prog_6_method_26_code
def yX4_heldOf : MethodName := ⟨RX4, "heldOf", "(I)I"⟩
abbrev cX4_supposed : ByteArray := prog_6_method_27_code
def yX4_supposed : MethodName := ⟨RX4, "supposed", "(I)I"⟩
abbrev cX4_atHome : ByteArray := prog_6_method_28_code
def yX4_atHome : MethodName := ⟨RX4, "atHome", "(I)I"⟩
abbrev cX4_taxAtHome : ByteArray := prog_6_method_29_code
def yX4_taxAtHome : MethodName := ⟨RX4, "taxAtHome", "(I)I"⟩
abbrev cX4_abroad : ByteArray := prog_6_method_30_code
def yX4_abroad : MethodName := ⟨RX4, "abroad", "(I)I"⟩
abbrev cX4_bears : ByteArray := prog_6_method_31_code
def yX4_bears : MethodName := ⟨RX4, "bears", "(I)I"⟩
abbrev cX4_costOf : ByteArray := prog_6_method_32_code
def yX4_costOf : MethodName := ⟨RX4, "costOf", "(I)I"⟩
abbrev cX4_held : ByteArray := prog_6_method_33_code
def yX4_held : MethodName := ⟨RX4, "held", "(II)I"⟩
abbrev cX4_supposedTax : ByteArray := prog_6_method_34_code
def yX4_supposedTax : MethodName := ⟨RX4, "supposedTax", "(I)I"⟩
abbrev cX4_homeIncome : ByteArray := prog_6_method_35_code
def yX4_homeIncome : MethodName := ⟨RX4, "homeIncome", "(I)I"⟩
abbrev cX4_homeTax : ByteArray := prog_6_method_36_code
def yX4_homeTax : MethodName := ⟨RX4, "homeTax", "(I)I"⟩
abbrev cX4_hostIncome : ByteArray := prog_6_method_37_code
def yX4_hostIncome : MethodName := ⟨RX4, "hostIncome", "(I)I"⟩
abbrev cX4_hostTax : ByteArray := prog_6_method_38_code
def yX4_hostTax : MethodName := ⟨RX4, "hostTax", "(I)I"⟩
abbrev cX4_borne : ByteArray := prog_6_method_39_code
def yX4_borne : MethodName := ⟨RX4, "borne", "(I)I"⟩
abbrev cX4_settlement : ByteArray := prog_6_method_40_code
def yX4_settlement : MethodName := ⟨RX4, "settlement", "(I)I"⟩
abbrev cX4_cost : ByteArray := prog_6_method_41_code
def yX4_cost : MethodName := ⟨RX4, "cost", "(I)I"⟩
abbrev cX4_dearest : ByteArray := prog_6_method_42_code
def yX4_dearest : MethodName := ⟨RX4, "dearest", "()I"⟩
def RJx145de : String := "java/io/Serializable"
def TJx145de : u_T := fun k => match k with
  | _ => ("", "", "", false)
def tyJx145de : Nat → FieldType := fun k => match k with
  | _ => .int
abbrev wsJx145de0 : List Cond := u_ws RJx145de TJx145de 0
theorem nmJx145de : ∀ a, a < 0 → ∀ b, b < 0 → a ≠ b → (TJx145de a).2.1 ≠ (TJx145de b).2.1 := by decide +kernel
theorem tyJx145de_ok : ∀ k, k < 0 → parseFieldDescriptor (TJx145de k).2.2.1 = some (tyJx145de k) := by decide +kernel
def RJx8e188 : String := "java/lang/Cloneable"
def TJx8e188 : u_T := fun k => match k with
  | _ => ("", "", "", false)
def tyJx8e188 : Nat → FieldType := fun k => match k with
  | _ => .int
abbrev wsJx8e1880 : List Cond := u_ws RJx8e188 TJx8e188 0
theorem nmJx8e188 : ∀ a, a < 0 → ∀ b, b < 0 → a ≠ b → (TJx8e188 a).2.1 ≠ (TJx8e188 b).2.1 := by decide +kernel
theorem tyJx8e188_ok : ∀ k, k < 0 → parseFieldDescriptor (TJx8e188 k).2.2.1 = some (tyJx8e188 k) := by decide +kernel
def RJxab1ab : String := "java/lang/Iterable"
def TJxab1ab : u_T := fun k => match k with
  | _ => ("", "", "", false)
def tyJxab1ab : Nat → FieldType := fun k => match k with
  | _ => .int
abbrev wsJxab1ab0 : List Cond := u_ws RJxab1ab TJxab1ab 0
theorem nmJxab1ab : ∀ a, a < 0 → ∀ b, b < 0 → a ≠ b → (TJxab1ab a).2.1 ≠ (TJxab1ab b).2.1 := by decide +kernel
theorem tyJxab1ab_ok : ∀ k, k < 0 → parseFieldDescriptor (TJxab1ab k).2.2.1 = some (tyJxab1ab k) := by decide +kernel
def RJ9 : String := "java/lang/Math"
def TJ9 : u_T := fun k => match k with
  | _ => ("", "", "", false)
def tyJ9 : Nat → FieldType := fun k => match k with
  | _ => .int
abbrev wsJ90 : List Cond := u_ws RJ9 TJ9 0
theorem nmJ9 : ∀ a, a < 0 → ∀ b, b < 0 → a ≠ b → (TJ9 a).2.1 ≠ (TJ9 b).2.1 := by decide +kernel
theorem tyJ9_ok : ∀ k, k < 0 → parseFieldDescriptor (TJ9 k).2.2.1 = some (tyJ9 k) := by decide +kernel
abbrev cJ9_max_7cf53 : ByteArray := prog_14_method_65_code
def yJ9_max_7cf53 : MethodName := ⟨RJ9, "max", "(II)I"⟩
abbrev cJ9_min_7cf53 : ByteArray := prog_14_method_69_code
def yJ9_min_7cf53 : MethodName := ⟨RJ9, "min", "(II)I"⟩
def RJ0 : String := "java/lang/String"
def TJ0 : u_T := fun k => match k with
  | _ => ("", "", "", false)
def tyJ0 : Nat → FieldType := fun k => match k with
  | _ => .int
abbrev wsJ00 : List Cond := u_ws RJ0 TJ0 0
theorem nmJ0 : ∀ a, a < 0 → ∀ b, b < 0 → a ≠ b → (TJ0 a).2.1 ≠ (TJ0 b).2.1 := by decide +kernel
theorem tyJ0_ok : ∀ k, k < 0 → parseFieldDescriptor (TJ0 k).2.2.1 = some (tyJ0 k) := by decide +kernel
def RJ10 : String := "java/lang/System"
def TJ10 : u_T := fun k => match k with
  | _ => ("", "", "", false)
def tyJ10 : Nat → FieldType := fun k => match k with
  | _ => .int
abbrev wsJ100 : List Cond := u_ws RJ10 TJ10 0
theorem nmJ10 : ∀ a, a < 0 → ∀ b, b < 0 → a ≠ b → (TJ10 a).2.1 ≠ (TJ10 b).2.1 := by decide +kernel
theorem tyJ10_ok : ∀ k, k < 0 → parseFieldDescriptor (TJ10 k).2.2.1 = some (tyJ10 k) := by decide +kernel
def RJxa1e45 : String := "java/util/AbstractCollection"
def TJxa1e45 : u_T := fun k => match k with
  | _ => ("", "", "", false)
def tyJxa1e45 : Nat → FieldType := fun k => match k with
  | _ => .int
abbrev wsJxa1e450 : List Cond := u_ws RJxa1e45 TJxa1e45 0
theorem nmJxa1e45 : ∀ a, a < 0 → ∀ b, b < 0 → a ≠ b → (TJxa1e45 a).2.1 ≠ (TJxa1e45 b).2.1 := by decide +kernel
theorem tyJxa1e45_ok : ∀ k, k < 0 → parseFieldDescriptor (TJxa1e45 k).2.2.1 = some (tyJxa1e45 k) := by decide +kernel
abbrev cJxa1e45_init_da8c8 : ByteArray := prog_19_method_1_code
def yJxa1e45_init_da8c8 : MethodName := ⟨RJxa1e45, "<init>", "()V"⟩
def RJxc12de : String := "java/util/AbstractList"
def TJxc12de : u_T := fun k => match k with
  | _ => ("", "", "", false)
def tyJxc12de : Nat → FieldType := fun k => match k with
  | _ => .int
abbrev wsJxc12de0 : List Cond := u_ws RJxc12de TJxc12de 0
theorem nmJxc12de : ∀ a, a < 0 → ∀ b, b < 0 → a ≠ b → (TJxc12de a).2.1 ≠ (TJxc12de b).2.1 := by decide +kernel
theorem tyJxc12de_ok : ∀ k, k < 0 → parseFieldDescriptor (TJxc12de k).2.2.1 = some (tyJxc12de k) := by decide +kernel
abbrev cJxc12de_init_da8c8 : ByteArray := prog_20_method_1_code
def yJxc12de_init_da8c8 : MethodName := ⟨RJxc12de, "<init>", "()V"⟩
def RJx4a65c : String := "java/util/ArrayList"
def TJx4a65c : u_T := fun k => match k with
  | 0 => ("java/util/AbstractList", "modCount", "I", false)
  | 1 => ("java/util/ArrayList", "elementData", "[Ljava/lang/Object;", false)
  | _ => ("java/util/ArrayList", "size", "I", false)
def tyJx4a65c : Nat → FieldType := fun k => match k with
  | 0 => .int
  | 1 => .array (.object "java/lang/Object")
  | _ => .int
abbrev wsJx4a65c0 : List Cond := u_ws RJx4a65c TJx4a65c 3
theorem nmJx4a65c : ∀ a, a < 3 → ∀ b, b < 3 → a ≠ b → (TJx4a65c a).2.1 ≠ (TJx4a65c b).2.1 := by decide +kernel
theorem tyJx4a65c_ok : ∀ k, k < 3 → parseFieldDescriptor (TJx4a65c k).2.2.1 = some (tyJx4a65c k) := by decide +kernel
abbrev cJx4a65c_init_da8c8 : ByteArray := prog_21_method_2_code
def yJx4a65c_init_da8c8 : MethodName := ⟨RJx4a65c, "<init>", "()V"⟩
abbrev cJx4a65c_grow_92f84 : ByteArray := prog_21_method_6_code
def yJx4a65c_grow_92f84 : MethodName := ⟨RJx4a65c, "grow", "(I)[Ljava/lang/Object;"⟩
abbrev cJx4a65c_grow_d5877 : ByteArray := prog_21_method_7_code
def yJx4a65c_grow_d5877 : MethodName := ⟨RJx4a65c, "grow", "()[Ljava/lang/Object;"⟩
abbrev cJx4a65c_size_8abf5 : ByteArray := prog_21_method_8_code
def yJx4a65c_size_8abf5 : MethodName := ⟨RJx4a65c, "size", "()I"⟩
abbrev cJx4a65c_elementData_915e3 : ByteArray := prog_21_method_18_code
def yJx4a65c_elementData_915e3 : MethodName := ⟨RJx4a65c, "elementData", "(I)Ljava/lang/Object;"⟩
abbrev cJx4a65c_get_915e3 : ByteArray := prog_21_method_20_code
def yJx4a65c_get_915e3 : MethodName := ⟨RJx4a65c, "get", "(I)Ljava/lang/Object;"⟩
abbrev cJx4a65c_add_72be8 : ByteArray := prog_21_method_24_code
def yJx4a65c_add_72be8 : MethodName := ⟨RJx4a65c, "add", "(Ljava/lang/Object;[Ljava/lang/Object;I)V"⟩
abbrev cJx4a65c_add_9ea2d : ByteArray := prog_21_method_25_code
def yJx4a65c_add_9ea2d : MethodName := ⟨RJx4a65c, "add", "(Ljava/lang/Object;)Z"⟩
def RJ7 : String := "java/util/Arrays"
def TJ7 : u_T := fun k => match k with
  | _ => ("", "", "", false)
def tyJ7 : Nat → FieldType := fun k => match k with
  | _ => .int
abbrev wsJ70 : List Cond := u_ws RJ7 TJ7 0
theorem nmJ7 : ∀ a, a < 0 → ∀ b, b < 0 → a ≠ b → (TJ7 a).2.1 ≠ (TJ7 b).2.1 := by decide +kernel
theorem tyJ7_ok : ∀ k, k < 0 → parseFieldDescriptor (TJ7 k).2.2.1 = some (tyJ7 k) := by decide +kernel
abbrev cJ7_copyOf_1904c : ByteArray := prog_22_method_119_code
def yJ7_copyOf_1904c : MethodName := ⟨RJ7, "copyOf", "([Ljava/lang/Object;I)[Ljava/lang/Object;"⟩
abbrev cJ7_copyOf_6403c : ByteArray := prog_22_method_120_code
def yJ7_copyOf_6403c : MethodName := ⟨RJ7, "copyOf", "([Ljava/lang/Object;ILjava/lang/Class;)[Ljava/lang/Object;"⟩
def RJx5ef63 : String := "java/util/Collection"
def TJx5ef63 : u_T := fun k => match k with
  | _ => ("", "", "", false)
def tyJx5ef63 : Nat → FieldType := fun k => match k with
  | _ => .int
abbrev wsJx5ef630 : List Cond := u_ws RJx5ef63 TJx5ef63 0
theorem nmJx5ef63 : ∀ a, a < 0 → ∀ b, b < 0 → a ≠ b → (TJx5ef63 a).2.1 ≠ (TJx5ef63 b).2.1 := by decide +kernel
theorem tyJx5ef63_ok : ∀ k, k < 0 → parseFieldDescriptor (TJx5ef63 k).2.2.1 = some (tyJx5ef63 k) := by decide +kernel
def RJxbd725 : String := "java/util/List"
def TJxbd725 : u_T := fun k => match k with
  | _ => ("", "", "", false)
def tyJxbd725 : Nat → FieldType := fun k => match k with
  | _ => .int
abbrev wsJxbd7250 : List Cond := u_ws RJxbd725 TJxbd725 0
theorem nmJxbd725 : ∀ a, a < 0 → ∀ b, b < 0 → a ≠ b → (TJxbd725 a).2.1 ≠ (TJxbd725 b).2.1 := by decide +kernel
theorem tyJxbd725_ok : ∀ k, k < 0 → parseFieldDescriptor (TJxbd725 k).2.2.1 = some (tyJxbd725 k) := by decide +kernel
def RJ15 : String := "java/util/Objects"
def TJ15 : u_T := fun k => match k with
  | _ => ("", "", "", false)
def tyJ15 : Nat → FieldType := fun k => match k with
  | _ => .int
abbrev wsJ150 : List Cond := u_ws RJ15 TJ15 0
theorem nmJ15 : ∀ a, a < 0 → ∀ b, b < 0 → a ≠ b → (TJ15 a).2.1 ≠ (TJ15 b).2.1 := by decide +kernel
theorem tyJ15_ok : ∀ k, k < 0 → parseFieldDescriptor (TJ15 k).2.2.1 = some (tyJ15 k) := by decide +kernel
abbrev cJ15_checkIndex_7cf53 : ByteArray := prog_25_method_17_code
def yJ15_checkIndex_7cf53 : MethodName := ⟨RJ15, "checkIndex", "(II)I"⟩
def RJxf0a74 : String := "java/util/RandomAccess"
def TJxf0a74 : u_T := fun k => match k with
  | _ => ("", "", "", false)
def tyJxf0a74 : Nat → FieldType := fun k => match k with
  | _ => .int
abbrev wsJxf0a740 : List Cond := u_ws RJxf0a74 TJxf0a74 0
theorem nmJxf0a74 : ∀ a, a < 0 → ∀ b, b < 0 → a ≠ b → (TJxf0a74 a).2.1 ≠ (TJxf0a74 b).2.1 := by decide +kernel
theorem tyJxf0a74_ok : ∀ k, k < 0 → parseFieldDescriptor (TJxf0a74 k).2.2.1 = some (tyJxf0a74 k) := by decide +kernel
def RJxa66e6 : String := "java/util/SequencedCollection"
def TJxa66e6 : u_T := fun k => match k with
  | _ => ("", "", "", false)
def tyJxa66e6 : Nat → FieldType := fun k => match k with
  | _ => .int
abbrev wsJxa66e60 : List Cond := u_ws RJxa66e6 TJxa66e6 0
theorem nmJxa66e6 : ∀ a, a < 0 → ∀ b, b < 0 → a ≠ b → (TJxa66e6 a).2.1 ≠ (TJxa66e6 b).2.1 := by decide +kernel
theorem tyJxa66e6_ok : ∀ k, k < 0 → parseFieldDescriptor (TJxa66e6 k).2.2.1 = some (tyJxa66e6 k) := by decide +kernel
def RJ8 : String := "jdk/internal/util/ArraysSupport"
def TJ8 : u_T := fun k => match k with
  | _ => ("", "", "", false)
def tyJ8 : Nat → FieldType := fun k => match k with
  | _ => .int
abbrev wsJ80 : List Cond := u_ws RJ8 TJ8 0
theorem nmJ8 : ∀ a, a < 0 → ∀ b, b < 0 → a ≠ b → (TJ8 a).2.1 ≠ (TJ8 b).2.1 := by decide +kernel
theorem tyJ8_ok : ∀ k, k < 0 → parseFieldDescriptor (TJ8 k).2.2.1 = some (tyJ8 k) := by decide +kernel
abbrev cJ8_newLength_cabcc : ByteArray := prog_28_method_27_code
def yJ8_newLength_cabcc : MethodName := ⟨RJ8, "newLength", "(III)I"⟩
abbrev cJ8_hugeLength_7cf53 : ByteArray := prog_28_method_28_code
def yJ8_hugeLength_7cf53 : MethodName := ⟨RJ8, "hugeLength", "(II)I"⟩
def RJ3 : String := "jdk/internal/util/Preconditions"
def TJ3 : u_T := fun k => match k with
  | _ => ("", "", "", false)
def tyJ3 : Nat → FieldType := fun k => match k with
  | _ => .int
abbrev wsJ30 : List Cond := u_ws RJ3 TJ3 0
theorem nmJ3 : ∀ a, a < 0 → ∀ b, b < 0 → a ≠ b → (TJ3 a).2.1 ≠ (TJ3 b).2.1 := by decide +kernel
theorem tyJ3_ok : ∀ k, k < 0 → parseFieldDescriptor (TJ3 k).2.2.1 = some (tyJ3 k) := by decide +kernel
abbrev cJ3_checkIndex_8e157 : ByteArray := prog_29_method_11_code
def yJ3_checkIndex_8e157 : MethodName := ⟨RJ3, "checkIndex", "(IILjava/util/function/BiFunction;)I"⟩
def RL : String := "TaxEqualiserLaw"
abbrev cL_setLimits : ByteArray := method_3_code
def yL_setLimits : MethodName := ⟨RL, "setLimits", "(LTaxEqualiser;III)I"⟩
abbrev cL_setRates : ByteArray := method_4_code
def yL_setRates : MethodName := ⟨RL, "setRates", "(LTaxEqualiser;IIII)I"⟩
abbrev cL_tax : ByteArray := method_5_code
def yL_tax : MethodName := ⟨RL, "tax", "(LTaxEqualiser;II[J)I"⟩
abbrev cL_grossTax : ByteArray := method_6_code
def yL_grossTax : MethodName := ⟨RL, "grossTax", "(LTaxEqualiser;II[J)I"⟩
abbrev cL_grossTaxByTrying : ByteArray := method_7_code
def yL_grossTaxByTrying : MethodName := ⟨RL, "grossTaxByTrying", "(LTaxEqualiser;II[J)I"⟩
abbrev cL_add : ByteArray := method_8_code
def yL_add : MethodName := ⟨RL, "add", "(LTaxEqualiser;III[J)I"⟩
abbrev cL_setAbroad : ByteArray := method_9_code
def yL_setAbroad : MethodName := ⟨RL, "setAbroad", "(LTaxEqualiser;III[J)I"⟩
abbrev cL_setPay : ByteArray := method_10_code
def yL_setPay : MethodName := ⟨RL, "setPay", "(LTaxEqualiser;II[J)I"⟩
abbrev cL_setHousing : ByteArray := method_11_code
def yL_setHousing : MethodName := ⟨RL, "setHousing", "(LTaxEqualiser;III[J)I"⟩
abbrev cL_addBonus : ByteArray := method_12_code
def yL_addBonus : MethodName := ⟨RL, "addBonus", "(LTaxEqualiser;IIII[J)I"⟩
abbrev cL_abroadPart : ByteArray := method_13_code
def yL_abroadPart : MethodName := ⟨RL, "abroadPart", "(LTaxEqualiser;II[J)I"⟩
abbrev cL_held : ByteArray := method_14_code
def yL_held : MethodName := ⟨RL, "held", "(LTaxEqualiser;II[J)I"⟩
abbrev cL_supposedTax : ByteArray := method_15_code
def yL_supposedTax : MethodName := ⟨RL, "supposedTax", "(LTaxEqualiser;I[J)I"⟩
abbrev cL_homeIncome : ByteArray := method_16_code
def yL_homeIncome : MethodName := ⟨RL, "homeIncome", "(LTaxEqualiser;I[J)I"⟩
abbrev cL_homeTax : ByteArray := method_17_code
def yL_homeTax : MethodName := ⟨RL, "homeTax", "(LTaxEqualiser;I[J)I"⟩
abbrev cL_hostIncome : ByteArray := method_18_code
def yL_hostIncome : MethodName := ⟨RL, "hostIncome", "(LTaxEqualiser;I[J)I"⟩
abbrev cL_hostTax : ByteArray := method_19_code
def yL_hostTax : MethodName := ⟨RL, "hostTax", "(LTaxEqualiser;I[J)I"⟩
abbrev cL_borne : ByteArray := method_20_code
def yL_borne : MethodName := ⟨RL, "borne", "(LTaxEqualiser;I[J)I"⟩
abbrev cL_settlement : ByteArray := method_21_code
def yL_settlement : MethodName := ⟨RL, "settlement", "(LTaxEqualiser;I[J)I"⟩
abbrev cL_cost : ByteArray := method_22_code
def yL_cost : MethodName := ⟨RL, "cost", "(LTaxEqualiser;I[J)I"⟩
abbrev cL_law : ByteArray := code
def yL_law : MethodName := ⟨RL, "law", "([I)Z"⟩
def wsX0_init : List Cond := .code yX0_init cX0_init 4 none :: ([.methodLink RX0 1 objectInit, .instanceMethod objectInit, .code objectInit ⟨#[0xb1]⟩ 1 none, .fieldLink RX0 7 "TaxEqualiser$Bonus" "coins" "I", .fieldLink RX0 13 "TaxEqualiser$Bonus" "from" "I", .fieldLink RX0 16 "TaxEqualiser$Bonus" "to" "I"] ++ wsX00)
def wsX1_init : List Cond := .code yX1_init cX1_init 1 none :: ([.methodLink RX1 3 objectInit, .instanceMethod objectInit, .code objectInit ⟨#[0xb1]⟩ 1 none, .fieldLink RX1 9 "TaxEqualiser$Land" "lower" "I", .constant RX1 15 (40000), .fieldLink RX1 16 "TaxEqualiser$Land" "upper" "I", .fieldLink RX1 19 "TaxEqualiser$Land" "first" "I", .fieldLink RX1 22 "TaxEqualiser$Land" "second" "I", .fieldLink RX1 25 "TaxEqualiser$Land" "third" "I"] ++ wsX10)
def wsX1_limit : List Cond := .code yX1_limit cX1_limit 3 none :: ([.fieldLink RX1 9 "TaxEqualiser$Land" "lower" "I", .fieldLink RX1 16 "TaxEqualiser$Land" "upper" "I"] ++ wsX10)
def wsX1_rate : List Cond := .code yX1_rate cX1_rate 4 none :: ([.fieldLink RX1 19 "TaxEqualiser$Land" "first" "I", .fieldLink RX1 22 "TaxEqualiser$Land" "second" "I", .fieldLink RX1 25 "TaxEqualiser$Land" "third" "I"] ++ wsX10)
def wsX1_taxOf : List Cond := .code yX1_taxOf cX1_taxOf 8 (some .int) :: ([.fieldLink RX1 9 "TaxEqualiser$Land" "lower" "I", .methodLink RX1 28 Lib.Math.min.name, .static Lib.Math.min.name, .initialized "java/lang/Math", .code Lib.Math.min.name Lib.Math.min.code 2 (some .int), .fieldLink RX1 16 "TaxEqualiser$Land" "upper" "I", .methodLink RX1 34 Lib.Math.max.name, .static Lib.Math.max.name, .code Lib.Math.max.name Lib.Math.max.code 2 (some .int), .fieldLink RX1 19 "TaxEqualiser$Land" "first" "I", .fieldLink RX1 22 "TaxEqualiser$Land" "second" "I", .fieldLink RX1 25 "TaxEqualiser$Land" "third" "I", .constantLong RX1 37 (100)] ++ wsX10)
def wsX1_mostGrossTax : List Cond := .code yX1_mostGrossTax cX1_mostGrossTax 1 (some .int) :: ([])
def wsX1_grossTaxOf : List Cond := .code yX1_grossTaxOf cX1_grossTaxOf 6 (some .int) :: ([.methodLink RX1 39 yX1_mostGrossTax, .static yX1_mostGrossTax, .initialized RX1, .code yX1_mostGrossTax cX1_mostGrossTax 1 (some .int), .methodLink RX1 43 yX1_taxOf, .instanceMethod yX1_taxOf, .selects RX1 yX1_taxOf yX1_taxOf, .code yX1_taxOf cX1_taxOf 8 (some .int), .fieldLink RX1 9 "TaxEqualiser$Land" "lower" "I", .methodLink RX1 28 Lib.Math.min.name, .static Lib.Math.min.name, .initialized "java/lang/Math", .code Lib.Math.min.name Lib.Math.min.code 2 (some .int), .fieldLink RX1 16 "TaxEqualiser$Land" "upper" "I", .methodLink RX1 34 Lib.Math.max.name, .static Lib.Math.max.name, .code Lib.Math.max.name Lib.Math.max.code 2 (some .int), .fieldLink RX1 19 "TaxEqualiser$Land" "first" "I", .fieldLink RX1 22 "TaxEqualiser$Land" "second" "I", .fieldLink RX1 25 "TaxEqualiser$Land" "third" "I", .constantLong RX1 37 (100)] ++ wsX10)
def wsX1_grossTaxTried : List Cond := .code yX1_grossTaxTried cX1_grossTaxTried 4 (some .int) :: ([.methodLink RX1 39 yX1_mostGrossTax, .static yX1_mostGrossTax, .initialized RX1, .code yX1_mostGrossTax cX1_mostGrossTax 1 (some .int), .methodLink RX1 43 yX1_taxOf, .instanceMethod yX1_taxOf, .selects RX1 yX1_taxOf yX1_taxOf, .code yX1_taxOf cX1_taxOf 8 (some .int), .fieldLink RX1 9 "TaxEqualiser$Land" "lower" "I", .methodLink RX1 28 Lib.Math.min.name, .static Lib.Math.min.name, .initialized "java/lang/Math", .code Lib.Math.min.name Lib.Math.min.code 2 (some .int), .fieldLink RX1 16 "TaxEqualiser$Land" "upper" "I", .methodLink RX1 34 Lib.Math.max.name, .static Lib.Math.max.name, .code Lib.Math.max.name Lib.Math.max.code 2 (some .int), .fieldLink RX1 19 "TaxEqualiser$Land" "first" "I", .fieldLink RX1 22 "TaxEqualiser$Land" "second" "I", .fieldLink RX1 25 "TaxEqualiser$Land" "third" "I", .constantLong RX1 37 (100)] ++ wsX10)
def wsJxa1e45_init_da8c8 : List Cond := .code yJxa1e45_init_da8c8 cJxa1e45_init_da8c8 1 none :: ([.methodLink RJxa1e45 1 objectInit, .instanceMethod objectInit, .code objectInit ⟨#[0xb1]⟩ 1 none])
def wsJxc12de_init_da8c8 : List Cond := .code yJxc12de_init_da8c8 cJxc12de_init_da8c8 1 none :: ([.fieldLink RJxc12de 7 "java/util/AbstractList" "modCount" "I", .methodLink RJxc12de 1 yJxa1e45_init_da8c8, .instanceMethod yJxa1e45_init_da8c8, .initialized RJxa1e45, .code yJxa1e45_init_da8c8 cJxa1e45_init_da8c8 1 none, .methodLink RJxa1e45 1 objectInit, .instanceMethod objectInit, .code objectInit ⟨#[0xb1]⟩ 1 none] ++ wsJx4a65c0)
def wsJx4a65c_init_da8c8 : List Cond := .code yJx4a65c_init_da8c8 cJx4a65c_init_da8c8 1 none :: ([.fieldLink RJx4a65c 39 "java/util/ArrayList" "DEFAULTCAPACITY_EMPTY_ELEMENTDATA" "[Ljava/lang/Object;", .fieldLink RJx4a65c 9 "java/util/ArrayList" "elementData" "[Ljava/lang/Object;", .methodLink RJx4a65c 1 yJxc12de_init_da8c8, .instanceMethod yJxc12de_init_da8c8, .initialized RJxc12de, .code yJxc12de_init_da8c8 cJxc12de_init_da8c8 1 none, .fieldLink RJxc12de 7 "java/util/AbstractList" "modCount" "I", .methodLink RJxc12de 1 yJxa1e45_init_da8c8, .instanceMethod yJxa1e45_init_da8c8, .initialized RJxa1e45, .code yJxa1e45_init_da8c8 cJxa1e45_init_da8c8 1 none, .methodLink RJxa1e45 1 objectInit, .instanceMethod objectInit, .code objectInit ⟨#[0xb1]⟩ 1 none] ++ wsJx4a65c0)
def wsX2_init_r1 : List Cond := [Cond.methodLink RX2 3 objectInit, Cond.instanceMethod objectInit, Cond.code objectInit ⟨#[0xb1]⟩ 1 none, Cond.classLink RX2 9 RJx4a65c, Cond.instantiable RJx4a65c 3, Cond.initialized RJx4a65c, Cond.fieldLink RX2 12 "TaxEqualiser$Person" "bonuses" "Ljava/util/List;", Cond.fieldLink RX2 18 "TaxEqualiser$Person" "abroadFrom" "I", Cond.fieldLink RX2 22 "TaxEqualiser$Person" "abroadTo" "I", Cond.fieldLink RX2 25 "TaxEqualiser$Person" "rent" "I", Cond.fieldLink RX2 28 "TaxEqualiser$Person" "norm" "I", Cond.fieldLink RX2 31 "TaxEqualiser$Person" "home" "LTaxEqualiser$Land;", Cond.fieldLink RX2 35 "TaxEqualiser$Person" "host" "LTaxEqualiser$Land;", Cond.fieldLink RX2 38 "TaxEqualiser$Person" "pay" "I", Cond.methodLink RX2 11 yJx4a65c_init_da8c8, Cond.instanceMethod yJx4a65c_init_da8c8, Cond.code yJx4a65c_init_da8c8 cJx4a65c_init_da8c8 1 none, Cond.fieldLink RJx4a65c 39 "java/util/ArrayList" "DEFAULTCAPACITY_EMPTY_ELEMENTDATA" "[Ljava/lang/Object;", Cond.fieldLink RJx4a65c 9 "java/util/ArrayList" "elementData" "[Ljava/lang/Object;", Cond.methodLink RJx4a65c 1 yJxc12de_init_da8c8, Cond.instanceMethod yJxc12de_init_da8c8, Cond.initialized RJxc12de, Cond.code yJxc12de_init_da8c8 cJxc12de_init_da8c8 1 none, Cond.fieldLink RJxc12de 7 "java/util/AbstractList" "modCount" "I"]
def wsX2_init_r2 : List Cond := [Cond.methodLink RJxc12de 1 yJxa1e45_init_da8c8, Cond.instanceMethod yJxa1e45_init_da8c8, Cond.initialized RJxa1e45, Cond.code yJxa1e45_init_da8c8 cJxa1e45_init_da8c8 1 none, Cond.methodLink RJxa1e45 1 objectInit]
def wsX2_init : List Cond := .code yX2_init cX2_init 4 none :: ((wsX2_init_r1 ++ wsX2_init_r2) ++ wsJx4a65c0 ++ wsX20)
def wsX2_monthsAbroad : List Cond := .code yX2_monthsAbroad cX2_monthsAbroad 1 (some .int) :: ([.fieldLink RX2 22 "TaxEqualiser$Person" "abroadTo" "I", .fieldLink RX2 18 "TaxEqualiser$Person" "abroadFrom" "I"] ++ wsX20)
def wsX2_isAbroadIn : List Cond := .code yX2_isAbroadIn cX2_isAbroadIn 2 (some .boolean) :: ([.fieldLink RX2 18 "TaxEqualiser$Person" "abroadFrom" "I", .fieldLink RX2 22 "TaxEqualiser$Person" "abroadTo" "I"] ++ wsX20)
def wsX2_ownShare : List Cond := .code yX2_ownShare cX2_ownShare 1 (some .int) :: ([.fieldLink RX2 25 "TaxEqualiser$Person" "rent" "I", .fieldLink RX2 38 "TaxEqualiser$Person" "pay" "I", .fieldLink RX2 28 "TaxEqualiser$Person" "norm" "I", .methodLink RX2 41 Lib.Math.min.name, .static Lib.Math.min.name, .initialized "java/lang/Math", .code Lib.Math.min.name Lib.Math.min.code 2 (some .int)] ++ wsX20)
def wsX2_partAbroad : List Cond := .code yX2_partAbroad cX2_partAbroad 4 (some .int) :: ([.fieldLink RX2 22 "TaxEqualiser$Person" "abroadTo" "I", .methodLink RX2 41 Lib.Math.min.name, .static Lib.Math.min.name, .initialized "java/lang/Math", .code Lib.Math.min.name Lib.Math.min.code 2 (some .int), .fieldLink RX2 18 "TaxEqualiser$Person" "abroadFrom" "I", .methodLink RX2 55 Lib.Math.max.name, .static Lib.Math.max.name, .code Lib.Math.max.name Lib.Math.max.code 2 (some .int)] ++ wsX00 ++ wsX20)
def wsJx4a65c_size_8abf5 : List Cond := .code yJx4a65c_size_8abf5 cJx4a65c_size_8abf5 1 (some .int) :: ([.fieldLink RJx4a65c 48 "java/util/ArrayList" "size" "I"] ++ wsJx4a65c0)
def wsJ3_checkIndex_8e157 : List Cond := .code yJ3_checkIndex_8e157 cJ3_checkIndex_8e157 3 (some .int) :: ([])
def wsJ15_checkIndex_7cf53 : List Cond := .code yJ15_checkIndex_7cf53 cJ15_checkIndex_7cf53 2 (some .int) :: ([.methodLink RJ15 105 yJ3_checkIndex_8e157, .static yJ3_checkIndex_8e157, .initialized RJ3, .code yJ3_checkIndex_8e157 cJ3_checkIndex_8e157 3 (some .int)])
def wsJx4a65c_elementData_915e3 : List Cond := .code yJx4a65c_elementData_915e3 cJx4a65c_elementData_915e3 2 (some (.object "java/lang/Object")) :: ([.fieldLink RJx4a65c 9 "java/util/ArrayList" "elementData" "[Ljava/lang/Object;"] ++ wsJx4a65c0)
def wsJx4a65c_get_915e3 : List Cond := .code yJx4a65c_get_915e3 cJx4a65c_get_915e3 2 (some (.object "java/lang/Object")) :: ([.fieldLink RJx4a65c 48 "java/util/ArrayList" "size" "I", .methodLink RJx4a65c 118 yJ15_checkIndex_7cf53, .static yJ15_checkIndex_7cf53, .initialized RJ15, .code yJ15_checkIndex_7cf53 cJ15_checkIndex_7cf53 2 (some .int), .methodLink RJ15 105 yJ3_checkIndex_8e157, .static yJ3_checkIndex_8e157, .initialized RJ3, .code yJ3_checkIndex_8e157 cJ3_checkIndex_8e157 3 (some .int), .methodLink RJx4a65c 123 yJx4a65c_elementData_915e3, .instanceMethod yJx4a65c_elementData_915e3, .selects RJx4a65c yJx4a65c_elementData_915e3 yJx4a65c_elementData_915e3, .initialized RJx4a65c, .code yJx4a65c_elementData_915e3 cJx4a65c_elementData_915e3 2 (some (.object "java/lang/Object")), .fieldLink RJx4a65c 9 "java/util/ArrayList" "elementData" "[Ljava/lang/Object;"] ++ wsJx4a65c0)
def wsX2_wholeIncome_r1 : List Cond := [Cond.fieldLink RX2 38 "TaxEqualiser$Person" "pay" "I", Cond.fieldLink RX2 12 "TaxEqualiser$Person" "bonuses" "Ljava/util/List;", Cond.classLink RX2 48 "TaxEqualiser$Bonus", Cond.methodLink RX2 61 ⟨"java/util/List", "size", "()I"⟩, Cond.selects RJx4a65c ⟨"java/util/List", "size", "()I"⟩ yJx4a65c_size_8abf5, Cond.instanceMethod yJx4a65c_size_8abf5, Cond.initialized RJx4a65c, Cond.code yJx4a65c_size_8abf5 cJx4a65c_size_8abf5 1 (some .int), Cond.fieldLink RJx4a65c 48 "java/util/ArrayList" "size" "I", Cond.methodLink RX2 67 ⟨"java/util/List", "get", "(I)Ljava/lang/Object;"⟩, Cond.selects RJx4a65c ⟨"java/util/List", "get", "(I)Ljava/lang/Object;"⟩ yJx4a65c_get_915e3, Cond.instanceMethod yJx4a65c_get_915e3, Cond.code yJx4a65c_get_915e3 cJx4a65c_get_915e3 2 (some (.object "java/lang/Object")), Cond.methodLink RJx4a65c 118 yJ15_checkIndex_7cf53, Cond.static yJ15_checkIndex_7cf53, Cond.initialized RJ15, Cond.code yJ15_checkIndex_7cf53 cJ15_checkIndex_7cf53 2 (some .int), Cond.methodLink RJ15 105 yJ3_checkIndex_8e157, Cond.static yJ3_checkIndex_8e157, Cond.initialized RJ3, Cond.code yJ3_checkIndex_8e157 cJ3_checkIndex_8e157 3 (some .int), Cond.methodLink RJx4a65c 123 yJx4a65c_elementData_915e3, Cond.instanceMethod yJx4a65c_elementData_915e3, Cond.selects RJx4a65c yJx4a65c_elementData_915e3 yJx4a65c_elementData_915e3]
def wsX2_wholeIncome_r2 : List Cond := [Cond.code yJx4a65c_elementData_915e3 cJx4a65c_elementData_915e3 2 (some (.object "java/lang/Object")), Cond.fieldLink RJx4a65c 9 "java/util/ArrayList" "elementData" "[Ljava/lang/Object;"]
def wsX2_wholeIncome : List Cond := .code yX2_wholeIncome cX2_wholeIncome 3 (some .int) :: ((wsX2_wholeIncome_r1 ++ wsX2_wholeIncome_r2) ++ wsX20 ++ wsX00 ++ wsJx4a65c0)
def wsX2_heldEachMonth : List Cond := .code yX2_heldEachMonth cX2_heldEachMonth 1 (some .int) :: ([.fieldLink RX2 31 "TaxEqualiser$Person" "home" "LTaxEqualiser$Land;", .fieldLink RX2 38 "TaxEqualiser$Person" "pay" "I", .methodLink RX2 71 yX1_taxOf, .instanceMethod yX1_taxOf, .selects RX1 yX1_taxOf yX1_taxOf, .initialized RX1, .code yX1_taxOf cX1_taxOf 8 (some .int), .fieldLink RX1 9 "TaxEqualiser$Land" "lower" "I", .methodLink RX1 28 Lib.Math.min.name, .static Lib.Math.min.name, .initialized "java/lang/Math", .code Lib.Math.min.name Lib.Math.min.code 2 (some .int), .fieldLink RX1 16 "TaxEqualiser$Land" "upper" "I", .methodLink RX1 34 Lib.Math.max.name, .static Lib.Math.max.name, .code Lib.Math.max.name Lib.Math.max.code 2 (some .int), .fieldLink RX1 19 "TaxEqualiser$Land" "first" "I", .fieldLink RX1 22 "TaxEqualiser$Land" "second" "I", .fieldLink RX1 25 "TaxEqualiser$Land" "third" "I", .constantLong RX1 37 (100)] ++ wsX20 ++ wsX10)
def wsX2_heldInYear_r1 : List Cond := [Cond.methodLink RX2 77 yX2_monthsAbroad, Cond.instanceMethod yX2_monthsAbroad, Cond.selects RX2 yX2_monthsAbroad yX2_monthsAbroad, Cond.initialized RX2, Cond.code yX2_monthsAbroad cX2_monthsAbroad 1 (some .int), Cond.fieldLink RX2 22 "TaxEqualiser$Person" "abroadTo" "I", Cond.fieldLink RX2 18 "TaxEqualiser$Person" "abroadFrom" "I", Cond.methodLink RX2 80 yX2_heldEachMonth, Cond.instanceMethod yX2_heldEachMonth, Cond.selects RX2 yX2_heldEachMonth yX2_heldEachMonth, Cond.code yX2_heldEachMonth cX2_heldEachMonth 1 (some .int), Cond.fieldLink RX2 31 "TaxEqualiser$Person" "home" "LTaxEqualiser$Land;", Cond.fieldLink RX2 38 "TaxEqualiser$Person" "pay" "I", Cond.methodLink RX2 71 yX1_taxOf, Cond.instanceMethod yX1_taxOf, Cond.selects RX1 yX1_taxOf yX1_taxOf, Cond.initialized RX1, Cond.code yX1_taxOf cX1_taxOf 8 (some .int), Cond.fieldLink RX1 9 "TaxEqualiser$Land" "lower" "I", Cond.methodLink RX1 28 Lib.Math.min.name, Cond.static Lib.Math.min.name, Cond.initialized "java/lang/Math", Cond.code Lib.Math.min.name Lib.Math.min.code 2 (some .int), Cond.fieldLink RX1 16 "TaxEqualiser$Land" "upper" "I"]
def wsX2_heldInYear_r2 : List Cond := [Cond.methodLink RX1 34 Lib.Math.max.name, Cond.static Lib.Math.max.name, Cond.code Lib.Math.max.name Lib.Math.max.code 2 (some .int), Cond.fieldLink RX1 19 "TaxEqualiser$Land" "first" "I", Cond.fieldLink RX1 22 "TaxEqualiser$Land" "second" "I", Cond.fieldLink RX1 25 "TaxEqualiser$Land" "third" "I", Cond.constantLong RX1 37 (100)]
def wsX2_heldInYear : List Cond := .code yX2_heldInYear cX2_heldInYear 1 (some .int) :: ((wsX2_heldInYear_r1 ++ wsX2_heldInYear_r2) ++ wsX20 ++ wsX10)
def wsX2_housingInYear : List Cond := .code yX2_housingInYear cX2_housingInYear 1 (some .int) :: ([.fieldLink RX2 25 "TaxEqualiser$Person" "rent" "I", .methodLink RX2 77 yX2_monthsAbroad, .instanceMethod yX2_monthsAbroad, .selects RX2 yX2_monthsAbroad yX2_monthsAbroad, .initialized RX2, .code yX2_monthsAbroad cX2_monthsAbroad 1 (some .int), .fieldLink RX2 22 "TaxEqualiser$Person" "abroadTo" "I", .fieldLink RX2 18 "TaxEqualiser$Person" "abroadFrom" "I", .methodLink RX2 83 yX2_ownShare, .instanceMethod yX2_ownShare, .selects RX2 yX2_ownShare yX2_ownShare, .code yX2_ownShare cX2_ownShare 1 (some .int), .fieldLink RX2 38 "TaxEqualiser$Person" "pay" "I", .fieldLink RX2 28 "TaxEqualiser$Person" "norm" "I", .methodLink RX2 41 Lib.Math.min.name, .static Lib.Math.min.name, .initialized "java/lang/Math", .code Lib.Math.min.name Lib.Math.min.code 2 (some .int)] ++ wsX20)
def wsX2_supposedTaxOfYear_r1 : List Cond := [Cond.fieldLink RX2 31 "TaxEqualiser$Person" "home" "LTaxEqualiser$Land;", Cond.methodLink RX2 86 yX2_wholeIncome, Cond.instanceMethod yX2_wholeIncome, Cond.selects RX2 yX2_wholeIncome yX2_wholeIncome, Cond.initialized RX2, Cond.code yX2_wholeIncome cX2_wholeIncome 3 (some .int), Cond.fieldLink RX2 38 "TaxEqualiser$Person" "pay" "I", Cond.fieldLink RX2 12 "TaxEqualiser$Person" "bonuses" "Ljava/util/List;", Cond.classLink RX2 48 "TaxEqualiser$Bonus", Cond.methodLink RX2 61 ⟨"java/util/List", "size", "()I"⟩, Cond.selects RJx4a65c ⟨"java/util/List", "size", "()I"⟩ yJx4a65c_size_8abf5, Cond.instanceMethod yJx4a65c_size_8abf5, Cond.initialized RJx4a65c, Cond.code yJx4a65c_size_8abf5 cJx4a65c_size_8abf5 1 (some .int), Cond.fieldLink RJx4a65c 48 "java/util/ArrayList" "size" "I", Cond.methodLink RX2 67 ⟨"java/util/List", "get", "(I)Ljava/lang/Object;"⟩, Cond.selects RJx4a65c ⟨"java/util/List", "get", "(I)Ljava/lang/Object;"⟩ yJx4a65c_get_915e3, Cond.instanceMethod yJx4a65c_get_915e3, Cond.code yJx4a65c_get_915e3 cJx4a65c_get_915e3 2 (some (.object "java/lang/Object")), Cond.methodLink RJx4a65c 118 yJ15_checkIndex_7cf53, Cond.static yJ15_checkIndex_7cf53, Cond.initialized RJ15, Cond.code yJ15_checkIndex_7cf53 cJ15_checkIndex_7cf53 2 (some .int), Cond.methodLink RJ15 105 yJ3_checkIndex_8e157]
def wsX2_supposedTaxOfYear_r2 : List Cond := [Cond.static yJ3_checkIndex_8e157, Cond.initialized RJ3, Cond.code yJ3_checkIndex_8e157 cJ3_checkIndex_8e157 3 (some .int), Cond.methodLink RJx4a65c 123 yJx4a65c_elementData_915e3, Cond.instanceMethod yJx4a65c_elementData_915e3, Cond.selects RJx4a65c yJx4a65c_elementData_915e3 yJx4a65c_elementData_915e3, Cond.code yJx4a65c_elementData_915e3 cJx4a65c_elementData_915e3 2 (some (.object "java/lang/Object")), Cond.fieldLink RJx4a65c 9 "java/util/ArrayList" "elementData" "[Ljava/lang/Object;", Cond.methodLink RX2 71 yX1_taxOf, Cond.instanceMethod yX1_taxOf, Cond.selects RX1 yX1_taxOf yX1_taxOf, Cond.initialized RX1, Cond.code yX1_taxOf cX1_taxOf 8 (some .int), Cond.fieldLink RX1 9 "TaxEqualiser$Land" "lower" "I", Cond.methodLink RX1 28 Lib.Math.min.name, Cond.static Lib.Math.min.name, Cond.initialized "java/lang/Math", Cond.code Lib.Math.min.name Lib.Math.min.code 2 (some .int), Cond.fieldLink RX1 16 "TaxEqualiser$Land" "upper" "I", Cond.methodLink RX1 34 Lib.Math.max.name, Cond.static Lib.Math.max.name, Cond.code Lib.Math.max.name Lib.Math.max.code 2 (some .int), Cond.fieldLink RX1 19 "TaxEqualiser$Land" "first" "I", Cond.fieldLink RX1 22 "TaxEqualiser$Land" "second" "I"]
def wsX2_supposedTaxOfYear_r3 : List Cond := [Cond.fieldLink RX1 25 "TaxEqualiser$Land" "third" "I", Cond.constantLong RX1 37 (100)]
def wsX2_supposedTaxOfYear : List Cond := .code yX2_supposedTaxOfYear cX2_supposedTaxOfYear 1 (some .int) :: ((wsX2_supposedTaxOfYear_r1 ++ (wsX2_supposedTaxOfYear_r2 ++ wsX2_supposedTaxOfYear_r3)) ++ wsX20 ++ wsX00 ++ wsJx4a65c0 ++ wsX10)
def wsX2_incomeAtHome_r1 : List Cond := [Cond.fieldLink RX2 38 "TaxEqualiser$Person" "pay" "I", Cond.fieldLink RX2 12 "TaxEqualiser$Person" "bonuses" "Ljava/util/List;", Cond.classLink RX2 48 "TaxEqualiser$Bonus", Cond.methodLink RX2 77 yX2_monthsAbroad, Cond.instanceMethod yX2_monthsAbroad, Cond.selects RX2 yX2_monthsAbroad yX2_monthsAbroad, Cond.initialized RX2, Cond.code yX2_monthsAbroad cX2_monthsAbroad 1 (some .int), Cond.fieldLink RX2 22 "TaxEqualiser$Person" "abroadTo" "I", Cond.fieldLink RX2 18 "TaxEqualiser$Person" "abroadFrom" "I", Cond.methodLink RX2 61 ⟨"java/util/List", "size", "()I"⟩, Cond.selects RJx4a65c ⟨"java/util/List", "size", "()I"⟩ yJx4a65c_size_8abf5, Cond.instanceMethod yJx4a65c_size_8abf5, Cond.initialized RJx4a65c, Cond.code yJx4a65c_size_8abf5 cJx4a65c_size_8abf5 1 (some .int), Cond.fieldLink RJx4a65c 48 "java/util/ArrayList" "size" "I", Cond.methodLink RX2 67 ⟨"java/util/List", "get", "(I)Ljava/lang/Object;"⟩, Cond.selects RJx4a65c ⟨"java/util/List", "get", "(I)Ljava/lang/Object;"⟩ yJx4a65c_get_915e3, Cond.instanceMethod yJx4a65c_get_915e3, Cond.code yJx4a65c_get_915e3 cJx4a65c_get_915e3 2 (some (.object "java/lang/Object")), Cond.methodLink RJx4a65c 118 yJ15_checkIndex_7cf53, Cond.static yJ15_checkIndex_7cf53, Cond.initialized RJ15, Cond.code yJ15_checkIndex_7cf53 cJ15_checkIndex_7cf53 2 (some .int)]
def wsX2_incomeAtHome_r2 : List Cond := [Cond.methodLink RJ15 105 yJ3_checkIndex_8e157, Cond.static yJ3_checkIndex_8e157, Cond.initialized RJ3, Cond.code yJ3_checkIndex_8e157 cJ3_checkIndex_8e157 3 (some .int), Cond.methodLink RJx4a65c 123 yJx4a65c_elementData_915e3, Cond.instanceMethod yJx4a65c_elementData_915e3, Cond.selects RJx4a65c yJx4a65c_elementData_915e3 yJx4a65c_elementData_915e3, Cond.code yJx4a65c_elementData_915e3 cJx4a65c_elementData_915e3 2 (some (.object "java/lang/Object")), Cond.fieldLink RJx4a65c 9 "java/util/ArrayList" "elementData" "[Ljava/lang/Object;", Cond.methodLink RX2 89 yX2_partAbroad, Cond.instanceMethod yX2_partAbroad, Cond.selects RX2 yX2_partAbroad yX2_partAbroad, Cond.code yX2_partAbroad cX2_partAbroad 4 (some .int), Cond.methodLink RX2 41 Lib.Math.min.name, Cond.static Lib.Math.min.name, Cond.initialized "java/lang/Math", Cond.code Lib.Math.min.name Lib.Math.min.code 2 (some .int), Cond.methodLink RX2 55 Lib.Math.max.name, Cond.static Lib.Math.max.name, Cond.code Lib.Math.max.name Lib.Math.max.code 2 (some .int)]
def wsX2_incomeAtHome : List Cond := .code yX2_incomeAtHome cX2_incomeAtHome 4 (some .int) :: ((wsX2_incomeAtHome_r1 ++ wsX2_incomeAtHome_r2) ++ wsX20 ++ wsX00 ++ wsJx4a65c0)
def wsX2_taxAtHome_r1 : List Cond := [Cond.fieldLink RX2 31 "TaxEqualiser$Person" "home" "LTaxEqualiser$Land;", Cond.methodLink RX2 86 yX2_wholeIncome, Cond.instanceMethod yX2_wholeIncome, Cond.selects RX2 yX2_wholeIncome yX2_wholeIncome, Cond.initialized RX2, Cond.code yX2_wholeIncome cX2_wholeIncome 3 (some .int), Cond.fieldLink RX2 38 "TaxEqualiser$Person" "pay" "I", Cond.fieldLink RX2 12 "TaxEqualiser$Person" "bonuses" "Ljava/util/List;", Cond.classLink RX2 48 "TaxEqualiser$Bonus", Cond.methodLink RX2 61 ⟨"java/util/List", "size", "()I"⟩, Cond.selects RJx4a65c ⟨"java/util/List", "size", "()I"⟩ yJx4a65c_size_8abf5, Cond.instanceMethod yJx4a65c_size_8abf5, Cond.initialized RJx4a65c, Cond.code yJx4a65c_size_8abf5 cJx4a65c_size_8abf5 1 (some .int), Cond.fieldLink RJx4a65c 48 "java/util/ArrayList" "size" "I", Cond.methodLink RX2 67 ⟨"java/util/List", "get", "(I)Ljava/lang/Object;"⟩, Cond.selects RJx4a65c ⟨"java/util/List", "get", "(I)Ljava/lang/Object;"⟩ yJx4a65c_get_915e3, Cond.instanceMethod yJx4a65c_get_915e3, Cond.code yJx4a65c_get_915e3 cJx4a65c_get_915e3 2 (some (.object "java/lang/Object")), Cond.methodLink RJx4a65c 118 yJ15_checkIndex_7cf53, Cond.static yJ15_checkIndex_7cf53, Cond.initialized RJ15, Cond.code yJ15_checkIndex_7cf53 cJ15_checkIndex_7cf53 2 (some .int), Cond.methodLink RJ15 105 yJ3_checkIndex_8e157]
def wsX2_taxAtHome_r2 : List Cond := [Cond.static yJ3_checkIndex_8e157, Cond.initialized RJ3, Cond.code yJ3_checkIndex_8e157 cJ3_checkIndex_8e157 3 (some .int), Cond.methodLink RJx4a65c 123 yJx4a65c_elementData_915e3, Cond.instanceMethod yJx4a65c_elementData_915e3, Cond.selects RJx4a65c yJx4a65c_elementData_915e3 yJx4a65c_elementData_915e3, Cond.code yJx4a65c_elementData_915e3 cJx4a65c_elementData_915e3 2 (some (.object "java/lang/Object")), Cond.fieldLink RJx4a65c 9 "java/util/ArrayList" "elementData" "[Ljava/lang/Object;", Cond.methodLink RX2 71 yX1_taxOf, Cond.instanceMethod yX1_taxOf, Cond.selects RX1 yX1_taxOf yX1_taxOf, Cond.initialized RX1, Cond.code yX1_taxOf cX1_taxOf 8 (some .int), Cond.fieldLink RX1 9 "TaxEqualiser$Land" "lower" "I", Cond.methodLink RX1 28 Lib.Math.min.name, Cond.static Lib.Math.min.name, Cond.initialized "java/lang/Math", Cond.code Lib.Math.min.name Lib.Math.min.code 2 (some .int), Cond.fieldLink RX1 16 "TaxEqualiser$Land" "upper" "I", Cond.methodLink RX1 34 Lib.Math.max.name, Cond.static Lib.Math.max.name, Cond.code Lib.Math.max.name Lib.Math.max.code 2 (some .int), Cond.fieldLink RX1 19 "TaxEqualiser$Land" "first" "I", Cond.fieldLink RX1 22 "TaxEqualiser$Land" "second" "I"]
def wsX2_taxAtHome_r3 : List Cond := [Cond.fieldLink RX1 25 "TaxEqualiser$Land" "third" "I", Cond.constantLong RX1 37 (100), Cond.methodLink RX2 93 yX2_incomeAtHome, Cond.instanceMethod yX2_incomeAtHome, Cond.selects RX2 yX2_incomeAtHome yX2_incomeAtHome, Cond.code yX2_incomeAtHome cX2_incomeAtHome 4 (some .int), Cond.methodLink RX2 77 yX2_monthsAbroad, Cond.instanceMethod yX2_monthsAbroad, Cond.selects RX2 yX2_monthsAbroad yX2_monthsAbroad, Cond.code yX2_monthsAbroad cX2_monthsAbroad 1 (some .int), Cond.fieldLink RX2 22 "TaxEqualiser$Person" "abroadTo" "I", Cond.fieldLink RX2 18 "TaxEqualiser$Person" "abroadFrom" "I", Cond.methodLink RX2 89 yX2_partAbroad, Cond.instanceMethod yX2_partAbroad, Cond.selects RX2 yX2_partAbroad yX2_partAbroad, Cond.code yX2_partAbroad cX2_partAbroad 4 (some .int), Cond.methodLink RX2 41 Lib.Math.min.name, Cond.methodLink RX2 55 Lib.Math.max.name]
def wsX2_taxAtHome : List Cond := .code yX2_taxAtHome cX2_taxAtHome 2 (some .int) :: ((wsX2_taxAtHome_r1 ++ (wsX2_taxAtHome_r2 ++ wsX2_taxAtHome_r3)) ++ wsX20 ++ wsX00 ++ wsJx4a65c0 ++ wsX10)
def wsX2_incomeAtHost_r1 : List Cond := [Cond.fieldLink RX2 38 "TaxEqualiser$Person" "pay" "I", Cond.fieldLink RX2 12 "TaxEqualiser$Person" "bonuses" "Ljava/util/List;", Cond.classLink RX2 48 "TaxEqualiser$Bonus", Cond.methodLink RX2 77 yX2_monthsAbroad, Cond.instanceMethod yX2_monthsAbroad, Cond.selects RX2 yX2_monthsAbroad yX2_monthsAbroad, Cond.initialized RX2, Cond.code yX2_monthsAbroad cX2_monthsAbroad 1 (some .int), Cond.fieldLink RX2 22 "TaxEqualiser$Person" "abroadTo" "I", Cond.fieldLink RX2 18 "TaxEqualiser$Person" "abroadFrom" "I", Cond.methodLink RX2 96 yX2_housingInYear, Cond.instanceMethod yX2_housingInYear, Cond.selects RX2 yX2_housingInYear yX2_housingInYear, Cond.code yX2_housingInYear cX2_housingInYear 1 (some .int), Cond.fieldLink RX2 25 "TaxEqualiser$Person" "rent" "I", Cond.methodLink RX2 83 yX2_ownShare, Cond.instanceMethod yX2_ownShare, Cond.selects RX2 yX2_ownShare yX2_ownShare, Cond.code yX2_ownShare cX2_ownShare 1 (some .int), Cond.fieldLink RX2 28 "TaxEqualiser$Person" "norm" "I", Cond.methodLink RX2 41 Lib.Math.min.name, Cond.static Lib.Math.min.name, Cond.initialized "java/lang/Math", Cond.code Lib.Math.min.name Lib.Math.min.code 2 (some .int)]
def wsX2_incomeAtHost_r2 : List Cond := [Cond.methodLink RX2 61 ⟨"java/util/List", "size", "()I"⟩, Cond.selects RJx4a65c ⟨"java/util/List", "size", "()I"⟩ yJx4a65c_size_8abf5, Cond.instanceMethod yJx4a65c_size_8abf5, Cond.initialized RJx4a65c, Cond.code yJx4a65c_size_8abf5 cJx4a65c_size_8abf5 1 (some .int), Cond.fieldLink RJx4a65c 48 "java/util/ArrayList" "size" "I", Cond.methodLink RX2 67 ⟨"java/util/List", "get", "(I)Ljava/lang/Object;"⟩, Cond.selects RJx4a65c ⟨"java/util/List", "get", "(I)Ljava/lang/Object;"⟩ yJx4a65c_get_915e3, Cond.instanceMethod yJx4a65c_get_915e3, Cond.code yJx4a65c_get_915e3 cJx4a65c_get_915e3 2 (some (.object "java/lang/Object")), Cond.methodLink RJx4a65c 118 yJ15_checkIndex_7cf53, Cond.static yJ15_checkIndex_7cf53, Cond.initialized RJ15, Cond.code yJ15_checkIndex_7cf53 cJ15_checkIndex_7cf53 2 (some .int), Cond.methodLink RJ15 105 yJ3_checkIndex_8e157, Cond.static yJ3_checkIndex_8e157, Cond.initialized RJ3, Cond.code yJ3_checkIndex_8e157 cJ3_checkIndex_8e157 3 (some .int), Cond.methodLink RJx4a65c 123 yJx4a65c_elementData_915e3, Cond.instanceMethod yJx4a65c_elementData_915e3, Cond.selects RJx4a65c yJx4a65c_elementData_915e3 yJx4a65c_elementData_915e3, Cond.code yJx4a65c_elementData_915e3 cJx4a65c_elementData_915e3 2 (some (.object "java/lang/Object")), Cond.fieldLink RJx4a65c 9 "java/util/ArrayList" "elementData" "[Ljava/lang/Object;", Cond.methodLink RX2 89 yX2_partAbroad]
def wsX2_incomeAtHost_r3 : List Cond := [Cond.instanceMethod yX2_partAbroad, Cond.selects RX2 yX2_partAbroad yX2_partAbroad, Cond.code yX2_partAbroad cX2_partAbroad 4 (some .int), Cond.methodLink RX2 55 Lib.Math.max.name, Cond.static Lib.Math.max.name, Cond.code Lib.Math.max.name Lib.Math.max.code 2 (some .int)]
def wsX2_incomeAtHost : List Cond := .code yX2_incomeAtHost cX2_incomeAtHost 3 (some .int) :: ((wsX2_incomeAtHost_r1 ++ (wsX2_incomeAtHost_r2 ++ wsX2_incomeAtHost_r3)) ++ wsX20 ++ wsJx4a65c0 ++ wsX00)
def wsX2_taxAtHost_r1 : List Cond := [Cond.fieldLink RX2 35 "TaxEqualiser$Person" "host" "LTaxEqualiser$Land;", Cond.methodLink RX2 99 yX2_incomeAtHost, Cond.instanceMethod yX2_incomeAtHost, Cond.selects RX2 yX2_incomeAtHost yX2_incomeAtHost, Cond.initialized RX2, Cond.code yX2_incomeAtHost cX2_incomeAtHost 3 (some .int), Cond.fieldLink RX2 38 "TaxEqualiser$Person" "pay" "I", Cond.fieldLink RX2 12 "TaxEqualiser$Person" "bonuses" "Ljava/util/List;", Cond.classLink RX2 48 "TaxEqualiser$Bonus", Cond.methodLink RX2 77 yX2_monthsAbroad, Cond.instanceMethod yX2_monthsAbroad, Cond.selects RX2 yX2_monthsAbroad yX2_monthsAbroad, Cond.code yX2_monthsAbroad cX2_monthsAbroad 1 (some .int), Cond.fieldLink RX2 22 "TaxEqualiser$Person" "abroadTo" "I", Cond.fieldLink RX2 18 "TaxEqualiser$Person" "abroadFrom" "I", Cond.methodLink RX2 96 yX2_housingInYear, Cond.instanceMethod yX2_housingInYear, Cond.selects RX2 yX2_housingInYear yX2_housingInYear, Cond.code yX2_housingInYear cX2_housingInYear 1 (some .int), Cond.fieldLink RX2 25 "TaxEqualiser$Person" "rent" "I", Cond.methodLink RX2 83 yX2_ownShare, Cond.instanceMethod yX2_ownShare, Cond.selects RX2 yX2_ownShare yX2_ownShare, Cond.code yX2_ownShare cX2_ownShare 1 (some .int)]
def wsX2_taxAtHost_r2 : List Cond := [Cond.fieldLink RX2 28 "TaxEqualiser$Person" "norm" "I", Cond.methodLink RX2 41 Lib.Math.min.name, Cond.static Lib.Math.min.name, Cond.initialized "java/lang/Math", Cond.code Lib.Math.min.name Lib.Math.min.code 2 (some .int), Cond.methodLink RX2 61 ⟨"java/util/List", "size", "()I"⟩, Cond.selects RJx4a65c ⟨"java/util/List", "size", "()I"⟩ yJx4a65c_size_8abf5, Cond.instanceMethod yJx4a65c_size_8abf5, Cond.initialized RJx4a65c, Cond.code yJx4a65c_size_8abf5 cJx4a65c_size_8abf5 1 (some .int), Cond.fieldLink RJx4a65c 48 "java/util/ArrayList" "size" "I", Cond.methodLink RX2 67 ⟨"java/util/List", "get", "(I)Ljava/lang/Object;"⟩, Cond.selects RJx4a65c ⟨"java/util/List", "get", "(I)Ljava/lang/Object;"⟩ yJx4a65c_get_915e3, Cond.instanceMethod yJx4a65c_get_915e3, Cond.code yJx4a65c_get_915e3 cJx4a65c_get_915e3 2 (some (.object "java/lang/Object")), Cond.methodLink RJx4a65c 118 yJ15_checkIndex_7cf53, Cond.static yJ15_checkIndex_7cf53, Cond.initialized RJ15, Cond.code yJ15_checkIndex_7cf53 cJ15_checkIndex_7cf53 2 (some .int), Cond.methodLink RJ15 105 yJ3_checkIndex_8e157, Cond.static yJ3_checkIndex_8e157, Cond.initialized RJ3, Cond.code yJ3_checkIndex_8e157 cJ3_checkIndex_8e157 3 (some .int), Cond.methodLink RJx4a65c 123 yJx4a65c_elementData_915e3]
def wsX2_taxAtHost_r3 : List Cond := [Cond.instanceMethod yJx4a65c_elementData_915e3, Cond.selects RJx4a65c yJx4a65c_elementData_915e3 yJx4a65c_elementData_915e3, Cond.code yJx4a65c_elementData_915e3 cJx4a65c_elementData_915e3 2 (some (.object "java/lang/Object")), Cond.fieldLink RJx4a65c 9 "java/util/ArrayList" "elementData" "[Ljava/lang/Object;", Cond.methodLink RX2 89 yX2_partAbroad, Cond.instanceMethod yX2_partAbroad, Cond.selects RX2 yX2_partAbroad yX2_partAbroad, Cond.code yX2_partAbroad cX2_partAbroad 4 (some .int), Cond.methodLink RX2 55 Lib.Math.max.name, Cond.static Lib.Math.max.name, Cond.code Lib.Math.max.name Lib.Math.max.code 2 (some .int), Cond.methodLink RX2 102 yX1_grossTaxOf, Cond.instanceMethod yX1_grossTaxOf, Cond.selects RX1 yX1_grossTaxOf yX1_grossTaxOf, Cond.initialized RX1, Cond.code yX1_grossTaxOf cX1_grossTaxOf 6 (some .int), Cond.methodLink RX1 39 yX1_mostGrossTax, Cond.static yX1_mostGrossTax, Cond.code yX1_mostGrossTax cX1_mostGrossTax 1 (some .int), Cond.methodLink RX1 43 yX1_taxOf, Cond.instanceMethod yX1_taxOf, Cond.selects RX1 yX1_taxOf yX1_taxOf, Cond.code yX1_taxOf cX1_taxOf 8 (some .int), Cond.fieldLink RX1 9 "TaxEqualiser$Land" "lower" "I"]
def wsX2_taxAtHost_r4 : List Cond := [Cond.methodLink RX1 28 Lib.Math.min.name, Cond.fieldLink RX1 16 "TaxEqualiser$Land" "upper" "I", Cond.methodLink RX1 34 Lib.Math.max.name, Cond.fieldLink RX1 19 "TaxEqualiser$Land" "first" "I", Cond.fieldLink RX1 22 "TaxEqualiser$Land" "second" "I", Cond.fieldLink RX1 25 "TaxEqualiser$Land" "third" "I", Cond.constantLong RX1 37 (100)]
def wsX2_taxAtHost : List Cond := .code yX2_taxAtHost cX2_taxAtHost 1 (some .int) :: ((wsX2_taxAtHost_r1 ++ (wsX2_taxAtHost_r2 ++ (wsX2_taxAtHost_r3 ++ wsX2_taxAtHost_r4))) ++ wsX20 ++ wsJx4a65c0 ++ wsX00 ++ wsX10)
def wsX2_borneInYear_r1 : List Cond := [Cond.methodLink RX2 105 yX2_heldInYear, Cond.instanceMethod yX2_heldInYear, Cond.selects RX2 yX2_heldInYear yX2_heldInYear, Cond.initialized RX2, Cond.code yX2_heldInYear cX2_heldInYear 1 (some .int), Cond.methodLink RX2 77 yX2_monthsAbroad, Cond.instanceMethod yX2_monthsAbroad, Cond.selects RX2 yX2_monthsAbroad yX2_monthsAbroad, Cond.code yX2_monthsAbroad cX2_monthsAbroad 1 (some .int), Cond.fieldLink RX2 22 "TaxEqualiser$Person" "abroadTo" "I", Cond.fieldLink RX2 18 "TaxEqualiser$Person" "abroadFrom" "I", Cond.methodLink RX2 80 yX2_heldEachMonth, Cond.instanceMethod yX2_heldEachMonth, Cond.selects RX2 yX2_heldEachMonth yX2_heldEachMonth, Cond.code yX2_heldEachMonth cX2_heldEachMonth 1 (some .int), Cond.fieldLink RX2 31 "TaxEqualiser$Person" "home" "LTaxEqualiser$Land;", Cond.fieldLink RX2 38 "TaxEqualiser$Person" "pay" "I", Cond.methodLink RX2 71 yX1_taxOf, Cond.instanceMethod yX1_taxOf, Cond.selects RX1 yX1_taxOf yX1_taxOf, Cond.initialized RX1, Cond.code yX1_taxOf cX1_taxOf 8 (some .int), Cond.fieldLink RX1 9 "TaxEqualiser$Land" "lower" "I", Cond.methodLink RX1 28 Lib.Math.min.name]
def wsX2_borneInYear_r2 : List Cond := [Cond.static Lib.Math.min.name, Cond.initialized "java/lang/Math", Cond.code Lib.Math.min.name Lib.Math.min.code 2 (some .int), Cond.fieldLink RX1 16 "TaxEqualiser$Land" "upper" "I", Cond.methodLink RX1 34 Lib.Math.max.name, Cond.static Lib.Math.max.name, Cond.code Lib.Math.max.name Lib.Math.max.code 2 (some .int), Cond.fieldLink RX1 19 "TaxEqualiser$Land" "first" "I", Cond.fieldLink RX1 22 "TaxEqualiser$Land" "second" "I", Cond.fieldLink RX1 25 "TaxEqualiser$Land" "third" "I", Cond.constantLong RX1 37 (100), Cond.methodLink RX2 108 yX2_taxAtHome, Cond.instanceMethod yX2_taxAtHome, Cond.selects RX2 yX2_taxAtHome yX2_taxAtHome, Cond.code yX2_taxAtHome cX2_taxAtHome 2 (some .int), Cond.methodLink RX2 86 yX2_wholeIncome, Cond.instanceMethod yX2_wholeIncome, Cond.selects RX2 yX2_wholeIncome yX2_wholeIncome, Cond.code yX2_wholeIncome cX2_wholeIncome 3 (some .int), Cond.fieldLink RX2 12 "TaxEqualiser$Person" "bonuses" "Ljava/util/List;", Cond.classLink RX2 48 "TaxEqualiser$Bonus", Cond.methodLink RX2 61 ⟨"java/util/List", "size", "()I"⟩, Cond.selects RJx4a65c ⟨"java/util/List", "size", "()I"⟩ yJx4a65c_size_8abf5, Cond.instanceMethod yJx4a65c_size_8abf5]
def wsX2_borneInYear_r3 : List Cond := [Cond.initialized RJx4a65c, Cond.code yJx4a65c_size_8abf5 cJx4a65c_size_8abf5 1 (some .int), Cond.fieldLink RJx4a65c 48 "java/util/ArrayList" "size" "I", Cond.methodLink RX2 67 ⟨"java/util/List", "get", "(I)Ljava/lang/Object;"⟩, Cond.selects RJx4a65c ⟨"java/util/List", "get", "(I)Ljava/lang/Object;"⟩ yJx4a65c_get_915e3, Cond.instanceMethod yJx4a65c_get_915e3, Cond.code yJx4a65c_get_915e3 cJx4a65c_get_915e3 2 (some (.object "java/lang/Object")), Cond.methodLink RJx4a65c 118 yJ15_checkIndex_7cf53, Cond.static yJ15_checkIndex_7cf53, Cond.initialized RJ15, Cond.code yJ15_checkIndex_7cf53 cJ15_checkIndex_7cf53 2 (some .int), Cond.methodLink RJ15 105 yJ3_checkIndex_8e157, Cond.static yJ3_checkIndex_8e157, Cond.initialized RJ3, Cond.code yJ3_checkIndex_8e157 cJ3_checkIndex_8e157 3 (some .int), Cond.methodLink RJx4a65c 123 yJx4a65c_elementData_915e3, Cond.instanceMethod yJx4a65c_elementData_915e3, Cond.selects RJx4a65c yJx4a65c_elementData_915e3 yJx4a65c_elementData_915e3, Cond.code yJx4a65c_elementData_915e3 cJx4a65c_elementData_915e3 2 (some (.object "java/lang/Object")), Cond.fieldLink RJx4a65c 9 "java/util/ArrayList" "elementData" "[Ljava/lang/Object;", Cond.methodLink RX2 93 yX2_incomeAtHome, Cond.instanceMethod yX2_incomeAtHome, Cond.selects RX2 yX2_incomeAtHome yX2_incomeAtHome, Cond.code yX2_incomeAtHome cX2_incomeAtHome 4 (some .int)]
def wsX2_borneInYear_r4 : List Cond := [Cond.methodLink RX2 89 yX2_partAbroad, Cond.instanceMethod yX2_partAbroad, Cond.selects RX2 yX2_partAbroad yX2_partAbroad, Cond.code yX2_partAbroad cX2_partAbroad 4 (some .int), Cond.methodLink RX2 41 Lib.Math.min.name, Cond.methodLink RX2 55 Lib.Math.max.name]
def wsX2_borneInYear : List Cond := .code yX2_borneInYear cX2_borneInYear 1 (some .int) :: ((wsX2_borneInYear_r1 ++ (wsX2_borneInYear_r2 ++ (wsX2_borneInYear_r3 ++ wsX2_borneInYear_r4))) ++ wsX20 ++ wsX10 ++ wsX00 ++ wsJx4a65c0)
def wsX2_settlementOfYear_r1 : List Cond := [Cond.methodLink RX2 111 yX2_supposedTaxOfYear, Cond.instanceMethod yX2_supposedTaxOfYear, Cond.selects RX2 yX2_supposedTaxOfYear yX2_supposedTaxOfYear, Cond.initialized RX2, Cond.code yX2_supposedTaxOfYear cX2_supposedTaxOfYear 1 (some .int), Cond.fieldLink RX2 31 "TaxEqualiser$Person" "home" "LTaxEqualiser$Land;", Cond.methodLink RX2 86 yX2_wholeIncome, Cond.instanceMethod yX2_wholeIncome, Cond.selects RX2 yX2_wholeIncome yX2_wholeIncome, Cond.code yX2_wholeIncome cX2_wholeIncome 3 (some .int), Cond.fieldLink RX2 38 "TaxEqualiser$Person" "pay" "I", Cond.fieldLink RX2 12 "TaxEqualiser$Person" "bonuses" "Ljava/util/List;", Cond.classLink RX2 48 "TaxEqualiser$Bonus", Cond.methodLink RX2 61 ⟨"java/util/List", "size", "()I"⟩, Cond.selects RJx4a65c ⟨"java/util/List", "size", "()I"⟩ yJx4a65c_size_8abf5, Cond.instanceMethod yJx4a65c_size_8abf5, Cond.initialized RJx4a65c, Cond.code yJx4a65c_size_8abf5 cJx4a65c_size_8abf5 1 (some .int), Cond.fieldLink RJx4a65c 48 "java/util/ArrayList" "size" "I", Cond.methodLink RX2 67 ⟨"java/util/List", "get", "(I)Ljava/lang/Object;"⟩, Cond.selects RJx4a65c ⟨"java/util/List", "get", "(I)Ljava/lang/Object;"⟩ yJx4a65c_get_915e3, Cond.instanceMethod yJx4a65c_get_915e3, Cond.code yJx4a65c_get_915e3 cJx4a65c_get_915e3 2 (some (.object "java/lang/Object")), Cond.methodLink RJx4a65c 118 yJ15_checkIndex_7cf53]
def wsX2_settlementOfYear_r2 : List Cond := [Cond.static yJ15_checkIndex_7cf53, Cond.initialized RJ15, Cond.code yJ15_checkIndex_7cf53 cJ15_checkIndex_7cf53 2 (some .int), Cond.methodLink RJ15 105 yJ3_checkIndex_8e157, Cond.static yJ3_checkIndex_8e157, Cond.initialized RJ3, Cond.code yJ3_checkIndex_8e157 cJ3_checkIndex_8e157 3 (some .int), Cond.methodLink RJx4a65c 123 yJx4a65c_elementData_915e3, Cond.instanceMethod yJx4a65c_elementData_915e3, Cond.selects RJx4a65c yJx4a65c_elementData_915e3 yJx4a65c_elementData_915e3, Cond.code yJx4a65c_elementData_915e3 cJx4a65c_elementData_915e3 2 (some (.object "java/lang/Object")), Cond.fieldLink RJx4a65c 9 "java/util/ArrayList" "elementData" "[Ljava/lang/Object;", Cond.methodLink RX2 71 yX1_taxOf, Cond.instanceMethod yX1_taxOf, Cond.selects RX1 yX1_taxOf yX1_taxOf, Cond.initialized RX1, Cond.code yX1_taxOf cX1_taxOf 8 (some .int), Cond.fieldLink RX1 9 "TaxEqualiser$Land" "lower" "I", Cond.methodLink RX1 28 Lib.Math.min.name, Cond.static Lib.Math.min.name, Cond.initialized "java/lang/Math", Cond.code Lib.Math.min.name Lib.Math.min.code 2 (some .int), Cond.fieldLink RX1 16 "TaxEqualiser$Land" "upper" "I", Cond.methodLink RX1 34 Lib.Math.max.name]
def wsX2_settlementOfYear_r3 : List Cond := [Cond.static Lib.Math.max.name, Cond.code Lib.Math.max.name Lib.Math.max.code 2 (some .int), Cond.fieldLink RX1 19 "TaxEqualiser$Land" "first" "I", Cond.fieldLink RX1 22 "TaxEqualiser$Land" "second" "I", Cond.fieldLink RX1 25 "TaxEqualiser$Land" "third" "I", Cond.constantLong RX1 37 (100), Cond.methodLink RX2 114 yX2_borneInYear, Cond.instanceMethod yX2_borneInYear, Cond.selects RX2 yX2_borneInYear yX2_borneInYear, Cond.code yX2_borneInYear cX2_borneInYear 1 (some .int), Cond.methodLink RX2 105 yX2_heldInYear, Cond.instanceMethod yX2_heldInYear, Cond.selects RX2 yX2_heldInYear yX2_heldInYear, Cond.code yX2_heldInYear cX2_heldInYear 1 (some .int), Cond.methodLink RX2 77 yX2_monthsAbroad, Cond.instanceMethod yX2_monthsAbroad, Cond.selects RX2 yX2_monthsAbroad yX2_monthsAbroad, Cond.code yX2_monthsAbroad cX2_monthsAbroad 1 (some .int), Cond.fieldLink RX2 22 "TaxEqualiser$Person" "abroadTo" "I", Cond.fieldLink RX2 18 "TaxEqualiser$Person" "abroadFrom" "I", Cond.methodLink RX2 80 yX2_heldEachMonth, Cond.instanceMethod yX2_heldEachMonth, Cond.selects RX2 yX2_heldEachMonth yX2_heldEachMonth, Cond.code yX2_heldEachMonth cX2_heldEachMonth 1 (some .int)]
def wsX2_settlementOfYear_r4 : List Cond := [Cond.methodLink RX2 108 yX2_taxAtHome, Cond.instanceMethod yX2_taxAtHome, Cond.selects RX2 yX2_taxAtHome yX2_taxAtHome, Cond.code yX2_taxAtHome cX2_taxAtHome 2 (some .int), Cond.methodLink RX2 93 yX2_incomeAtHome, Cond.instanceMethod yX2_incomeAtHome, Cond.selects RX2 yX2_incomeAtHome yX2_incomeAtHome, Cond.code yX2_incomeAtHome cX2_incomeAtHome 4 (some .int), Cond.methodLink RX2 89 yX2_partAbroad, Cond.instanceMethod yX2_partAbroad, Cond.selects RX2 yX2_partAbroad yX2_partAbroad, Cond.code yX2_partAbroad cX2_partAbroad 4 (some .int), Cond.methodLink RX2 41 Lib.Math.min.name, Cond.methodLink RX2 55 Lib.Math.max.name]
def wsX2_settlementOfYear : List Cond := .code yX2_settlementOfYear cX2_settlementOfYear 1 (some .int) :: ((wsX2_settlementOfYear_r1 ++ (wsX2_settlementOfYear_r2 ++ (wsX2_settlementOfYear_r3 ++ wsX2_settlementOfYear_r4))) ++ wsX20 ++ wsX00 ++ wsJx4a65c0 ++ wsX10)
def wsX2_costOfYear_r1 : List Cond := [Cond.methodLink RX2 117 yX2_taxAtHost, Cond.instanceMethod yX2_taxAtHost, Cond.selects RX2 yX2_taxAtHost yX2_taxAtHost, Cond.initialized RX2, Cond.code yX2_taxAtHost cX2_taxAtHost 1 (some .int), Cond.fieldLink RX2 35 "TaxEqualiser$Person" "host" "LTaxEqualiser$Land;", Cond.methodLink RX2 99 yX2_incomeAtHost, Cond.instanceMethod yX2_incomeAtHost, Cond.selects RX2 yX2_incomeAtHost yX2_incomeAtHost, Cond.code yX2_incomeAtHost cX2_incomeAtHost 3 (some .int), Cond.fieldLink RX2 38 "TaxEqualiser$Person" "pay" "I", Cond.fieldLink RX2 12 "TaxEqualiser$Person" "bonuses" "Ljava/util/List;", Cond.classLink RX2 48 "TaxEqualiser$Bonus", Cond.methodLink RX2 77 yX2_monthsAbroad, Cond.instanceMethod yX2_monthsAbroad, Cond.selects RX2 yX2_monthsAbroad yX2_monthsAbroad, Cond.code yX2_monthsAbroad cX2_monthsAbroad 1 (some .int), Cond.fieldLink RX2 22 "TaxEqualiser$Person" "abroadTo" "I", Cond.fieldLink RX2 18 "TaxEqualiser$Person" "abroadFrom" "I", Cond.methodLink RX2 96 yX2_housingInYear, Cond.instanceMethod yX2_housingInYear, Cond.selects RX2 yX2_housingInYear yX2_housingInYear, Cond.code yX2_housingInYear cX2_housingInYear 1 (some .int), Cond.fieldLink RX2 25 "TaxEqualiser$Person" "rent" "I"]
def wsX2_costOfYear_r2 : List Cond := [Cond.methodLink RX2 83 yX2_ownShare, Cond.instanceMethod yX2_ownShare, Cond.selects RX2 yX2_ownShare yX2_ownShare, Cond.code yX2_ownShare cX2_ownShare 1 (some .int), Cond.fieldLink RX2 28 "TaxEqualiser$Person" "norm" "I", Cond.methodLink RX2 41 Lib.Math.min.name, Cond.static Lib.Math.min.name, Cond.initialized "java/lang/Math", Cond.code Lib.Math.min.name Lib.Math.min.code 2 (some .int), Cond.methodLink RX2 61 ⟨"java/util/List", "size", "()I"⟩, Cond.selects RJx4a65c ⟨"java/util/List", "size", "()I"⟩ yJx4a65c_size_8abf5, Cond.instanceMethod yJx4a65c_size_8abf5, Cond.initialized RJx4a65c, Cond.code yJx4a65c_size_8abf5 cJx4a65c_size_8abf5 1 (some .int), Cond.fieldLink RJx4a65c 48 "java/util/ArrayList" "size" "I", Cond.methodLink RX2 67 ⟨"java/util/List", "get", "(I)Ljava/lang/Object;"⟩, Cond.selects RJx4a65c ⟨"java/util/List", "get", "(I)Ljava/lang/Object;"⟩ yJx4a65c_get_915e3, Cond.instanceMethod yJx4a65c_get_915e3, Cond.code yJx4a65c_get_915e3 cJx4a65c_get_915e3 2 (some (.object "java/lang/Object")), Cond.methodLink RJx4a65c 118 yJ15_checkIndex_7cf53, Cond.static yJ15_checkIndex_7cf53, Cond.initialized RJ15, Cond.code yJ15_checkIndex_7cf53 cJ15_checkIndex_7cf53 2 (some .int), Cond.methodLink RJ15 105 yJ3_checkIndex_8e157]
def wsX2_costOfYear_r3 : List Cond := [Cond.static yJ3_checkIndex_8e157, Cond.initialized RJ3, Cond.code yJ3_checkIndex_8e157 cJ3_checkIndex_8e157 3 (some .int), Cond.methodLink RJx4a65c 123 yJx4a65c_elementData_915e3, Cond.instanceMethod yJx4a65c_elementData_915e3, Cond.selects RJx4a65c yJx4a65c_elementData_915e3 yJx4a65c_elementData_915e3, Cond.code yJx4a65c_elementData_915e3 cJx4a65c_elementData_915e3 2 (some (.object "java/lang/Object")), Cond.fieldLink RJx4a65c 9 "java/util/ArrayList" "elementData" "[Ljava/lang/Object;", Cond.methodLink RX2 89 yX2_partAbroad, Cond.instanceMethod yX2_partAbroad, Cond.selects RX2 yX2_partAbroad yX2_partAbroad, Cond.code yX2_partAbroad cX2_partAbroad 4 (some .int), Cond.methodLink RX2 55 Lib.Math.max.name, Cond.static Lib.Math.max.name, Cond.code Lib.Math.max.name Lib.Math.max.code 2 (some .int), Cond.methodLink RX2 102 yX1_grossTaxOf, Cond.instanceMethod yX1_grossTaxOf, Cond.selects RX1 yX1_grossTaxOf yX1_grossTaxOf, Cond.initialized RX1, Cond.code yX1_grossTaxOf cX1_grossTaxOf 6 (some .int), Cond.methodLink RX1 39 yX1_mostGrossTax, Cond.static yX1_mostGrossTax, Cond.code yX1_mostGrossTax cX1_mostGrossTax 1 (some .int), Cond.methodLink RX1 43 yX1_taxOf]
def wsX2_costOfYear_r4 : List Cond := [Cond.instanceMethod yX1_taxOf, Cond.selects RX1 yX1_taxOf yX1_taxOf, Cond.code yX1_taxOf cX1_taxOf 8 (some .int), Cond.fieldLink RX1 9 "TaxEqualiser$Land" "lower" "I", Cond.methodLink RX1 28 Lib.Math.min.name, Cond.fieldLink RX1 16 "TaxEqualiser$Land" "upper" "I", Cond.methodLink RX1 34 Lib.Math.max.name, Cond.fieldLink RX1 19 "TaxEqualiser$Land" "first" "I", Cond.fieldLink RX1 22 "TaxEqualiser$Land" "second" "I", Cond.fieldLink RX1 25 "TaxEqualiser$Land" "third" "I", Cond.constantLong RX1 37 (100), Cond.methodLink RX2 105 yX2_heldInYear, Cond.instanceMethod yX2_heldInYear, Cond.selects RX2 yX2_heldInYear yX2_heldInYear, Cond.code yX2_heldInYear cX2_heldInYear 1 (some .int), Cond.methodLink RX2 80 yX2_heldEachMonth, Cond.instanceMethod yX2_heldEachMonth, Cond.selects RX2 yX2_heldEachMonth yX2_heldEachMonth, Cond.code yX2_heldEachMonth cX2_heldEachMonth 1 (some .int), Cond.fieldLink RX2 31 "TaxEqualiser$Person" "home" "LTaxEqualiser$Land;", Cond.methodLink RX2 71 yX1_taxOf, Cond.methodLink RX2 120 yX2_settlementOfYear, Cond.instanceMethod yX2_settlementOfYear, Cond.selects RX2 yX2_settlementOfYear yX2_settlementOfYear]
def wsX2_costOfYear_r5 : List Cond := [Cond.code yX2_settlementOfYear cX2_settlementOfYear 1 (some .int), Cond.methodLink RX2 111 yX2_supposedTaxOfYear, Cond.instanceMethod yX2_supposedTaxOfYear, Cond.selects RX2 yX2_supposedTaxOfYear yX2_supposedTaxOfYear, Cond.code yX2_supposedTaxOfYear cX2_supposedTaxOfYear 1 (some .int), Cond.methodLink RX2 86 yX2_wholeIncome, Cond.instanceMethod yX2_wholeIncome, Cond.selects RX2 yX2_wholeIncome yX2_wholeIncome, Cond.code yX2_wholeIncome cX2_wholeIncome 3 (some .int), Cond.methodLink RX2 114 yX2_borneInYear, Cond.instanceMethod yX2_borneInYear, Cond.selects RX2 yX2_borneInYear yX2_borneInYear, Cond.code yX2_borneInYear cX2_borneInYear 1 (some .int), Cond.methodLink RX2 108 yX2_taxAtHome, Cond.instanceMethod yX2_taxAtHome, Cond.selects RX2 yX2_taxAtHome yX2_taxAtHome, Cond.code yX2_taxAtHome cX2_taxAtHome 2 (some .int), Cond.methodLink RX2 93 yX2_incomeAtHome, Cond.instanceMethod yX2_incomeAtHome, Cond.selects RX2 yX2_incomeAtHome yX2_incomeAtHome, Cond.code yX2_incomeAtHome cX2_incomeAtHome 4 (some .int)]
def wsX2_costOfYear : List Cond := .code yX2_costOfYear cX2_costOfYear 1 (some .int) :: ((wsX2_costOfYear_r1 ++ (wsX2_costOfYear_r2 ++ (wsX2_costOfYear_r3 ++ (wsX2_costOfYear_r4 ++ wsX2_costOfYear_r5)))) ++ wsX20 ++ wsJx4a65c0 ++ wsX00 ++ wsX10)
def wsJ8_hugeLength_7cf53 : List Cond := .code yJ8_hugeLength_7cf53 cJ8_hugeLength_7cf53 3 (some .int) :: ([.constant RJ8 200 (2147483639)])
def wsJ8_newLength_cabcc : List Cond := .code yJ8_newLength_cabcc cJ8_newLength_cabcc 4 (some .int) :: ([.methodLink RJ8 194 Lib.Math.max.name, .static Lib.Math.max.name, .initialized "java/lang/Math", .code Lib.Math.max.name Lib.Math.max.code 2 (some .int), .constant RJ8 200 (2147483639), .methodLink RJ8 201 yJ8_hugeLength_7cf53, .static yJ8_hugeLength_7cf53, .initialized RJ8, .code yJ8_hugeLength_7cf53 cJ8_hugeLength_7cf53 3 (some .int)])
def wsJ7_copyOf_6403c : List Cond := .code yJ7_copyOf_6403c cJ7_copyOf_6403c 4 (some (.array (.object "java/lang/Object"))) :: ([.classLink RJ7 110 "[Ljava/lang/Object;", .classLink RJ7 2 "java/lang/Object", .methodLink RJ7 304 Lib.Math.min.name, .static Lib.Math.min.name, .initialized "java/lang/Math", .code Lib.Math.min.name Lib.Math.min.code 2 (some .int), .methodLink RJ7 150 arraycopyName, .native arraycopyName, .static arraycopyName, .initialized "java/lang/System"])
def wsJ7_copyOf_1904c : List Cond := .code yJ7_copyOf_1904c cJ7_copyOf_1904c 2 (some (.array (.object "java/lang/Object"))) :: ([.methodLink RJ7 86 ⟨"java/lang/Object", "getClass", "()Ljava/lang/Class;"⟩, .selects "[Ljava/lang/Object;" ⟨"java/lang/Object", "getClass", "()Ljava/lang/Class;"⟩ ⟨"java/lang/Object", "getClass", "()Ljava/lang/Class;"⟩, .instanceMethod ⟨"java/lang/Object", "getClass", "()Ljava/lang/Class;"⟩, .native ⟨"java/lang/Object", "getClass", "()Ljava/lang/Class;"⟩, .methodLink RJ7 300 yJ7_copyOf_6403c, .static yJ7_copyOf_6403c, .initialized RJ7, .code yJ7_copyOf_6403c cJ7_copyOf_6403c 4 (some (.array (.object "java/lang/Object"))), .classLink RJ7 110 "[Ljava/lang/Object;", .classLink RJ7 2 "java/lang/Object", .methodLink RJ7 304 Lib.Math.min.name, .static Lib.Math.min.name, .initialized "java/lang/Math", .code Lib.Math.min.name Lib.Math.min.code 2 (some .int), .methodLink RJ7 150 arraycopyName, .native arraycopyName, .static arraycopyName, .initialized "java/lang/System"])
def wsJx4a65c_grow_92f84_r1 : List Cond := [Cond.fieldLink RJx4a65c 9 "java/util/ArrayList" "elementData" "[Ljava/lang/Object;", Cond.fieldLink RJx4a65c 39 "java/util/ArrayList" "DEFAULTCAPACITY_EMPTY_ELEMENTDATA" "[Ljava/lang/Object;", Cond.methodLink RJx4a65c 79 Lib.Math.max.name, Cond.static Lib.Math.max.name, Cond.initialized "java/lang/Math", Cond.code Lib.Math.max.name Lib.Math.max.code 2 (some .int), Cond.classLink RJx4a65c 7 "java/lang/Object", Cond.methodLink RJx4a65c 73 yJ8_newLength_cabcc, Cond.static yJ8_newLength_cabcc, Cond.initialized RJ8, Cond.code yJ8_newLength_cabcc cJ8_newLength_cabcc 4 (some .int), Cond.methodLink RJ8 194 Lib.Math.max.name, Cond.constant RJ8 200 (2147483639), Cond.methodLink RJ8 201 yJ8_hugeLength_7cf53, Cond.static yJ8_hugeLength_7cf53, Cond.code yJ8_hugeLength_7cf53 cJ8_hugeLength_7cf53 3 (some .int), Cond.methodLink RJx4a65c 66 yJ7_copyOf_1904c, Cond.static yJ7_copyOf_1904c, Cond.initialized RJ7, Cond.code yJ7_copyOf_1904c cJ7_copyOf_1904c 2 (some (.array (.object "java/lang/Object"))), Cond.methodLink RJ7 86 ⟨"java/lang/Object", "getClass", "()Ljava/lang/Class;"⟩, Cond.selects "[Ljava/lang/Object;" ⟨"java/lang/Object", "getClass", "()Ljava/lang/Class;"⟩ ⟨"java/lang/Object", "getClass", "()Ljava/lang/Class;"⟩, Cond.instanceMethod ⟨"java/lang/Object", "getClass", "()Ljava/lang/Class;"⟩, Cond.native ⟨"java/lang/Object", "getClass", "()Ljava/lang/Class;"⟩]
def wsJx4a65c_grow_92f84_r2 : List Cond := [Cond.methodLink RJ7 300 yJ7_copyOf_6403c, Cond.static yJ7_copyOf_6403c, Cond.code yJ7_copyOf_6403c cJ7_copyOf_6403c 4 (some (.array (.object "java/lang/Object"))), Cond.classLink RJ7 110 "[Ljava/lang/Object;", Cond.classLink RJ7 2 "java/lang/Object", Cond.methodLink RJ7 304 Lib.Math.min.name, Cond.static Lib.Math.min.name, Cond.code Lib.Math.min.name Lib.Math.min.code 2 (some .int), Cond.methodLink RJ7 150 arraycopyName, Cond.native arraycopyName, Cond.static arraycopyName, Cond.initialized "java/lang/System"]
def wsJx4a65c_grow_92f84 : List Cond := .code yJx4a65c_grow_92f84 cJx4a65c_grow_92f84 4 (some (.array (.object "java/lang/Object"))) :: ((wsJx4a65c_grow_92f84_r1 ++ wsJx4a65c_grow_92f84_r2) ++ wsJx4a65c0)
def wsJx4a65c_grow_d5877_r1 : List Cond := [Cond.fieldLink RJx4a65c 48 "java/util/ArrayList" "size" "I", Cond.methodLink RJx4a65c 69 yJx4a65c_grow_92f84, Cond.instanceMethod yJx4a65c_grow_92f84, Cond.selects RJx4a65c yJx4a65c_grow_92f84 yJx4a65c_grow_92f84, Cond.initialized RJx4a65c, Cond.code yJx4a65c_grow_92f84 cJx4a65c_grow_92f84 4 (some (.array (.object "java/lang/Object"))), Cond.fieldLink RJx4a65c 9 "java/util/ArrayList" "elementData" "[Ljava/lang/Object;", Cond.fieldLink RJx4a65c 39 "java/util/ArrayList" "DEFAULTCAPACITY_EMPTY_ELEMENTDATA" "[Ljava/lang/Object;", Cond.methodLink RJx4a65c 79 Lib.Math.max.name, Cond.static Lib.Math.max.name, Cond.initialized "java/lang/Math", Cond.code Lib.Math.max.name Lib.Math.max.code 2 (some .int), Cond.classLink RJx4a65c 7 "java/lang/Object", Cond.methodLink RJx4a65c 73 yJ8_newLength_cabcc, Cond.static yJ8_newLength_cabcc, Cond.initialized RJ8, Cond.code yJ8_newLength_cabcc cJ8_newLength_cabcc 4 (some .int), Cond.methodLink RJ8 194 Lib.Math.max.name, Cond.constant RJ8 200 (2147483639), Cond.methodLink RJ8 201 yJ8_hugeLength_7cf53, Cond.static yJ8_hugeLength_7cf53, Cond.code yJ8_hugeLength_7cf53 cJ8_hugeLength_7cf53 3 (some .int), Cond.methodLink RJx4a65c 66 yJ7_copyOf_1904c, Cond.static yJ7_copyOf_1904c]
def wsJx4a65c_grow_d5877_r2 : List Cond := [Cond.initialized RJ7, Cond.code yJ7_copyOf_1904c cJ7_copyOf_1904c 2 (some (.array (.object "java/lang/Object"))), Cond.methodLink RJ7 86 ⟨"java/lang/Object", "getClass", "()Ljava/lang/Class;"⟩, Cond.selects "[Ljava/lang/Object;" ⟨"java/lang/Object", "getClass", "()Ljava/lang/Class;"⟩ ⟨"java/lang/Object", "getClass", "()Ljava/lang/Class;"⟩, Cond.instanceMethod ⟨"java/lang/Object", "getClass", "()Ljava/lang/Class;"⟩, Cond.native ⟨"java/lang/Object", "getClass", "()Ljava/lang/Class;"⟩, Cond.methodLink RJ7 300 yJ7_copyOf_6403c, Cond.static yJ7_copyOf_6403c, Cond.code yJ7_copyOf_6403c cJ7_copyOf_6403c 4 (some (.array (.object "java/lang/Object"))), Cond.classLink RJ7 110 "[Ljava/lang/Object;", Cond.classLink RJ7 2 "java/lang/Object", Cond.methodLink RJ7 304 Lib.Math.min.name, Cond.static Lib.Math.min.name, Cond.code Lib.Math.min.name Lib.Math.min.code 2 (some .int), Cond.methodLink RJ7 150 arraycopyName, Cond.native arraycopyName, Cond.static arraycopyName, Cond.initialized "java/lang/System"]
def wsJx4a65c_grow_d5877 : List Cond := .code yJx4a65c_grow_d5877 cJx4a65c_grow_d5877 1 (some (.array (.object "java/lang/Object"))) :: ((wsJx4a65c_grow_d5877_r1 ++ wsJx4a65c_grow_d5877_r2) ++ wsJx4a65c0)
def wsJx4a65c_add_72be8_r1 : List Cond := [Cond.fieldLink RJx4a65c 48 "java/util/ArrayList" "size" "I", Cond.methodLink RJx4a65c 129 yJx4a65c_grow_d5877, Cond.instanceMethod yJx4a65c_grow_d5877, Cond.selects RJx4a65c yJx4a65c_grow_d5877 yJx4a65c_grow_d5877, Cond.initialized RJx4a65c, Cond.code yJx4a65c_grow_d5877 cJx4a65c_grow_d5877 1 (some (.array (.object "java/lang/Object"))), Cond.methodLink RJx4a65c 69 yJx4a65c_grow_92f84, Cond.instanceMethod yJx4a65c_grow_92f84, Cond.selects RJx4a65c yJx4a65c_grow_92f84 yJx4a65c_grow_92f84, Cond.code yJx4a65c_grow_92f84 cJx4a65c_grow_92f84 4 (some (.array (.object "java/lang/Object"))), Cond.fieldLink RJx4a65c 9 "java/util/ArrayList" "elementData" "[Ljava/lang/Object;", Cond.fieldLink RJx4a65c 39 "java/util/ArrayList" "DEFAULTCAPACITY_EMPTY_ELEMENTDATA" "[Ljava/lang/Object;", Cond.methodLink RJx4a65c 79 Lib.Math.max.name, Cond.static Lib.Math.max.name, Cond.initialized "java/lang/Math", Cond.code Lib.Math.max.name Lib.Math.max.code 2 (some .int), Cond.classLink RJx4a65c 7 "java/lang/Object", Cond.methodLink RJx4a65c 73 yJ8_newLength_cabcc, Cond.static yJ8_newLength_cabcc, Cond.initialized RJ8, Cond.code yJ8_newLength_cabcc cJ8_newLength_cabcc 4 (some .int), Cond.methodLink RJ8 194 Lib.Math.max.name, Cond.constant RJ8 200 (2147483639), Cond.methodLink RJ8 201 yJ8_hugeLength_7cf53]
def wsJx4a65c_add_72be8_r2 : List Cond := [Cond.static yJ8_hugeLength_7cf53, Cond.code yJ8_hugeLength_7cf53 cJ8_hugeLength_7cf53 3 (some .int), Cond.methodLink RJx4a65c 66 yJ7_copyOf_1904c, Cond.static yJ7_copyOf_1904c, Cond.initialized RJ7, Cond.code yJ7_copyOf_1904c cJ7_copyOf_1904c 2 (some (.array (.object "java/lang/Object"))), Cond.methodLink RJ7 86 ⟨"java/lang/Object", "getClass", "()Ljava/lang/Class;"⟩, Cond.selects "[Ljava/lang/Object;" ⟨"java/lang/Object", "getClass", "()Ljava/lang/Class;"⟩ ⟨"java/lang/Object", "getClass", "()Ljava/lang/Class;"⟩, Cond.instanceMethod ⟨"java/lang/Object", "getClass", "()Ljava/lang/Class;"⟩, Cond.native ⟨"java/lang/Object", "getClass", "()Ljava/lang/Class;"⟩, Cond.methodLink RJ7 300 yJ7_copyOf_6403c, Cond.static yJ7_copyOf_6403c, Cond.code yJ7_copyOf_6403c cJ7_copyOf_6403c 4 (some (.array (.object "java/lang/Object"))), Cond.classLink RJ7 110 "[Ljava/lang/Object;", Cond.classLink RJ7 2 "java/lang/Object", Cond.methodLink RJ7 304 Lib.Math.min.name, Cond.static Lib.Math.min.name, Cond.code Lib.Math.min.name Lib.Math.min.code 2 (some .int), Cond.methodLink RJ7 150 arraycopyName, Cond.native arraycopyName, Cond.static arraycopyName, Cond.initialized "java/lang/System"]
def wsJx4a65c_add_72be8 : List Cond := .code yJx4a65c_add_72be8 cJx4a65c_add_72be8 4 none :: ((wsJx4a65c_add_72be8_r1 ++ wsJx4a65c_add_72be8_r2) ++ wsJx4a65c0)
def wsJx4a65c_add_9ea2d_r1 : List Cond := [Cond.fieldLink RJx4a65c 63 "java/util/ArrayList" "modCount" "I", Cond.sameField "java/util/ArrayList" "java/util/AbstractList" "modCount" "I", Cond.fieldLink RJx4a65c 9 "java/util/ArrayList" "elementData" "[Ljava/lang/Object;", Cond.fieldLink RJx4a65c 48 "java/util/ArrayList" "size" "I", Cond.methodLink RJx4a65c 131 yJx4a65c_add_72be8, Cond.instanceMethod yJx4a65c_add_72be8, Cond.selects RJx4a65c yJx4a65c_add_72be8 yJx4a65c_add_72be8, Cond.initialized RJx4a65c, Cond.code yJx4a65c_add_72be8 cJx4a65c_add_72be8 4 none, Cond.methodLink RJx4a65c 129 yJx4a65c_grow_d5877, Cond.instanceMethod yJx4a65c_grow_d5877, Cond.selects RJx4a65c yJx4a65c_grow_d5877 yJx4a65c_grow_d5877, Cond.code yJx4a65c_grow_d5877 cJx4a65c_grow_d5877 1 (some (.array (.object "java/lang/Object"))), Cond.methodLink RJx4a65c 69 yJx4a65c_grow_92f84, Cond.instanceMethod yJx4a65c_grow_92f84, Cond.selects RJx4a65c yJx4a65c_grow_92f84 yJx4a65c_grow_92f84, Cond.code yJx4a65c_grow_92f84 cJx4a65c_grow_92f84 4 (some (.array (.object "java/lang/Object"))), Cond.fieldLink RJx4a65c 39 "java/util/ArrayList" "DEFAULTCAPACITY_EMPTY_ELEMENTDATA" "[Ljava/lang/Object;", Cond.methodLink RJx4a65c 79 Lib.Math.max.name, Cond.static Lib.Math.max.name, Cond.initialized "java/lang/Math", Cond.code Lib.Math.max.name Lib.Math.max.code 2 (some .int), Cond.classLink RJx4a65c 7 "java/lang/Object", Cond.methodLink RJx4a65c 73 yJ8_newLength_cabcc]
def wsJx4a65c_add_9ea2d_r2 : List Cond := [Cond.static yJ8_newLength_cabcc, Cond.initialized RJ8, Cond.code yJ8_newLength_cabcc cJ8_newLength_cabcc 4 (some .int), Cond.methodLink RJ8 194 Lib.Math.max.name, Cond.constant RJ8 200 (2147483639), Cond.methodLink RJ8 201 yJ8_hugeLength_7cf53, Cond.static yJ8_hugeLength_7cf53, Cond.code yJ8_hugeLength_7cf53 cJ8_hugeLength_7cf53 3 (some .int), Cond.methodLink RJx4a65c 66 yJ7_copyOf_1904c, Cond.static yJ7_copyOf_1904c, Cond.initialized RJ7, Cond.code yJ7_copyOf_1904c cJ7_copyOf_1904c 2 (some (.array (.object "java/lang/Object"))), Cond.methodLink RJ7 86 ⟨"java/lang/Object", "getClass", "()Ljava/lang/Class;"⟩, Cond.selects "[Ljava/lang/Object;" ⟨"java/lang/Object", "getClass", "()Ljava/lang/Class;"⟩ ⟨"java/lang/Object", "getClass", "()Ljava/lang/Class;"⟩, Cond.instanceMethod ⟨"java/lang/Object", "getClass", "()Ljava/lang/Class;"⟩, Cond.native ⟨"java/lang/Object", "getClass", "()Ljava/lang/Class;"⟩, Cond.methodLink RJ7 300 yJ7_copyOf_6403c, Cond.static yJ7_copyOf_6403c, Cond.code yJ7_copyOf_6403c cJ7_copyOf_6403c 4 (some (.array (.object "java/lang/Object"))), Cond.classLink RJ7 110 "[Ljava/lang/Object;", Cond.classLink RJ7 2 "java/lang/Object", Cond.methodLink RJ7 304 Lib.Math.min.name, Cond.static Lib.Math.min.name, Cond.code Lib.Math.min.name Lib.Math.min.code 2 (some .int)]
def wsJx4a65c_add_9ea2d_r3 : List Cond := [Cond.methodLink RJ7 150 arraycopyName, Cond.native arraycopyName, Cond.static arraycopyName, Cond.initialized "java/lang/System"]
def wsJx4a65c_add_9ea2d : List Cond := .code yJx4a65c_add_9ea2d cJx4a65c_add_9ea2d 2 (some .boolean) :: ((wsJx4a65c_add_9ea2d_r1 ++ (wsJx4a65c_add_9ea2d_r2 ++ wsJx4a65c_add_9ea2d_r3)) ++ wsJx4a65c0)
def wsX3_init_r1 : List Cond := [Cond.methodLink RX3 1 objectInit, Cond.instanceMethod objectInit, Cond.code objectInit ⟨#[0xb1]⟩ 1 none, Cond.classLink RX3 7 RJx4a65c, Cond.instantiable RJx4a65c 3, Cond.initialized RJx4a65c, Cond.fieldLink RX3 10 "TaxEqualiser" "lands" "Ljava/util/List;", Cond.fieldLink RX3 16 "TaxEqualiser" "staff" "Ljava/util/List;", Cond.classLink RX3 19 RX1, Cond.instantiable RX1 5, Cond.initialized RX1, Cond.methodLink RX3 9 yJx4a65c_init_da8c8, Cond.instanceMethod yJx4a65c_init_da8c8, Cond.code yJx4a65c_init_da8c8 cJx4a65c_init_da8c8 1 none, Cond.fieldLink RJx4a65c 39 "java/util/ArrayList" "DEFAULTCAPACITY_EMPTY_ELEMENTDATA" "[Ljava/lang/Object;", Cond.fieldLink RJx4a65c 9 "java/util/ArrayList" "elementData" "[Ljava/lang/Object;", Cond.methodLink RJx4a65c 1 yJxc12de_init_da8c8, Cond.instanceMethod yJxc12de_init_da8c8, Cond.initialized RJxc12de, Cond.code yJxc12de_init_da8c8 cJxc12de_init_da8c8 1 none, Cond.fieldLink RJxc12de 7 "java/util/AbstractList" "modCount" "I", Cond.methodLink RJxc12de 1 yJxa1e45_init_da8c8, Cond.instanceMethod yJxa1e45_init_da8c8, Cond.initialized RJxa1e45]
def wsX3_init_r2 : List Cond := [Cond.code yJxa1e45_init_da8c8 cJxa1e45_init_da8c8 1 none, Cond.methodLink RJxa1e45 1 objectInit, Cond.instanceMethod yX1_init, Cond.code yX1_init cX1_init 1 none, Cond.methodLink RX1 3 objectInit, Cond.fieldLink RX1 9 "TaxEqualiser$Land" "lower" "I", Cond.constant RX1 15 (40000), Cond.fieldLink RX1 16 "TaxEqualiser$Land" "upper" "I", Cond.fieldLink RX1 19 "TaxEqualiser$Land" "first" "I", Cond.fieldLink RX1 22 "TaxEqualiser$Land" "second" "I", Cond.fieldLink RX1 25 "TaxEqualiser$Land" "third" "I", Cond.methodLink RX3 22 ⟨"java/util/List", "add", "(Ljava/lang/Object;)Z"⟩, Cond.selects RJx4a65c ⟨"java/util/List", "add", "(Ljava/lang/Object;)Z"⟩ yJx4a65c_add_9ea2d, Cond.instanceMethod yJx4a65c_add_9ea2d, Cond.code yJx4a65c_add_9ea2d cJx4a65c_add_9ea2d 2 (some .boolean), Cond.fieldLink RJx4a65c 63 "java/util/ArrayList" "modCount" "I", Cond.sameField "java/util/ArrayList" "java/util/AbstractList" "modCount" "I", Cond.fieldLink RJx4a65c 48 "java/util/ArrayList" "size" "I", Cond.methodLink RJx4a65c 131 yJx4a65c_add_72be8, Cond.instanceMethod yJx4a65c_add_72be8, Cond.selects RJx4a65c yJx4a65c_add_72be8 yJx4a65c_add_72be8, Cond.code yJx4a65c_add_72be8 cJx4a65c_add_72be8 4 none, Cond.methodLink RJx4a65c 129 yJx4a65c_grow_d5877, Cond.instanceMethod yJx4a65c_grow_d5877]
def wsX3_init_r3 : List Cond := [Cond.selects RJx4a65c yJx4a65c_grow_d5877 yJx4a65c_grow_d5877, Cond.code yJx4a65c_grow_d5877 cJx4a65c_grow_d5877 1 (some (.array (.object "java/lang/Object"))), Cond.methodLink RJx4a65c 69 yJx4a65c_grow_92f84, Cond.instanceMethod yJx4a65c_grow_92f84, Cond.selects RJx4a65c yJx4a65c_grow_92f84 yJx4a65c_grow_92f84, Cond.code yJx4a65c_grow_92f84 cJx4a65c_grow_92f84 4 (some (.array (.object "java/lang/Object"))), Cond.methodLink RJx4a65c 79 Lib.Math.max.name, Cond.static Lib.Math.max.name, Cond.initialized "java/lang/Math", Cond.code Lib.Math.max.name Lib.Math.max.code 2 (some .int), Cond.classLink RJx4a65c 7 "java/lang/Object", Cond.methodLink RJx4a65c 73 yJ8_newLength_cabcc, Cond.static yJ8_newLength_cabcc, Cond.initialized RJ8, Cond.code yJ8_newLength_cabcc cJ8_newLength_cabcc 4 (some .int), Cond.methodLink RJ8 194 Lib.Math.max.name, Cond.constant RJ8 200 (2147483639), Cond.methodLink RJ8 201 yJ8_hugeLength_7cf53, Cond.static yJ8_hugeLength_7cf53, Cond.code yJ8_hugeLength_7cf53 cJ8_hugeLength_7cf53 3 (some .int), Cond.methodLink RJx4a65c 66 yJ7_copyOf_1904c, Cond.static yJ7_copyOf_1904c, Cond.initialized RJ7, Cond.code yJ7_copyOf_1904c cJ7_copyOf_1904c 2 (some (.array (.object "java/lang/Object")))]
def wsX3_init_r4 : List Cond := [Cond.methodLink RJ7 86 ⟨"java/lang/Object", "getClass", "()Ljava/lang/Class;"⟩, Cond.selects "[Ljava/lang/Object;" ⟨"java/lang/Object", "getClass", "()Ljava/lang/Class;"⟩ ⟨"java/lang/Object", "getClass", "()Ljava/lang/Class;"⟩, Cond.instanceMethod ⟨"java/lang/Object", "getClass", "()Ljava/lang/Class;"⟩, Cond.native ⟨"java/lang/Object", "getClass", "()Ljava/lang/Class;"⟩, Cond.methodLink RJ7 300 yJ7_copyOf_6403c, Cond.static yJ7_copyOf_6403c, Cond.code yJ7_copyOf_6403c cJ7_copyOf_6403c 4 (some (.array (.object "java/lang/Object"))), Cond.classLink RJ7 110 "[Ljava/lang/Object;", Cond.classLink RJ7 2 "java/lang/Object", Cond.methodLink RJ7 304 Lib.Math.min.name, Cond.static Lib.Math.min.name, Cond.code Lib.Math.min.name Lib.Math.min.code 2 (some .int), Cond.methodLink RJ7 150 arraycopyName, Cond.native arraycopyName, Cond.static arraycopyName, Cond.initialized "java/lang/System"]
def wsX3_init : List Cond := .code yX3_init cX3_init 2 none :: ((wsX3_init_r1 ++ (wsX3_init_r2 ++ (wsX3_init_r3 ++ wsX3_init_r4))) ++ wsJx4a65c0 ++ wsX30 ++ wsX10)
def wsX3_landAt_r1 : List Cond := [Cond.classLink RX3 55 "java/lang/IllegalArgumentException", Cond.initialized "java/lang/IllegalArgumentException", Cond.fieldLink RX3 10 "TaxEqualiser" "lands" "Ljava/util/List;", Cond.classLink RX3 19 "TaxEqualiser$Land", Cond.methodLink RX3 63 ⟨"java/util/List", "size", "()I"⟩, Cond.selects RJx4a65c ⟨"java/util/List", "size", "()I"⟩ yJx4a65c_size_8abf5, Cond.instanceMethod yJx4a65c_size_8abf5, Cond.initialized RJx4a65c, Cond.code yJx4a65c_size_8abf5 cJx4a65c_size_8abf5 1 (some .int), Cond.fieldLink RJx4a65c 48 "java/util/ArrayList" "size" "I", Cond.methodLink RX3 119 ⟨"java/util/List", "get", "(I)Ljava/lang/Object;"⟩, Cond.selects RJx4a65c ⟨"java/util/List", "get", "(I)Ljava/lang/Object;"⟩ yJx4a65c_get_915e3, Cond.instanceMethod yJx4a65c_get_915e3, Cond.code yJx4a65c_get_915e3 cJx4a65c_get_915e3 2 (some (.object "java/lang/Object")), Cond.methodLink RJx4a65c 118 yJ15_checkIndex_7cf53, Cond.static yJ15_checkIndex_7cf53, Cond.initialized RJ15, Cond.code yJ15_checkIndex_7cf53 cJ15_checkIndex_7cf53 2 (some .int), Cond.methodLink RJ15 105 yJ3_checkIndex_8e157, Cond.static yJ3_checkIndex_8e157, Cond.initialized RJ3, Cond.code yJ3_checkIndex_8e157 cJ3_checkIndex_8e157 3 (some .int), Cond.methodLink RJx4a65c 123 yJx4a65c_elementData_915e3, Cond.instanceMethod yJx4a65c_elementData_915e3]
def wsX3_landAt_r2 : List Cond := [Cond.selects RJx4a65c yJx4a65c_elementData_915e3 yJx4a65c_elementData_915e3, Cond.code yJx4a65c_elementData_915e3 cJx4a65c_elementData_915e3 2 (some (.object "java/lang/Object")), Cond.fieldLink RJx4a65c 9 "java/util/ArrayList" "elementData" "[Ljava/lang/Object;"]
def wsX3_landAt : List Cond := .code yX3_landAt cX3_landAt 2 (some (.object "TaxEqualiser$Land")) :: ((wsX3_landAt_r1 ++ wsX3_landAt_r2) ++ wsX30 ++ wsJx4a65c0 ++ (vx_atS RX3 59 "java/lang/IllegalArgumentException" ["java/lang/RuntimeException", "java/lang/Exception"]).filter goodWord)
def wsX3_requireRange : List Cond := .code yX3_requireRange cX3_requireRange 3 none :: ([.classLink RX3 55 "java/lang/IllegalArgumentException", .initialized "java/lang/IllegalArgumentException"] ++ (vx_atS RX3 59 "java/lang/IllegalArgumentException" ["java/lang/RuntimeException", "java/lang/Exception"]).filter goodWord)
def wsX3_setLimits_r1 : List Cond := [Cond.constant RX3 32 (1000000), Cond.methodLink RX3 28 yX3_landAt, Cond.instanceMethod yX3_landAt, Cond.selects RX3 yX3_landAt yX3_landAt, Cond.initialized RX3, Cond.code yX3_landAt cX3_landAt 2 (some (.object "TaxEqualiser$Land")), Cond.classLink RX3 55 "java/lang/IllegalArgumentException", Cond.initialized "java/lang/IllegalArgumentException", Cond.fieldLink RX3 10 "TaxEqualiser" "lands" "Ljava/util/List;", Cond.classLink RX3 19 "TaxEqualiser$Land", Cond.methodLink RX3 63 ⟨"java/util/List", "size", "()I"⟩, Cond.selects RJx4a65c ⟨"java/util/List", "size", "()I"⟩ yJx4a65c_size_8abf5, Cond.instanceMethod yJx4a65c_size_8abf5, Cond.initialized RJx4a65c, Cond.code yJx4a65c_size_8abf5 cJx4a65c_size_8abf5 1 (some .int), Cond.fieldLink RJx4a65c 48 "java/util/ArrayList" "size" "I", Cond.methodLink RX3 119 ⟨"java/util/List", "get", "(I)Ljava/lang/Object;"⟩, Cond.selects RJx4a65c ⟨"java/util/List", "get", "(I)Ljava/lang/Object;"⟩ yJx4a65c_get_915e3, Cond.instanceMethod yJx4a65c_get_915e3, Cond.code yJx4a65c_get_915e3 cJx4a65c_get_915e3 2 (some (.object "java/lang/Object")), Cond.methodLink RJx4a65c 118 yJ15_checkIndex_7cf53, Cond.static yJ15_checkIndex_7cf53, Cond.initialized RJ15, Cond.code yJ15_checkIndex_7cf53 cJ15_checkIndex_7cf53 2 (some .int)]
def wsX3_setLimits_r2 : List Cond := [Cond.methodLink RJ15 105 yJ3_checkIndex_8e157, Cond.static yJ3_checkIndex_8e157, Cond.initialized RJ3, Cond.code yJ3_checkIndex_8e157 cJ3_checkIndex_8e157 3 (some .int), Cond.methodLink RJx4a65c 123 yJx4a65c_elementData_915e3, Cond.instanceMethod yJx4a65c_elementData_915e3, Cond.selects RJx4a65c yJx4a65c_elementData_915e3 yJx4a65c_elementData_915e3, Cond.code yJx4a65c_elementData_915e3 cJx4a65c_elementData_915e3 2 (some (.object "java/lang/Object")), Cond.fieldLink RJx4a65c 9 "java/util/ArrayList" "elementData" "[Ljava/lang/Object;", Cond.methodLink RX3 33 yX3_requireRange, Cond.static yX3_requireRange, Cond.code yX3_requireRange cX3_requireRange 3 none, Cond.methodLink RX3 37 yX1_limit, Cond.instanceMethod yX1_limit, Cond.selects RX1 yX1_limit yX1_limit, Cond.initialized RX1, Cond.code yX1_limit cX1_limit 3 none, Cond.fieldLink RX1 9 "TaxEqualiser$Land" "lower" "I", Cond.fieldLink RX1 16 "TaxEqualiser$Land" "upper" "I"]
def wsX3_setLimits : List Cond := .code yX3_setLimits cX3_setLimits 5 none :: ((wsX3_setLimits_r1 ++ wsX3_setLimits_r2) ++ wsX30 ++ wsJx4a65c0 ++ wsX10 ++ (vx_atS RX3 59 "java/lang/IllegalArgumentException" ["java/lang/RuntimeException", "java/lang/Exception"]).filter goodWord)
def wsX3_setRates_r1 : List Cond := [Cond.methodLink RX3 28 yX3_landAt, Cond.instanceMethod yX3_landAt, Cond.selects RX3 yX3_landAt yX3_landAt, Cond.initialized RX3, Cond.code yX3_landAt cX3_landAt 2 (some (.object "TaxEqualiser$Land")), Cond.classLink RX3 55 "java/lang/IllegalArgumentException", Cond.initialized "java/lang/IllegalArgumentException", Cond.fieldLink RX3 10 "TaxEqualiser" "lands" "Ljava/util/List;", Cond.classLink RX3 19 "TaxEqualiser$Land", Cond.methodLink RX3 63 ⟨"java/util/List", "size", "()I"⟩, Cond.selects RJx4a65c ⟨"java/util/List", "size", "()I"⟩ yJx4a65c_size_8abf5, Cond.instanceMethod yJx4a65c_size_8abf5, Cond.initialized RJx4a65c, Cond.code yJx4a65c_size_8abf5 cJx4a65c_size_8abf5 1 (some .int), Cond.fieldLink RJx4a65c 48 "java/util/ArrayList" "size" "I", Cond.methodLink RX3 119 ⟨"java/util/List", "get", "(I)Ljava/lang/Object;"⟩, Cond.selects RJx4a65c ⟨"java/util/List", "get", "(I)Ljava/lang/Object;"⟩ yJx4a65c_get_915e3, Cond.instanceMethod yJx4a65c_get_915e3, Cond.code yJx4a65c_get_915e3 cJx4a65c_get_915e3 2 (some (.object "java/lang/Object")), Cond.methodLink RJx4a65c 118 yJ15_checkIndex_7cf53, Cond.static yJ15_checkIndex_7cf53, Cond.initialized RJ15, Cond.code yJ15_checkIndex_7cf53 cJ15_checkIndex_7cf53 2 (some .int), Cond.methodLink RJ15 105 yJ3_checkIndex_8e157]
def wsX3_setRates_r2 : List Cond := [Cond.static yJ3_checkIndex_8e157, Cond.initialized RJ3, Cond.code yJ3_checkIndex_8e157 cJ3_checkIndex_8e157 3 (some .int), Cond.methodLink RJx4a65c 123 yJx4a65c_elementData_915e3, Cond.instanceMethod yJx4a65c_elementData_915e3, Cond.selects RJx4a65c yJx4a65c_elementData_915e3 yJx4a65c_elementData_915e3, Cond.code yJx4a65c_elementData_915e3 cJx4a65c_elementData_915e3 2 (some (.object "java/lang/Object")), Cond.fieldLink RJx4a65c 9 "java/util/ArrayList" "elementData" "[Ljava/lang/Object;", Cond.methodLink RX3 33 yX3_requireRange, Cond.static yX3_requireRange, Cond.code yX3_requireRange cX3_requireRange 3 none, Cond.methodLink RX3 41 yX1_rate, Cond.instanceMethod yX1_rate, Cond.selects RX1 yX1_rate yX1_rate, Cond.initialized RX1, Cond.code yX1_rate cX1_rate 4 none, Cond.fieldLink RX1 19 "TaxEqualiser$Land" "first" "I", Cond.fieldLink RX1 22 "TaxEqualiser$Land" "second" "I", Cond.fieldLink RX1 25 "TaxEqualiser$Land" "third" "I"]
def wsX3_setRates : List Cond := .code yX3_setRates cX3_setRates 6 none :: ((wsX3_setRates_r1 ++ wsX3_setRates_r2) ++ wsX30 ++ wsJx4a65c0 ++ wsX10 ++ (vx_atS RX3 59 "java/lang/IllegalArgumentException" ["java/lang/RuntimeException", "java/lang/Exception"]).filter goodWord)
def wsX3_tax_r1 : List Cond := [Cond.constant RX3 44 (10000000), Cond.methodLink RX3 28 yX3_landAt, Cond.instanceMethod yX3_landAt, Cond.selects RX3 yX3_landAt yX3_landAt, Cond.initialized RX3, Cond.code yX3_landAt cX3_landAt 2 (some (.object "TaxEqualiser$Land")), Cond.classLink RX3 55 "java/lang/IllegalArgumentException", Cond.initialized "java/lang/IllegalArgumentException", Cond.fieldLink RX3 10 "TaxEqualiser" "lands" "Ljava/util/List;", Cond.classLink RX3 19 "TaxEqualiser$Land", Cond.methodLink RX3 63 ⟨"java/util/List", "size", "()I"⟩, Cond.selects RJx4a65c ⟨"java/util/List", "size", "()I"⟩ yJx4a65c_size_8abf5, Cond.instanceMethod yJx4a65c_size_8abf5, Cond.initialized RJx4a65c, Cond.code yJx4a65c_size_8abf5 cJx4a65c_size_8abf5 1 (some .int), Cond.fieldLink RJx4a65c 48 "java/util/ArrayList" "size" "I", Cond.methodLink RX3 119 ⟨"java/util/List", "get", "(I)Ljava/lang/Object;"⟩, Cond.selects RJx4a65c ⟨"java/util/List", "get", "(I)Ljava/lang/Object;"⟩ yJx4a65c_get_915e3, Cond.instanceMethod yJx4a65c_get_915e3, Cond.code yJx4a65c_get_915e3 cJx4a65c_get_915e3 2 (some (.object "java/lang/Object")), Cond.methodLink RJx4a65c 118 yJ15_checkIndex_7cf53, Cond.static yJ15_checkIndex_7cf53, Cond.initialized RJ15, Cond.code yJ15_checkIndex_7cf53 cJ15_checkIndex_7cf53 2 (some .int)]
def wsX3_tax_r2 : List Cond := [Cond.methodLink RJ15 105 yJ3_checkIndex_8e157, Cond.static yJ3_checkIndex_8e157, Cond.initialized RJ3, Cond.code yJ3_checkIndex_8e157 cJ3_checkIndex_8e157 3 (some .int), Cond.methodLink RJx4a65c 123 yJx4a65c_elementData_915e3, Cond.instanceMethod yJx4a65c_elementData_915e3, Cond.selects RJx4a65c yJx4a65c_elementData_915e3 yJx4a65c_elementData_915e3, Cond.code yJx4a65c_elementData_915e3 cJx4a65c_elementData_915e3 2 (some (.object "java/lang/Object")), Cond.fieldLink RJx4a65c 9 "java/util/ArrayList" "elementData" "[Ljava/lang/Object;", Cond.methodLink RX3 33 yX3_requireRange, Cond.static yX3_requireRange, Cond.code yX3_requireRange cX3_requireRange 3 none, Cond.methodLink RX3 45 yX1_taxOf, Cond.instanceMethod yX1_taxOf, Cond.selects RX1 yX1_taxOf yX1_taxOf, Cond.initialized RX1, Cond.code yX1_taxOf cX1_taxOf 8 (some .int), Cond.fieldLink RX1 9 "TaxEqualiser$Land" "lower" "I", Cond.methodLink RX1 28 Lib.Math.min.name, Cond.static Lib.Math.min.name, Cond.initialized "java/lang/Math", Cond.code Lib.Math.min.name Lib.Math.min.code 2 (some .int), Cond.fieldLink RX1 16 "TaxEqualiser$Land" "upper" "I", Cond.methodLink RX1 34 Lib.Math.max.name]
def wsX3_tax_r3 : List Cond := [Cond.static Lib.Math.max.name, Cond.code Lib.Math.max.name Lib.Math.max.code 2 (some .int), Cond.fieldLink RX1 19 "TaxEqualiser$Land" "first" "I", Cond.fieldLink RX1 22 "TaxEqualiser$Land" "second" "I", Cond.fieldLink RX1 25 "TaxEqualiser$Land" "third" "I", Cond.constantLong RX1 37 (100)]
def wsX3_tax : List Cond := .code yX3_tax cX3_tax 4 (some .int) :: ((wsX3_tax_r1 ++ (wsX3_tax_r2 ++ wsX3_tax_r3)) ++ wsX30 ++ wsJx4a65c0 ++ wsX10 ++ (vx_atS RX3 59 "java/lang/IllegalArgumentException" ["java/lang/RuntimeException", "java/lang/Exception"]).filter goodWord)
def wsX3_grossTax_r1 : List Cond := [Cond.constant RX3 44 (10000000), Cond.methodLink RX3 28 yX3_landAt, Cond.instanceMethod yX3_landAt, Cond.selects RX3 yX3_landAt yX3_landAt, Cond.initialized RX3, Cond.code yX3_landAt cX3_landAt 2 (some (.object "TaxEqualiser$Land")), Cond.classLink RX3 55 "java/lang/IllegalArgumentException", Cond.initialized "java/lang/IllegalArgumentException", Cond.fieldLink RX3 10 "TaxEqualiser" "lands" "Ljava/util/List;", Cond.classLink RX3 19 "TaxEqualiser$Land", Cond.methodLink RX3 63 ⟨"java/util/List", "size", "()I"⟩, Cond.selects RJx4a65c ⟨"java/util/List", "size", "()I"⟩ yJx4a65c_size_8abf5, Cond.instanceMethod yJx4a65c_size_8abf5, Cond.initialized RJx4a65c, Cond.code yJx4a65c_size_8abf5 cJx4a65c_size_8abf5 1 (some .int), Cond.fieldLink RJx4a65c 48 "java/util/ArrayList" "size" "I", Cond.methodLink RX3 119 ⟨"java/util/List", "get", "(I)Ljava/lang/Object;"⟩, Cond.selects RJx4a65c ⟨"java/util/List", "get", "(I)Ljava/lang/Object;"⟩ yJx4a65c_get_915e3, Cond.instanceMethod yJx4a65c_get_915e3, Cond.code yJx4a65c_get_915e3 cJx4a65c_get_915e3 2 (some (.object "java/lang/Object")), Cond.methodLink RJx4a65c 118 yJ15_checkIndex_7cf53, Cond.static yJ15_checkIndex_7cf53, Cond.initialized RJ15, Cond.code yJ15_checkIndex_7cf53 cJ15_checkIndex_7cf53 2 (some .int)]
def wsX3_grossTax_r2 : List Cond := [Cond.methodLink RJ15 105 yJ3_checkIndex_8e157, Cond.static yJ3_checkIndex_8e157, Cond.initialized RJ3, Cond.code yJ3_checkIndex_8e157 cJ3_checkIndex_8e157 3 (some .int), Cond.methodLink RJx4a65c 123 yJx4a65c_elementData_915e3, Cond.instanceMethod yJx4a65c_elementData_915e3, Cond.selects RJx4a65c yJx4a65c_elementData_915e3 yJx4a65c_elementData_915e3, Cond.code yJx4a65c_elementData_915e3 cJx4a65c_elementData_915e3 2 (some (.object "java/lang/Object")), Cond.fieldLink RJx4a65c 9 "java/util/ArrayList" "elementData" "[Ljava/lang/Object;", Cond.methodLink RX3 33 yX3_requireRange, Cond.static yX3_requireRange, Cond.code yX3_requireRange cX3_requireRange 3 none, Cond.methodLink RX3 49 yX1_grossTaxOf, Cond.instanceMethod yX1_grossTaxOf, Cond.selects RX1 yX1_grossTaxOf yX1_grossTaxOf, Cond.initialized RX1, Cond.code yX1_grossTaxOf cX1_grossTaxOf 6 (some .int), Cond.methodLink RX1 39 yX1_mostGrossTax, Cond.static yX1_mostGrossTax, Cond.code yX1_mostGrossTax cX1_mostGrossTax 1 (some .int), Cond.methodLink RX1 43 yX1_taxOf, Cond.instanceMethod yX1_taxOf, Cond.selects RX1 yX1_taxOf yX1_taxOf, Cond.code yX1_taxOf cX1_taxOf 8 (some .int)]
def wsX3_grossTax_r3 : List Cond := [Cond.fieldLink RX1 9 "TaxEqualiser$Land" "lower" "I", Cond.methodLink RX1 28 Lib.Math.min.name, Cond.static Lib.Math.min.name, Cond.initialized "java/lang/Math", Cond.code Lib.Math.min.name Lib.Math.min.code 2 (some .int), Cond.fieldLink RX1 16 "TaxEqualiser$Land" "upper" "I", Cond.methodLink RX1 34 Lib.Math.max.name, Cond.static Lib.Math.max.name, Cond.code Lib.Math.max.name Lib.Math.max.code 2 (some .int), Cond.fieldLink RX1 19 "TaxEqualiser$Land" "first" "I", Cond.fieldLink RX1 22 "TaxEqualiser$Land" "second" "I", Cond.fieldLink RX1 25 "TaxEqualiser$Land" "third" "I", Cond.constantLong RX1 37 (100)]
def wsX3_grossTax : List Cond := .code yX3_grossTax cX3_grossTax 4 (some .int) :: ((wsX3_grossTax_r1 ++ (wsX3_grossTax_r2 ++ wsX3_grossTax_r3)) ++ wsX30 ++ wsJx4a65c0 ++ wsX10 ++ (vx_atS RX3 59 "java/lang/IllegalArgumentException" ["java/lang/RuntimeException", "java/lang/Exception"]).filter goodWord)
def wsX3_grossTaxByTrying_r1 : List Cond := [Cond.methodLink RX3 28 yX3_landAt, Cond.instanceMethod yX3_landAt, Cond.selects RX3 yX3_landAt yX3_landAt, Cond.initialized RX3, Cond.code yX3_landAt cX3_landAt 2 (some (.object "TaxEqualiser$Land")), Cond.classLink RX3 55 "java/lang/IllegalArgumentException", Cond.initialized "java/lang/IllegalArgumentException", Cond.fieldLink RX3 10 "TaxEqualiser" "lands" "Ljava/util/List;", Cond.classLink RX3 19 "TaxEqualiser$Land", Cond.methodLink RX3 63 ⟨"java/util/List", "size", "()I"⟩, Cond.selects RJx4a65c ⟨"java/util/List", "size", "()I"⟩ yJx4a65c_size_8abf5, Cond.instanceMethod yJx4a65c_size_8abf5, Cond.initialized RJx4a65c, Cond.code yJx4a65c_size_8abf5 cJx4a65c_size_8abf5 1 (some .int), Cond.fieldLink RJx4a65c 48 "java/util/ArrayList" "size" "I", Cond.methodLink RX3 119 ⟨"java/util/List", "get", "(I)Ljava/lang/Object;"⟩, Cond.selects RJx4a65c ⟨"java/util/List", "get", "(I)Ljava/lang/Object;"⟩ yJx4a65c_get_915e3, Cond.instanceMethod yJx4a65c_get_915e3, Cond.code yJx4a65c_get_915e3 cJx4a65c_get_915e3 2 (some (.object "java/lang/Object")), Cond.methodLink RJx4a65c 118 yJ15_checkIndex_7cf53, Cond.static yJ15_checkIndex_7cf53, Cond.initialized RJ15, Cond.code yJ15_checkIndex_7cf53 cJ15_checkIndex_7cf53 2 (some .int), Cond.methodLink RJ15 105 yJ3_checkIndex_8e157]
def wsX3_grossTaxByTrying_r2 : List Cond := [Cond.static yJ3_checkIndex_8e157, Cond.initialized RJ3, Cond.code yJ3_checkIndex_8e157 cJ3_checkIndex_8e157 3 (some .int), Cond.methodLink RJx4a65c 123 yJx4a65c_elementData_915e3, Cond.instanceMethod yJx4a65c_elementData_915e3, Cond.selects RJx4a65c yJx4a65c_elementData_915e3 yJx4a65c_elementData_915e3, Cond.code yJx4a65c_elementData_915e3 cJx4a65c_elementData_915e3 2 (some (.object "java/lang/Object")), Cond.fieldLink RJx4a65c 9 "java/util/ArrayList" "elementData" "[Ljava/lang/Object;", Cond.methodLink RX3 33 yX3_requireRange, Cond.static yX3_requireRange, Cond.code yX3_requireRange cX3_requireRange 3 none, Cond.methodLink RX3 52 yX1_grossTaxTried, Cond.instanceMethod yX1_grossTaxTried, Cond.selects RX1 yX1_grossTaxTried yX1_grossTaxTried, Cond.initialized RX1, Cond.code yX1_grossTaxTried cX1_grossTaxTried 4 (some .int), Cond.methodLink RX1 39 yX1_mostGrossTax, Cond.static yX1_mostGrossTax, Cond.code yX1_mostGrossTax cX1_mostGrossTax 1 (some .int), Cond.methodLink RX1 43 yX1_taxOf, Cond.instanceMethod yX1_taxOf, Cond.selects RX1 yX1_taxOf yX1_taxOf, Cond.code yX1_taxOf cX1_taxOf 8 (some .int), Cond.fieldLink RX1 9 "TaxEqualiser$Land" "lower" "I"]
def wsX3_grossTaxByTrying_r3 : List Cond := [Cond.methodLink RX1 28 Lib.Math.min.name, Cond.static Lib.Math.min.name, Cond.initialized "java/lang/Math", Cond.code Lib.Math.min.name Lib.Math.min.code 2 (some .int), Cond.fieldLink RX1 16 "TaxEqualiser$Land" "upper" "I", Cond.methodLink RX1 34 Lib.Math.max.name, Cond.static Lib.Math.max.name, Cond.code Lib.Math.max.name Lib.Math.max.code 2 (some .int), Cond.fieldLink RX1 19 "TaxEqualiser$Land" "first" "I", Cond.fieldLink RX1 22 "TaxEqualiser$Land" "second" "I", Cond.fieldLink RX1 25 "TaxEqualiser$Land" "third" "I", Cond.constantLong RX1 37 (100)]
def wsX3_grossTaxByTrying : List Cond := .code yX3_grossTaxByTrying cX3_grossTaxByTrying 4 (some .int) :: ((wsX3_grossTaxByTrying_r1 ++ (wsX3_grossTaxByTrying_r2 ++ wsX3_grossTaxByTrying_r3)) ++ wsX30 ++ wsJx4a65c0 ++ wsX10 ++ (vx_atS RX3 59 "java/lang/IllegalArgumentException" ["java/lang/RuntimeException", "java/lang/Exception"]).filter goodWord)
def wsX3_add_r1 : List Cond := [Cond.classLink RX3 55 "java/lang/IllegalArgumentException", Cond.initialized "java/lang/IllegalArgumentException", Cond.classLink RX3 67 "java/lang/IllegalStateException", Cond.initialized "java/lang/IllegalStateException", Cond.constant RX3 62 (100000), Cond.fieldLink RX3 16 "TaxEqualiser" "staff" "Ljava/util/List;", Cond.classLink RX3 72 RX2, Cond.instantiable RX2 8, Cond.initialized RX2, Cond.methodLink RX3 28 yX3_landAt, Cond.instanceMethod yX3_landAt, Cond.selects RX3 yX3_landAt yX3_landAt, Cond.initialized RX3, Cond.code yX3_landAt cX3_landAt 2 (some (.object "TaxEqualiser$Land")), Cond.fieldLink RX3 10 "TaxEqualiser" "lands" "Ljava/util/List;", Cond.classLink RX3 19 "TaxEqualiser$Land", Cond.methodLink RX3 63 ⟨"java/util/List", "size", "()I"⟩, Cond.selects RJx4a65c ⟨"java/util/List", "size", "()I"⟩ yJx4a65c_size_8abf5, Cond.instanceMethod yJx4a65c_size_8abf5, Cond.initialized RJx4a65c, Cond.code yJx4a65c_size_8abf5 cJx4a65c_size_8abf5 1 (some .int), Cond.fieldLink RJx4a65c 48 "java/util/ArrayList" "size" "I", Cond.methodLink RX3 119 ⟨"java/util/List", "get", "(I)Ljava/lang/Object;"⟩, Cond.selects RJx4a65c ⟨"java/util/List", "get", "(I)Ljava/lang/Object;"⟩ yJx4a65c_get_915e3]
def wsX3_add_r2 : List Cond := [Cond.instanceMethod yJx4a65c_get_915e3, Cond.code yJx4a65c_get_915e3 cJx4a65c_get_915e3 2 (some (.object "java/lang/Object")), Cond.methodLink RJx4a65c 118 yJ15_checkIndex_7cf53, Cond.static yJ15_checkIndex_7cf53, Cond.initialized RJ15, Cond.code yJ15_checkIndex_7cf53 cJ15_checkIndex_7cf53 2 (some .int), Cond.methodLink RJ15 105 yJ3_checkIndex_8e157, Cond.static yJ3_checkIndex_8e157, Cond.initialized RJ3, Cond.code yJ3_checkIndex_8e157 cJ3_checkIndex_8e157 3 (some .int), Cond.methodLink RJx4a65c 123 yJx4a65c_elementData_915e3, Cond.instanceMethod yJx4a65c_elementData_915e3, Cond.selects RJx4a65c yJx4a65c_elementData_915e3 yJx4a65c_elementData_915e3, Cond.code yJx4a65c_elementData_915e3 cJx4a65c_elementData_915e3 2 (some (.object "java/lang/Object")), Cond.fieldLink RJx4a65c 9 "java/util/ArrayList" "elementData" "[Ljava/lang/Object;", Cond.methodLink RX3 33 yX3_requireRange, Cond.static yX3_requireRange, Cond.code yX3_requireRange cX3_requireRange 3 none, Cond.methodLink RX3 74 yX2_init, Cond.instanceMethod yX2_init, Cond.code yX2_init cX2_init 4 none, Cond.methodLink RX2 3 objectInit, Cond.instanceMethod objectInit, Cond.code objectInit ⟨#[0xb1]⟩ 1 none]
def wsX3_add_r3 : List Cond := [Cond.classLink RX2 9 RJx4a65c, Cond.instantiable RJx4a65c 3, Cond.fieldLink RX2 12 "TaxEqualiser$Person" "bonuses" "Ljava/util/List;", Cond.fieldLink RX2 18 "TaxEqualiser$Person" "abroadFrom" "I", Cond.fieldLink RX2 22 "TaxEqualiser$Person" "abroadTo" "I", Cond.fieldLink RX2 25 "TaxEqualiser$Person" "rent" "I", Cond.fieldLink RX2 28 "TaxEqualiser$Person" "norm" "I", Cond.fieldLink RX2 31 "TaxEqualiser$Person" "home" "LTaxEqualiser$Land;", Cond.fieldLink RX2 35 "TaxEqualiser$Person" "host" "LTaxEqualiser$Land;", Cond.fieldLink RX2 38 "TaxEqualiser$Person" "pay" "I", Cond.methodLink RX2 11 yJx4a65c_init_da8c8, Cond.instanceMethod yJx4a65c_init_da8c8, Cond.code yJx4a65c_init_da8c8 cJx4a65c_init_da8c8 1 none, Cond.fieldLink RJx4a65c 39 "java/util/ArrayList" "DEFAULTCAPACITY_EMPTY_ELEMENTDATA" "[Ljava/lang/Object;", Cond.methodLink RJx4a65c 1 yJxc12de_init_da8c8, Cond.instanceMethod yJxc12de_init_da8c8, Cond.initialized RJxc12de, Cond.code yJxc12de_init_da8c8 cJxc12de_init_da8c8 1 none, Cond.fieldLink RJxc12de 7 "java/util/AbstractList" "modCount" "I", Cond.methodLink RJxc12de 1 yJxa1e45_init_da8c8, Cond.instanceMethod yJxa1e45_init_da8c8, Cond.initialized RJxa1e45, Cond.code yJxa1e45_init_da8c8 cJxa1e45_init_da8c8 1 none, Cond.methodLink RJxa1e45 1 objectInit]
def wsX3_add_r4 : List Cond := [Cond.methodLink RX3 22 ⟨"java/util/List", "add", "(Ljava/lang/Object;)Z"⟩, Cond.selects RJx4a65c ⟨"java/util/List", "add", "(Ljava/lang/Object;)Z"⟩ yJx4a65c_add_9ea2d, Cond.instanceMethod yJx4a65c_add_9ea2d, Cond.code yJx4a65c_add_9ea2d cJx4a65c_add_9ea2d 2 (some .boolean), Cond.fieldLink RJx4a65c 63 "java/util/ArrayList" "modCount" "I", Cond.sameField "java/util/ArrayList" "java/util/AbstractList" "modCount" "I", Cond.methodLink RJx4a65c 131 yJx4a65c_add_72be8, Cond.instanceMethod yJx4a65c_add_72be8, Cond.selects RJx4a65c yJx4a65c_add_72be8 yJx4a65c_add_72be8, Cond.code yJx4a65c_add_72be8 cJx4a65c_add_72be8 4 none, Cond.methodLink RJx4a65c 129 yJx4a65c_grow_d5877, Cond.instanceMethod yJx4a65c_grow_d5877, Cond.selects RJx4a65c yJx4a65c_grow_d5877 yJx4a65c_grow_d5877, Cond.code yJx4a65c_grow_d5877 cJx4a65c_grow_d5877 1 (some (.array (.object "java/lang/Object"))), Cond.methodLink RJx4a65c 69 yJx4a65c_grow_92f84, Cond.instanceMethod yJx4a65c_grow_92f84, Cond.selects RJx4a65c yJx4a65c_grow_92f84 yJx4a65c_grow_92f84, Cond.code yJx4a65c_grow_92f84 cJx4a65c_grow_92f84 4 (some (.array (.object "java/lang/Object"))), Cond.methodLink RJx4a65c 79 Lib.Math.max.name, Cond.static Lib.Math.max.name, Cond.initialized "java/lang/Math", Cond.code Lib.Math.max.name Lib.Math.max.code 2 (some .int), Cond.classLink RJx4a65c 7 "java/lang/Object", Cond.methodLink RJx4a65c 73 yJ8_newLength_cabcc]
def wsX3_add_r5 : List Cond := [Cond.static yJ8_newLength_cabcc, Cond.initialized RJ8, Cond.code yJ8_newLength_cabcc cJ8_newLength_cabcc 4 (some .int), Cond.methodLink RJ8 194 Lib.Math.max.name, Cond.constant RJ8 200 (2147483639), Cond.methodLink RJ8 201 yJ8_hugeLength_7cf53, Cond.static yJ8_hugeLength_7cf53, Cond.code yJ8_hugeLength_7cf53 cJ8_hugeLength_7cf53 3 (some .int), Cond.methodLink RJx4a65c 66 yJ7_copyOf_1904c, Cond.static yJ7_copyOf_1904c, Cond.initialized RJ7, Cond.code yJ7_copyOf_1904c cJ7_copyOf_1904c 2 (some (.array (.object "java/lang/Object"))), Cond.methodLink RJ7 86 ⟨"java/lang/Object", "getClass", "()Ljava/lang/Class;"⟩, Cond.selects "[Ljava/lang/Object;" ⟨"java/lang/Object", "getClass", "()Ljava/lang/Class;"⟩ ⟨"java/lang/Object", "getClass", "()Ljava/lang/Class;"⟩, Cond.instanceMethod ⟨"java/lang/Object", "getClass", "()Ljava/lang/Class;"⟩, Cond.native ⟨"java/lang/Object", "getClass", "()Ljava/lang/Class;"⟩, Cond.methodLink RJ7 300 yJ7_copyOf_6403c, Cond.static yJ7_copyOf_6403c, Cond.code yJ7_copyOf_6403c cJ7_copyOf_6403c 4 (some (.array (.object "java/lang/Object"))), Cond.classLink RJ7 110 "[Ljava/lang/Object;", Cond.classLink RJ7 2 "java/lang/Object", Cond.methodLink RJ7 304 Lib.Math.min.name, Cond.static Lib.Math.min.name, Cond.code Lib.Math.min.name Lib.Math.min.code 2 (some .int)]
def wsX3_add_r6 : List Cond := [Cond.methodLink RJ7 150 arraycopyName, Cond.native arraycopyName, Cond.static arraycopyName, Cond.initialized "java/lang/System"]
def wsX3_add : List Cond := .code yX3_add cX3_add 6 (some .int) :: ((wsX3_add_r1 ++ (wsX3_add_r2 ++ (wsX3_add_r3 ++ (wsX3_add_r4 ++ (wsX3_add_r5 ++ wsX3_add_r6))))) ++ wsX30 ++ wsX20 ++ wsJx4a65c0 ++ (vx_atS RX3 59 "java/lang/IllegalArgumentException" ["java/lang/RuntimeException", "java/lang/Exception"]).filter goodWord ++ (vx_atS RX3 71 "java/lang/IllegalStateException" ["java/lang/RuntimeException", "java/lang/Exception"]).filter goodWord)
def wsX3_personAt_r1 : List Cond := [Cond.classLink RX3 114 "java/lang/IndexOutOfBoundsException", Cond.initialized "java/lang/IndexOutOfBoundsException", Cond.fieldLink RX3 16 "TaxEqualiser" "staff" "Ljava/util/List;", Cond.classLink RX3 72 "TaxEqualiser$Person", Cond.methodLink RX3 63 ⟨"java/util/List", "size", "()I"⟩, Cond.selects RJx4a65c ⟨"java/util/List", "size", "()I"⟩ yJx4a65c_size_8abf5, Cond.instanceMethod yJx4a65c_size_8abf5, Cond.initialized RJx4a65c, Cond.code yJx4a65c_size_8abf5 cJx4a65c_size_8abf5 1 (some .int), Cond.fieldLink RJx4a65c 48 "java/util/ArrayList" "size" "I", Cond.methodLink RX3 119 ⟨"java/util/List", "get", "(I)Ljava/lang/Object;"⟩, Cond.selects RJx4a65c ⟨"java/util/List", "get", "(I)Ljava/lang/Object;"⟩ yJx4a65c_get_915e3, Cond.instanceMethod yJx4a65c_get_915e3, Cond.code yJx4a65c_get_915e3 cJx4a65c_get_915e3 2 (some (.object "java/lang/Object")), Cond.methodLink RJx4a65c 118 yJ15_checkIndex_7cf53, Cond.static yJ15_checkIndex_7cf53, Cond.initialized RJ15, Cond.code yJ15_checkIndex_7cf53 cJ15_checkIndex_7cf53 2 (some .int), Cond.methodLink RJ15 105 yJ3_checkIndex_8e157, Cond.static yJ3_checkIndex_8e157, Cond.initialized RJ3, Cond.code yJ3_checkIndex_8e157 cJ3_checkIndex_8e157 3 (some .int), Cond.methodLink RJx4a65c 123 yJx4a65c_elementData_915e3, Cond.instanceMethod yJx4a65c_elementData_915e3]
def wsX3_personAt_r2 : List Cond := [Cond.selects RJx4a65c yJx4a65c_elementData_915e3 yJx4a65c_elementData_915e3, Cond.code yJx4a65c_elementData_915e3 cJx4a65c_elementData_915e3 2 (some (.object "java/lang/Object")), Cond.fieldLink RJx4a65c 9 "java/util/ArrayList" "elementData" "[Ljava/lang/Object;"]
def wsX3_personAt : List Cond := .code yX3_personAt cX3_personAt 2 (some (.object "TaxEqualiser$Person")) :: ((wsX3_personAt_r1 ++ wsX3_personAt_r2) ++ wsX30 ++ wsJx4a65c0 ++ (vx_atS RX3 118 "java/lang/IndexOutOfBoundsException" ["java/lang/RuntimeException", "java/lang/Exception"]).filter goodWord)
def wsX3_setAbroad_r1 : List Cond := [Cond.methodLink RX3 77 yX3_personAt, Cond.instanceMethod yX3_personAt, Cond.selects RX3 yX3_personAt yX3_personAt, Cond.initialized RX3, Cond.code yX3_personAt cX3_personAt 2 (some (.object "TaxEqualiser$Person")), Cond.classLink RX3 114 "java/lang/IndexOutOfBoundsException", Cond.initialized "java/lang/IndexOutOfBoundsException", Cond.fieldLink RX3 16 "TaxEqualiser" "staff" "Ljava/util/List;", Cond.classLink RX3 72 "TaxEqualiser$Person", Cond.methodLink RX3 63 ⟨"java/util/List", "size", "()I"⟩, Cond.selects RJx4a65c ⟨"java/util/List", "size", "()I"⟩ yJx4a65c_size_8abf5, Cond.instanceMethod yJx4a65c_size_8abf5, Cond.initialized RJx4a65c, Cond.code yJx4a65c_size_8abf5 cJx4a65c_size_8abf5 1 (some .int), Cond.fieldLink RJx4a65c 48 "java/util/ArrayList" "size" "I", Cond.methodLink RX3 119 ⟨"java/util/List", "get", "(I)Ljava/lang/Object;"⟩, Cond.selects RJx4a65c ⟨"java/util/List", "get", "(I)Ljava/lang/Object;"⟩ yJx4a65c_get_915e3, Cond.instanceMethod yJx4a65c_get_915e3, Cond.code yJx4a65c_get_915e3 cJx4a65c_get_915e3 2 (some (.object "java/lang/Object")), Cond.methodLink RJx4a65c 118 yJ15_checkIndex_7cf53, Cond.static yJ15_checkIndex_7cf53, Cond.initialized RJ15, Cond.code yJ15_checkIndex_7cf53 cJ15_checkIndex_7cf53 2 (some .int), Cond.methodLink RJ15 105 yJ3_checkIndex_8e157]
def wsX3_setAbroad_r2 : List Cond := [Cond.static yJ3_checkIndex_8e157, Cond.initialized RJ3, Cond.code yJ3_checkIndex_8e157 cJ3_checkIndex_8e157 3 (some .int), Cond.methodLink RJx4a65c 123 yJx4a65c_elementData_915e3, Cond.instanceMethod yJx4a65c_elementData_915e3, Cond.selects RJx4a65c yJx4a65c_elementData_915e3 yJx4a65c_elementData_915e3, Cond.code yJx4a65c_elementData_915e3 cJx4a65c_elementData_915e3 2 (some (.object "java/lang/Object")), Cond.fieldLink RJx4a65c 9 "java/util/ArrayList" "elementData" "[Ljava/lang/Object;", Cond.methodLink RX3 33 yX3_requireRange, Cond.static yX3_requireRange, Cond.code yX3_requireRange cX3_requireRange 3 none, Cond.classLink RX3 55 "java/lang/IllegalArgumentException", Cond.initialized "java/lang/IllegalArgumentException", Cond.methodLink RX3 81 yX2_monthsAbroad, Cond.instanceMethod yX2_monthsAbroad, Cond.selects RX2 yX2_monthsAbroad yX2_monthsAbroad, Cond.initialized RX2, Cond.code yX2_monthsAbroad cX2_monthsAbroad 1 (some .int), Cond.fieldLink RX2 22 "TaxEqualiser$Person" "abroadTo" "I", Cond.fieldLink RX2 18 "TaxEqualiser$Person" "abroadFrom" "I"]
def wsX3_setAbroad : List Cond := .code yX3_setAbroad cX3_setAbroad 6 (some .int) :: ((wsX3_setAbroad_r1 ++ wsX3_setAbroad_r2) ++ wsX20 ++ wsX30 ++ wsJx4a65c0 ++ (vx_atS RX3 118 "java/lang/IndexOutOfBoundsException" ["java/lang/RuntimeException", "java/lang/Exception"]).filter goodWord ++ (vx_atS RX3 59 "java/lang/IllegalArgumentException" ["java/lang/RuntimeException", "java/lang/Exception"]).filter goodWord)
def wsX3_setPay_r1 : List Cond := [Cond.constant RX3 62 (100000), Cond.methodLink RX3 77 yX3_personAt, Cond.instanceMethod yX3_personAt, Cond.selects RX3 yX3_personAt yX3_personAt, Cond.initialized RX3, Cond.code yX3_personAt cX3_personAt 2 (some (.object "TaxEqualiser$Person")), Cond.classLink RX3 114 "java/lang/IndexOutOfBoundsException", Cond.initialized "java/lang/IndexOutOfBoundsException", Cond.fieldLink RX3 16 "TaxEqualiser" "staff" "Ljava/util/List;", Cond.classLink RX3 72 "TaxEqualiser$Person", Cond.methodLink RX3 63 ⟨"java/util/List", "size", "()I"⟩, Cond.selects RJx4a65c ⟨"java/util/List", "size", "()I"⟩ yJx4a65c_size_8abf5, Cond.instanceMethod yJx4a65c_size_8abf5, Cond.initialized RJx4a65c, Cond.code yJx4a65c_size_8abf5 cJx4a65c_size_8abf5 1 (some .int), Cond.fieldLink RJx4a65c 48 "java/util/ArrayList" "size" "I", Cond.methodLink RX3 119 ⟨"java/util/List", "get", "(I)Ljava/lang/Object;"⟩, Cond.selects RJx4a65c ⟨"java/util/List", "get", "(I)Ljava/lang/Object;"⟩ yJx4a65c_get_915e3, Cond.instanceMethod yJx4a65c_get_915e3, Cond.code yJx4a65c_get_915e3 cJx4a65c_get_915e3 2 (some (.object "java/lang/Object")), Cond.methodLink RJx4a65c 118 yJ15_checkIndex_7cf53, Cond.static yJ15_checkIndex_7cf53, Cond.initialized RJ15, Cond.code yJ15_checkIndex_7cf53 cJ15_checkIndex_7cf53 2 (some .int)]
def wsX3_setPay_r2 : List Cond := [Cond.methodLink RJ15 105 yJ3_checkIndex_8e157, Cond.static yJ3_checkIndex_8e157, Cond.initialized RJ3, Cond.code yJ3_checkIndex_8e157 cJ3_checkIndex_8e157 3 (some .int), Cond.methodLink RJx4a65c 123 yJx4a65c_elementData_915e3, Cond.instanceMethod yJx4a65c_elementData_915e3, Cond.selects RJx4a65c yJx4a65c_elementData_915e3 yJx4a65c_elementData_915e3, Cond.code yJx4a65c_elementData_915e3 cJx4a65c_elementData_915e3 2 (some (.object "java/lang/Object")), Cond.fieldLink RJx4a65c 9 "java/util/ArrayList" "elementData" "[Ljava/lang/Object;", Cond.methodLink RX3 33 yX3_requireRange, Cond.static yX3_requireRange, Cond.code yX3_requireRange cX3_requireRange 3 none, Cond.classLink RX3 55 "java/lang/IllegalArgumentException", Cond.initialized "java/lang/IllegalArgumentException"]
def wsX3_setPay : List Cond := .code yX3_setPay cX3_setPay 5 (some .int) :: ((wsX3_setPay_r1 ++ wsX3_setPay_r2) ++ wsX20 ++ wsX30 ++ wsJx4a65c0 ++ (vx_atS RX3 118 "java/lang/IndexOutOfBoundsException" ["java/lang/RuntimeException", "java/lang/Exception"]).filter goodWord ++ (vx_atS RX3 59 "java/lang/IllegalArgumentException" ["java/lang/RuntimeException", "java/lang/Exception"]).filter goodWord)
def wsX3_setHousing_r1 : List Cond := [Cond.constant RX3 94 (50000), Cond.methodLink RX3 77 yX3_personAt, Cond.instanceMethod yX3_personAt, Cond.selects RX3 yX3_personAt yX3_personAt, Cond.initialized RX3, Cond.code yX3_personAt cX3_personAt 2 (some (.object "TaxEqualiser$Person")), Cond.classLink RX3 114 "java/lang/IndexOutOfBoundsException", Cond.initialized "java/lang/IndexOutOfBoundsException", Cond.fieldLink RX3 16 "TaxEqualiser" "staff" "Ljava/util/List;", Cond.classLink RX3 72 "TaxEqualiser$Person", Cond.methodLink RX3 63 ⟨"java/util/List", "size", "()I"⟩, Cond.selects RJx4a65c ⟨"java/util/List", "size", "()I"⟩ yJx4a65c_size_8abf5, Cond.instanceMethod yJx4a65c_size_8abf5, Cond.initialized RJx4a65c, Cond.code yJx4a65c_size_8abf5 cJx4a65c_size_8abf5 1 (some .int), Cond.fieldLink RJx4a65c 48 "java/util/ArrayList" "size" "I", Cond.methodLink RX3 119 ⟨"java/util/List", "get", "(I)Ljava/lang/Object;"⟩, Cond.selects RJx4a65c ⟨"java/util/List", "get", "(I)Ljava/lang/Object;"⟩ yJx4a65c_get_915e3, Cond.instanceMethod yJx4a65c_get_915e3, Cond.code yJx4a65c_get_915e3 cJx4a65c_get_915e3 2 (some (.object "java/lang/Object")), Cond.methodLink RJx4a65c 118 yJ15_checkIndex_7cf53, Cond.static yJ15_checkIndex_7cf53, Cond.initialized RJ15, Cond.code yJ15_checkIndex_7cf53 cJ15_checkIndex_7cf53 2 (some .int)]
def wsX3_setHousing_r2 : List Cond := [Cond.methodLink RJ15 105 yJ3_checkIndex_8e157, Cond.static yJ3_checkIndex_8e157, Cond.initialized RJ3, Cond.code yJ3_checkIndex_8e157 cJ3_checkIndex_8e157 3 (some .int), Cond.methodLink RJx4a65c 123 yJx4a65c_elementData_915e3, Cond.instanceMethod yJx4a65c_elementData_915e3, Cond.selects RJx4a65c yJx4a65c_elementData_915e3 yJx4a65c_elementData_915e3, Cond.code yJx4a65c_elementData_915e3 cJx4a65c_elementData_915e3 2 (some (.object "java/lang/Object")), Cond.fieldLink RJx4a65c 9 "java/util/ArrayList" "elementData" "[Ljava/lang/Object;", Cond.methodLink RX3 33 yX3_requireRange, Cond.static yX3_requireRange, Cond.code yX3_requireRange cX3_requireRange 3 none, Cond.classLink RX3 55 "java/lang/IllegalArgumentException", Cond.initialized "java/lang/IllegalArgumentException", Cond.methodLink RX3 101 yX2_ownShare, Cond.instanceMethod yX2_ownShare, Cond.selects RX2 yX2_ownShare yX2_ownShare, Cond.initialized RX2, Cond.code yX2_ownShare cX2_ownShare 1 (some .int), Cond.fieldLink RX2 25 "TaxEqualiser$Person" "rent" "I", Cond.fieldLink RX2 38 "TaxEqualiser$Person" "pay" "I", Cond.fieldLink RX2 28 "TaxEqualiser$Person" "norm" "I", Cond.methodLink RX2 41 Lib.Math.min.name, Cond.static Lib.Math.min.name]
def wsX3_setHousing_r3 : List Cond := [Cond.initialized "java/lang/Math", Cond.code Lib.Math.min.name Lib.Math.min.code 2 (some .int)]
def wsX3_setHousing : List Cond := .code yX3_setHousing cX3_setHousing 5 (some .int) :: ((wsX3_setHousing_r1 ++ (wsX3_setHousing_r2 ++ wsX3_setHousing_r3)) ++ wsX20 ++ wsX30 ++ wsJx4a65c0 ++ (vx_atS RX3 118 "java/lang/IndexOutOfBoundsException" ["java/lang/RuntimeException", "java/lang/Exception"]).filter goodWord ++ (vx_atS RX3 59 "java/lang/IllegalArgumentException" ["java/lang/RuntimeException", "java/lang/Exception"]).filter goodWord)
def wsX3_addBonus_r1 : List Cond := [Cond.classLink RX3 67 "java/lang/IllegalStateException", Cond.initialized "java/lang/IllegalStateException", Cond.constant RX3 104 (500000), Cond.classLink RX3 110 RX0, Cond.instantiable RX0 3, Cond.initialized RX0, Cond.methodLink RX3 77 yX3_personAt, Cond.instanceMethod yX3_personAt, Cond.selects RX3 yX3_personAt yX3_personAt, Cond.initialized RX3, Cond.code yX3_personAt cX3_personAt 2 (some (.object "TaxEqualiser$Person")), Cond.classLink RX3 114 "java/lang/IndexOutOfBoundsException", Cond.initialized "java/lang/IndexOutOfBoundsException", Cond.fieldLink RX3 16 "TaxEqualiser" "staff" "Ljava/util/List;", Cond.classLink RX3 72 "TaxEqualiser$Person", Cond.methodLink RX3 63 ⟨"java/util/List", "size", "()I"⟩, Cond.selects RJx4a65c ⟨"java/util/List", "size", "()I"⟩ yJx4a65c_size_8abf5, Cond.instanceMethod yJx4a65c_size_8abf5, Cond.initialized RJx4a65c, Cond.code yJx4a65c_size_8abf5 cJx4a65c_size_8abf5 1 (some .int), Cond.fieldLink RJx4a65c 48 "java/util/ArrayList" "size" "I", Cond.methodLink RX3 119 ⟨"java/util/List", "get", "(I)Ljava/lang/Object;"⟩, Cond.selects RJx4a65c ⟨"java/util/List", "get", "(I)Ljava/lang/Object;"⟩ yJx4a65c_get_915e3, Cond.instanceMethod yJx4a65c_get_915e3]
def wsX3_addBonus_r2 : List Cond := [Cond.code yJx4a65c_get_915e3 cJx4a65c_get_915e3 2 (some (.object "java/lang/Object")), Cond.methodLink RJx4a65c 118 yJ15_checkIndex_7cf53, Cond.static yJ15_checkIndex_7cf53, Cond.initialized RJ15, Cond.code yJ15_checkIndex_7cf53 cJ15_checkIndex_7cf53 2 (some .int), Cond.methodLink RJ15 105 yJ3_checkIndex_8e157, Cond.static yJ3_checkIndex_8e157, Cond.initialized RJ3, Cond.code yJ3_checkIndex_8e157 cJ3_checkIndex_8e157 3 (some .int), Cond.methodLink RJx4a65c 123 yJx4a65c_elementData_915e3, Cond.instanceMethod yJx4a65c_elementData_915e3, Cond.selects RJx4a65c yJx4a65c_elementData_915e3 yJx4a65c_elementData_915e3, Cond.code yJx4a65c_elementData_915e3 cJx4a65c_elementData_915e3 2 (some (.object "java/lang/Object")), Cond.fieldLink RJx4a65c 9 "java/util/ArrayList" "elementData" "[Ljava/lang/Object;", Cond.methodLink RX3 33 yX3_requireRange, Cond.static yX3_requireRange, Cond.code yX3_requireRange cX3_requireRange 3 none, Cond.classLink RX3 55 "java/lang/IllegalArgumentException", Cond.initialized "java/lang/IllegalArgumentException", Cond.methodLink RX3 112 yX0_init, Cond.instanceMethod yX0_init, Cond.code yX0_init cX0_init 4 none, Cond.methodLink RX0 1 objectInit, Cond.instanceMethod objectInit]
def wsX3_addBonus_r3 : List Cond := [Cond.code objectInit ⟨#[0xb1]⟩ 1 none, Cond.fieldLink RX0 7 "TaxEqualiser$Bonus" "coins" "I", Cond.fieldLink RX0 13 "TaxEqualiser$Bonus" "from" "I", Cond.fieldLink RX0 16 "TaxEqualiser$Bonus" "to" "I", Cond.methodLink RX3 22 ⟨"java/util/List", "add", "(Ljava/lang/Object;)Z"⟩, Cond.selects RJx4a65c ⟨"java/util/List", "add", "(Ljava/lang/Object;)Z"⟩ yJx4a65c_add_9ea2d, Cond.instanceMethod yJx4a65c_add_9ea2d, Cond.code yJx4a65c_add_9ea2d cJx4a65c_add_9ea2d 2 (some .boolean), Cond.fieldLink RJx4a65c 63 "java/util/ArrayList" "modCount" "I", Cond.sameField "java/util/ArrayList" "java/util/AbstractList" "modCount" "I", Cond.methodLink RJx4a65c 131 yJx4a65c_add_72be8, Cond.instanceMethod yJx4a65c_add_72be8, Cond.selects RJx4a65c yJx4a65c_add_72be8 yJx4a65c_add_72be8, Cond.code yJx4a65c_add_72be8 cJx4a65c_add_72be8 4 none, Cond.methodLink RJx4a65c 129 yJx4a65c_grow_d5877, Cond.instanceMethod yJx4a65c_grow_d5877, Cond.selects RJx4a65c yJx4a65c_grow_d5877 yJx4a65c_grow_d5877, Cond.code yJx4a65c_grow_d5877 cJx4a65c_grow_d5877 1 (some (.array (.object "java/lang/Object"))), Cond.methodLink RJx4a65c 69 yJx4a65c_grow_92f84, Cond.instanceMethod yJx4a65c_grow_92f84, Cond.selects RJx4a65c yJx4a65c_grow_92f84 yJx4a65c_grow_92f84, Cond.code yJx4a65c_grow_92f84 cJx4a65c_grow_92f84 4 (some (.array (.object "java/lang/Object"))), Cond.fieldLink RJx4a65c 39 "java/util/ArrayList" "DEFAULTCAPACITY_EMPTY_ELEMENTDATA" "[Ljava/lang/Object;", Cond.methodLink RJx4a65c 79 Lib.Math.max.name]
def wsX3_addBonus_r4 : List Cond := [Cond.static Lib.Math.max.name, Cond.initialized "java/lang/Math", Cond.code Lib.Math.max.name Lib.Math.max.code 2 (some .int), Cond.classLink RJx4a65c 7 "java/lang/Object", Cond.methodLink RJx4a65c 73 yJ8_newLength_cabcc, Cond.static yJ8_newLength_cabcc, Cond.initialized RJ8, Cond.code yJ8_newLength_cabcc cJ8_newLength_cabcc 4 (some .int), Cond.methodLink RJ8 194 Lib.Math.max.name, Cond.constant RJ8 200 (2147483639), Cond.methodLink RJ8 201 yJ8_hugeLength_7cf53, Cond.static yJ8_hugeLength_7cf53, Cond.code yJ8_hugeLength_7cf53 cJ8_hugeLength_7cf53 3 (some .int), Cond.methodLink RJx4a65c 66 yJ7_copyOf_1904c, Cond.static yJ7_copyOf_1904c, Cond.initialized RJ7, Cond.code yJ7_copyOf_1904c cJ7_copyOf_1904c 2 (some (.array (.object "java/lang/Object"))), Cond.methodLink RJ7 86 ⟨"java/lang/Object", "getClass", "()Ljava/lang/Class;"⟩, Cond.selects "[Ljava/lang/Object;" ⟨"java/lang/Object", "getClass", "()Ljava/lang/Class;"⟩ ⟨"java/lang/Object", "getClass", "()Ljava/lang/Class;"⟩, Cond.instanceMethod ⟨"java/lang/Object", "getClass", "()Ljava/lang/Class;"⟩, Cond.native ⟨"java/lang/Object", "getClass", "()Ljava/lang/Class;"⟩, Cond.methodLink RJ7 300 yJ7_copyOf_6403c, Cond.static yJ7_copyOf_6403c, Cond.code yJ7_copyOf_6403c cJ7_copyOf_6403c 4 (some (.array (.object "java/lang/Object")))]
def wsX3_addBonus_r5 : List Cond := [Cond.classLink RJ7 110 "[Ljava/lang/Object;", Cond.classLink RJ7 2 "java/lang/Object", Cond.methodLink RJ7 304 Lib.Math.min.name, Cond.static Lib.Math.min.name, Cond.code Lib.Math.min.name Lib.Math.min.code 2 (some .int), Cond.methodLink RJ7 150 arraycopyName, Cond.native arraycopyName, Cond.static arraycopyName, Cond.initialized "java/lang/System"]
def wsX3_addBonus : List Cond := .code yX3_addBonus cX3_addBonus 6 (some .int) :: ((wsX3_addBonus_r1 ++ (wsX3_addBonus_r2 ++ (wsX3_addBonus_r3 ++ (wsX3_addBonus_r4 ++ wsX3_addBonus_r5)))) ++ wsX20 ++ wsX00 ++ wsX30 ++ wsJx4a65c0 ++ (vx_atS RX3 71 "java/lang/IllegalStateException" ["java/lang/RuntimeException", "java/lang/Exception"]).filter goodWord ++ (vx_atS RX3 118 "java/lang/IndexOutOfBoundsException" ["java/lang/RuntimeException", "java/lang/Exception"]).filter goodWord ++ (vx_atS RX3 59 "java/lang/IllegalArgumentException" ["java/lang/RuntimeException", "java/lang/Exception"]).filter goodWord)
def wsX3_people : List Cond := .code yX3_people cX3_people 1 (some .int) :: ([.fieldLink RX3 16 "TaxEqualiser" "staff" "Ljava/util/List;", .methodLink RX3 63 ⟨"java/util/List", "size", "()I"⟩, .selects RJx4a65c ⟨"java/util/List", "size", "()I"⟩ yJx4a65c_size_8abf5, .instanceMethod yJx4a65c_size_8abf5, .initialized RJx4a65c, .code yJx4a65c_size_8abf5 cJx4a65c_size_8abf5 1 (some .int), .fieldLink RJx4a65c 48 "java/util/ArrayList" "size" "I"] ++ wsX30 ++ wsJx4a65c0)
def wsX3_abroadPart_r1 : List Cond := [Cond.classLink RX3 114 "java/lang/IndexOutOfBoundsException", Cond.initialized "java/lang/IndexOutOfBoundsException", Cond.classLink RX3 110 "TaxEqualiser$Bonus", Cond.methodLink RX3 77 yX3_personAt, Cond.instanceMethod yX3_personAt, Cond.selects RX3 yX3_personAt yX3_personAt, Cond.initialized RX3, Cond.code yX3_personAt cX3_personAt 2 (some (.object "TaxEqualiser$Person")), Cond.fieldLink RX3 16 "TaxEqualiser" "staff" "Ljava/util/List;", Cond.classLink RX3 72 "TaxEqualiser$Person", Cond.methodLink RX3 63 ⟨"java/util/List", "size", "()I"⟩, Cond.selects RJx4a65c ⟨"java/util/List", "size", "()I"⟩ yJx4a65c_size_8abf5, Cond.instanceMethod yJx4a65c_size_8abf5, Cond.initialized RJx4a65c, Cond.code yJx4a65c_size_8abf5 cJx4a65c_size_8abf5 1 (some .int), Cond.fieldLink RJx4a65c 48 "java/util/ArrayList" "size" "I", Cond.methodLink RX3 119 ⟨"java/util/List", "get", "(I)Ljava/lang/Object;"⟩, Cond.selects RJx4a65c ⟨"java/util/List", "get", "(I)Ljava/lang/Object;"⟩ yJx4a65c_get_915e3, Cond.instanceMethod yJx4a65c_get_915e3, Cond.code yJx4a65c_get_915e3 cJx4a65c_get_915e3 2 (some (.object "java/lang/Object")), Cond.methodLink RJx4a65c 118 yJ15_checkIndex_7cf53, Cond.static yJ15_checkIndex_7cf53, Cond.initialized RJ15, Cond.code yJ15_checkIndex_7cf53 cJ15_checkIndex_7cf53 2 (some .int)]
def wsX3_abroadPart_r2 : List Cond := [Cond.methodLink RJ15 105 yJ3_checkIndex_8e157, Cond.static yJ3_checkIndex_8e157, Cond.initialized RJ3, Cond.code yJ3_checkIndex_8e157 cJ3_checkIndex_8e157 3 (some .int), Cond.methodLink RJx4a65c 123 yJx4a65c_elementData_915e3, Cond.instanceMethod yJx4a65c_elementData_915e3, Cond.selects RJx4a65c yJx4a65c_elementData_915e3 yJx4a65c_elementData_915e3, Cond.code yJx4a65c_elementData_915e3 cJx4a65c_elementData_915e3 2 (some (.object "java/lang/Object")), Cond.fieldLink RJx4a65c 9 "java/util/ArrayList" "elementData" "[Ljava/lang/Object;", Cond.methodLink RX3 123 yX2_partAbroad, Cond.instanceMethod yX2_partAbroad, Cond.selects RX2 yX2_partAbroad yX2_partAbroad, Cond.initialized RX2, Cond.code yX2_partAbroad cX2_partAbroad 4 (some .int), Cond.fieldLink RX2 22 "TaxEqualiser$Person" "abroadTo" "I", Cond.methodLink RX2 41 Lib.Math.min.name, Cond.static Lib.Math.min.name, Cond.initialized "java/lang/Math", Cond.code Lib.Math.min.name Lib.Math.min.code 2 (some .int), Cond.fieldLink RX2 18 "TaxEqualiser$Person" "abroadFrom" "I", Cond.methodLink RX2 55 Lib.Math.max.name, Cond.static Lib.Math.max.name, Cond.code Lib.Math.max.name Lib.Math.max.code 2 (some .int)]
def wsX3_abroadPart : List Cond := .code yX3_abroadPart cX3_abroadPart 4 (some .int) :: ((wsX3_abroadPart_r1 ++ wsX3_abroadPart_r2) ++ wsX20 ++ wsX30 ++ wsJx4a65c0 ++ wsX00 ++ (vx_atS RX3 118 "java/lang/IndexOutOfBoundsException" ["java/lang/RuntimeException", "java/lang/Exception"]).filter goodWord)
def wsX3_held_r1 : List Cond := [Cond.methodLink RX3 77 yX3_personAt, Cond.instanceMethod yX3_personAt, Cond.selects RX3 yX3_personAt yX3_personAt, Cond.initialized RX3, Cond.code yX3_personAt cX3_personAt 2 (some (.object "TaxEqualiser$Person")), Cond.classLink RX3 114 "java/lang/IndexOutOfBoundsException", Cond.initialized "java/lang/IndexOutOfBoundsException", Cond.fieldLink RX3 16 "TaxEqualiser" "staff" "Ljava/util/List;", Cond.classLink RX3 72 "TaxEqualiser$Person", Cond.methodLink RX3 63 ⟨"java/util/List", "size", "()I"⟩, Cond.selects RJx4a65c ⟨"java/util/List", "size", "()I"⟩ yJx4a65c_size_8abf5, Cond.instanceMethod yJx4a65c_size_8abf5, Cond.initialized RJx4a65c, Cond.code yJx4a65c_size_8abf5 cJx4a65c_size_8abf5 1 (some .int), Cond.fieldLink RJx4a65c 48 "java/util/ArrayList" "size" "I", Cond.methodLink RX3 119 ⟨"java/util/List", "get", "(I)Ljava/lang/Object;"⟩, Cond.selects RJx4a65c ⟨"java/util/List", "get", "(I)Ljava/lang/Object;"⟩ yJx4a65c_get_915e3, Cond.instanceMethod yJx4a65c_get_915e3, Cond.code yJx4a65c_get_915e3 cJx4a65c_get_915e3 2 (some (.object "java/lang/Object")), Cond.methodLink RJx4a65c 118 yJ15_checkIndex_7cf53, Cond.static yJ15_checkIndex_7cf53, Cond.initialized RJ15, Cond.code yJ15_checkIndex_7cf53 cJ15_checkIndex_7cf53 2 (some .int), Cond.methodLink RJ15 105 yJ3_checkIndex_8e157]
def wsX3_held_r2 : List Cond := [Cond.static yJ3_checkIndex_8e157, Cond.initialized RJ3, Cond.code yJ3_checkIndex_8e157 cJ3_checkIndex_8e157 3 (some .int), Cond.methodLink RJx4a65c 123 yJx4a65c_elementData_915e3, Cond.instanceMethod yJx4a65c_elementData_915e3, Cond.selects RJx4a65c yJx4a65c_elementData_915e3 yJx4a65c_elementData_915e3, Cond.code yJx4a65c_elementData_915e3 cJx4a65c_elementData_915e3 2 (some (.object "java/lang/Object")), Cond.fieldLink RJx4a65c 9 "java/util/ArrayList" "elementData" "[Ljava/lang/Object;", Cond.methodLink RX3 33 yX3_requireRange, Cond.static yX3_requireRange, Cond.code yX3_requireRange cX3_requireRange 3 none, Cond.classLink RX3 55 "java/lang/IllegalArgumentException", Cond.initialized "java/lang/IllegalArgumentException", Cond.methodLink RX3 127 yX2_isAbroadIn, Cond.instanceMethod yX2_isAbroadIn, Cond.selects RX2 yX2_isAbroadIn yX2_isAbroadIn, Cond.initialized RX2, Cond.code yX2_isAbroadIn cX2_isAbroadIn 2 (some .boolean), Cond.fieldLink RX2 18 "TaxEqualiser$Person" "abroadFrom" "I", Cond.fieldLink RX2 22 "TaxEqualiser$Person" "abroadTo" "I", Cond.methodLink RX3 131 yX2_heldEachMonth, Cond.instanceMethod yX2_heldEachMonth, Cond.selects RX2 yX2_heldEachMonth yX2_heldEachMonth, Cond.code yX2_heldEachMonth cX2_heldEachMonth 1 (some .int)]
def wsX3_held_r3 : List Cond := [Cond.fieldLink RX2 31 "TaxEqualiser$Person" "home" "LTaxEqualiser$Land;", Cond.fieldLink RX2 38 "TaxEqualiser$Person" "pay" "I", Cond.methodLink RX2 71 yX1_taxOf, Cond.instanceMethod yX1_taxOf, Cond.selects RX1 yX1_taxOf yX1_taxOf, Cond.initialized RX1, Cond.code yX1_taxOf cX1_taxOf 8 (some .int), Cond.fieldLink RX1 9 "TaxEqualiser$Land" "lower" "I", Cond.methodLink RX1 28 Lib.Math.min.name, Cond.static Lib.Math.min.name, Cond.initialized "java/lang/Math", Cond.code Lib.Math.min.name Lib.Math.min.code 2 (some .int), Cond.fieldLink RX1 16 "TaxEqualiser$Land" "upper" "I", Cond.methodLink RX1 34 Lib.Math.max.name, Cond.static Lib.Math.max.name, Cond.code Lib.Math.max.name Lib.Math.max.code 2 (some .int), Cond.fieldLink RX1 19 "TaxEqualiser$Land" "first" "I", Cond.fieldLink RX1 22 "TaxEqualiser$Land" "second" "I", Cond.fieldLink RX1 25 "TaxEqualiser$Land" "third" "I", Cond.constantLong RX1 37 (100)]
def wsX3_held : List Cond := .code yX3_held cX3_held 4 (some .int) :: ((wsX3_held_r1 ++ (wsX3_held_r2 ++ wsX3_held_r3)) ++ wsX30 ++ wsJx4a65c0 ++ wsX20 ++ wsX10 ++ (vx_atS RX3 118 "java/lang/IndexOutOfBoundsException" ["java/lang/RuntimeException", "java/lang/Exception"]).filter goodWord ++ (vx_atS RX3 59 "java/lang/IllegalArgumentException" ["java/lang/RuntimeException", "java/lang/Exception"]).filter goodWord)
def wsX3_supposedTax_r1 : List Cond := [Cond.methodLink RX3 77 yX3_personAt, Cond.instanceMethod yX3_personAt, Cond.selects RX3 yX3_personAt yX3_personAt, Cond.initialized RX3, Cond.code yX3_personAt cX3_personAt 2 (some (.object "TaxEqualiser$Person")), Cond.classLink RX3 114 "java/lang/IndexOutOfBoundsException", Cond.initialized "java/lang/IndexOutOfBoundsException", Cond.fieldLink RX3 16 "TaxEqualiser" "staff" "Ljava/util/List;", Cond.classLink RX3 72 "TaxEqualiser$Person", Cond.methodLink RX3 63 ⟨"java/util/List", "size", "()I"⟩, Cond.selects RJx4a65c ⟨"java/util/List", "size", "()I"⟩ yJx4a65c_size_8abf5, Cond.instanceMethod yJx4a65c_size_8abf5, Cond.initialized RJx4a65c, Cond.code yJx4a65c_size_8abf5 cJx4a65c_size_8abf5 1 (some .int), Cond.fieldLink RJx4a65c 48 "java/util/ArrayList" "size" "I", Cond.methodLink RX3 119 ⟨"java/util/List", "get", "(I)Ljava/lang/Object;"⟩, Cond.selects RJx4a65c ⟨"java/util/List", "get", "(I)Ljava/lang/Object;"⟩ yJx4a65c_get_915e3, Cond.instanceMethod yJx4a65c_get_915e3, Cond.code yJx4a65c_get_915e3 cJx4a65c_get_915e3 2 (some (.object "java/lang/Object")), Cond.methodLink RJx4a65c 118 yJ15_checkIndex_7cf53, Cond.static yJ15_checkIndex_7cf53, Cond.initialized RJ15, Cond.code yJ15_checkIndex_7cf53 cJ15_checkIndex_7cf53 2 (some .int), Cond.methodLink RJ15 105 yJ3_checkIndex_8e157]
def wsX3_supposedTax_r2 : List Cond := [Cond.static yJ3_checkIndex_8e157, Cond.initialized RJ3, Cond.code yJ3_checkIndex_8e157 cJ3_checkIndex_8e157 3 (some .int), Cond.methodLink RJx4a65c 123 yJx4a65c_elementData_915e3, Cond.instanceMethod yJx4a65c_elementData_915e3, Cond.selects RJx4a65c yJx4a65c_elementData_915e3 yJx4a65c_elementData_915e3, Cond.code yJx4a65c_elementData_915e3 cJx4a65c_elementData_915e3 2 (some (.object "java/lang/Object")), Cond.fieldLink RJx4a65c 9 "java/util/ArrayList" "elementData" "[Ljava/lang/Object;", Cond.methodLink RX3 134 yX2_supposedTaxOfYear, Cond.instanceMethod yX2_supposedTaxOfYear, Cond.selects RX2 yX2_supposedTaxOfYear yX2_supposedTaxOfYear, Cond.initialized RX2, Cond.code yX2_supposedTaxOfYear cX2_supposedTaxOfYear 1 (some .int), Cond.fieldLink RX2 31 "TaxEqualiser$Person" "home" "LTaxEqualiser$Land;", Cond.methodLink RX2 86 yX2_wholeIncome, Cond.instanceMethod yX2_wholeIncome, Cond.selects RX2 yX2_wholeIncome yX2_wholeIncome, Cond.code yX2_wholeIncome cX2_wholeIncome 3 (some .int), Cond.fieldLink RX2 38 "TaxEqualiser$Person" "pay" "I", Cond.fieldLink RX2 12 "TaxEqualiser$Person" "bonuses" "Ljava/util/List;", Cond.classLink RX2 48 "TaxEqualiser$Bonus", Cond.methodLink RX2 61 ⟨"java/util/List", "size", "()I"⟩, Cond.methodLink RX2 67 ⟨"java/util/List", "get", "(I)Ljava/lang/Object;"⟩, Cond.methodLink RX2 71 yX1_taxOf]
def wsX3_supposedTax_r3 : List Cond := [Cond.instanceMethod yX1_taxOf, Cond.selects RX1 yX1_taxOf yX1_taxOf, Cond.initialized RX1, Cond.code yX1_taxOf cX1_taxOf 8 (some .int), Cond.fieldLink RX1 9 "TaxEqualiser$Land" "lower" "I", Cond.methodLink RX1 28 Lib.Math.min.name, Cond.static Lib.Math.min.name, Cond.initialized "java/lang/Math", Cond.code Lib.Math.min.name Lib.Math.min.code 2 (some .int), Cond.fieldLink RX1 16 "TaxEqualiser$Land" "upper" "I", Cond.methodLink RX1 34 Lib.Math.max.name, Cond.static Lib.Math.max.name, Cond.code Lib.Math.max.name Lib.Math.max.code 2 (some .int), Cond.fieldLink RX1 19 "TaxEqualiser$Land" "first" "I", Cond.fieldLink RX1 22 "TaxEqualiser$Land" "second" "I", Cond.fieldLink RX1 25 "TaxEqualiser$Land" "third" "I", Cond.constantLong RX1 37 (100)]
def wsX3_supposedTax : List Cond := .code yX3_supposedTax cX3_supposedTax 2 (some .int) :: ((wsX3_supposedTax_r1 ++ (wsX3_supposedTax_r2 ++ wsX3_supposedTax_r3)) ++ wsX30 ++ wsJx4a65c0 ++ wsX20 ++ wsX00 ++ wsX10 ++ (vx_atS RX3 118 "java/lang/IndexOutOfBoundsException" ["java/lang/RuntimeException", "java/lang/Exception"]).filter goodWord)
def wsX3_homeIncome_r1 : List Cond := [Cond.methodLink RX3 77 yX3_personAt, Cond.instanceMethod yX3_personAt, Cond.selects RX3 yX3_personAt yX3_personAt, Cond.initialized RX3, Cond.code yX3_personAt cX3_personAt 2 (some (.object "TaxEqualiser$Person")), Cond.classLink RX3 114 "java/lang/IndexOutOfBoundsException", Cond.initialized "java/lang/IndexOutOfBoundsException", Cond.fieldLink RX3 16 "TaxEqualiser" "staff" "Ljava/util/List;", Cond.classLink RX3 72 "TaxEqualiser$Person", Cond.methodLink RX3 63 ⟨"java/util/List", "size", "()I"⟩, Cond.selects RJx4a65c ⟨"java/util/List", "size", "()I"⟩ yJx4a65c_size_8abf5, Cond.instanceMethod yJx4a65c_size_8abf5, Cond.initialized RJx4a65c, Cond.code yJx4a65c_size_8abf5 cJx4a65c_size_8abf5 1 (some .int), Cond.fieldLink RJx4a65c 48 "java/util/ArrayList" "size" "I", Cond.methodLink RX3 119 ⟨"java/util/List", "get", "(I)Ljava/lang/Object;"⟩, Cond.selects RJx4a65c ⟨"java/util/List", "get", "(I)Ljava/lang/Object;"⟩ yJx4a65c_get_915e3, Cond.instanceMethod yJx4a65c_get_915e3, Cond.code yJx4a65c_get_915e3 cJx4a65c_get_915e3 2 (some (.object "java/lang/Object")), Cond.methodLink RJx4a65c 118 yJ15_checkIndex_7cf53, Cond.static yJ15_checkIndex_7cf53, Cond.initialized RJ15, Cond.code yJ15_checkIndex_7cf53 cJ15_checkIndex_7cf53 2 (some .int), Cond.methodLink RJ15 105 yJ3_checkIndex_8e157]
def wsX3_homeIncome_r2 : List Cond := [Cond.static yJ3_checkIndex_8e157, Cond.initialized RJ3, Cond.code yJ3_checkIndex_8e157 cJ3_checkIndex_8e157 3 (some .int), Cond.methodLink RJx4a65c 123 yJx4a65c_elementData_915e3, Cond.instanceMethod yJx4a65c_elementData_915e3, Cond.selects RJx4a65c yJx4a65c_elementData_915e3 yJx4a65c_elementData_915e3, Cond.code yJx4a65c_elementData_915e3 cJx4a65c_elementData_915e3 2 (some (.object "java/lang/Object")), Cond.fieldLink RJx4a65c 9 "java/util/ArrayList" "elementData" "[Ljava/lang/Object;", Cond.methodLink RX3 137 yX2_incomeAtHome, Cond.instanceMethod yX2_incomeAtHome, Cond.selects RX2 yX2_incomeAtHome yX2_incomeAtHome, Cond.initialized RX2, Cond.code yX2_incomeAtHome cX2_incomeAtHome 4 (some .int), Cond.fieldLink RX2 38 "TaxEqualiser$Person" "pay" "I", Cond.fieldLink RX2 12 "TaxEqualiser$Person" "bonuses" "Ljava/util/List;", Cond.classLink RX2 48 "TaxEqualiser$Bonus", Cond.methodLink RX2 77 yX2_monthsAbroad, Cond.instanceMethod yX2_monthsAbroad, Cond.selects RX2 yX2_monthsAbroad yX2_monthsAbroad, Cond.code yX2_monthsAbroad cX2_monthsAbroad 1 (some .int), Cond.fieldLink RX2 22 "TaxEqualiser$Person" "abroadTo" "I", Cond.fieldLink RX2 18 "TaxEqualiser$Person" "abroadFrom" "I", Cond.methodLink RX2 61 ⟨"java/util/List", "size", "()I"⟩, Cond.methodLink RX2 67 ⟨"java/util/List", "get", "(I)Ljava/lang/Object;"⟩]
def wsX3_homeIncome_r3 : List Cond := [Cond.methodLink RX2 89 yX2_partAbroad, Cond.instanceMethod yX2_partAbroad, Cond.selects RX2 yX2_partAbroad yX2_partAbroad, Cond.code yX2_partAbroad cX2_partAbroad 4 (some .int), Cond.methodLink RX2 41 Lib.Math.min.name, Cond.static Lib.Math.min.name, Cond.initialized "java/lang/Math", Cond.code Lib.Math.min.name Lib.Math.min.code 2 (some .int), Cond.methodLink RX2 55 Lib.Math.max.name, Cond.static Lib.Math.max.name, Cond.code Lib.Math.max.name Lib.Math.max.code 2 (some .int)]
def wsX3_homeIncome : List Cond := .code yX3_homeIncome cX3_homeIncome 2 (some .int) :: ((wsX3_homeIncome_r1 ++ (wsX3_homeIncome_r2 ++ wsX3_homeIncome_r3)) ++ wsX30 ++ wsJx4a65c0 ++ wsX20 ++ wsX00 ++ (vx_atS RX3 118 "java/lang/IndexOutOfBoundsException" ["java/lang/RuntimeException", "java/lang/Exception"]).filter goodWord)
def wsX3_homeTax_r1 : List Cond := [Cond.methodLink RX3 77 yX3_personAt, Cond.instanceMethod yX3_personAt, Cond.selects RX3 yX3_personAt yX3_personAt, Cond.initialized RX3, Cond.code yX3_personAt cX3_personAt 2 (some (.object "TaxEqualiser$Person")), Cond.classLink RX3 114 "java/lang/IndexOutOfBoundsException", Cond.initialized "java/lang/IndexOutOfBoundsException", Cond.fieldLink RX3 16 "TaxEqualiser" "staff" "Ljava/util/List;", Cond.classLink RX3 72 "TaxEqualiser$Person", Cond.methodLink RX3 63 ⟨"java/util/List", "size", "()I"⟩, Cond.selects RJx4a65c ⟨"java/util/List", "size", "()I"⟩ yJx4a65c_size_8abf5, Cond.instanceMethod yJx4a65c_size_8abf5, Cond.initialized RJx4a65c, Cond.code yJx4a65c_size_8abf5 cJx4a65c_size_8abf5 1 (some .int), Cond.fieldLink RJx4a65c 48 "java/util/ArrayList" "size" "I", Cond.methodLink RX3 119 ⟨"java/util/List", "get", "(I)Ljava/lang/Object;"⟩, Cond.selects RJx4a65c ⟨"java/util/List", "get", "(I)Ljava/lang/Object;"⟩ yJx4a65c_get_915e3, Cond.instanceMethod yJx4a65c_get_915e3, Cond.code yJx4a65c_get_915e3 cJx4a65c_get_915e3 2 (some (.object "java/lang/Object")), Cond.methodLink RJx4a65c 118 yJ15_checkIndex_7cf53, Cond.static yJ15_checkIndex_7cf53, Cond.initialized RJ15, Cond.code yJ15_checkIndex_7cf53 cJ15_checkIndex_7cf53 2 (some .int), Cond.methodLink RJ15 105 yJ3_checkIndex_8e157]
def wsX3_homeTax_r2 : List Cond := [Cond.static yJ3_checkIndex_8e157, Cond.initialized RJ3, Cond.code yJ3_checkIndex_8e157 cJ3_checkIndex_8e157 3 (some .int), Cond.methodLink RJx4a65c 123 yJx4a65c_elementData_915e3, Cond.instanceMethod yJx4a65c_elementData_915e3, Cond.selects RJx4a65c yJx4a65c_elementData_915e3 yJx4a65c_elementData_915e3, Cond.code yJx4a65c_elementData_915e3 cJx4a65c_elementData_915e3 2 (some (.object "java/lang/Object")), Cond.fieldLink RJx4a65c 9 "java/util/ArrayList" "elementData" "[Ljava/lang/Object;", Cond.methodLink RX3 140 yX2_taxAtHome, Cond.instanceMethod yX2_taxAtHome, Cond.selects RX2 yX2_taxAtHome yX2_taxAtHome, Cond.initialized RX2, Cond.code yX2_taxAtHome cX2_taxAtHome 2 (some .int), Cond.fieldLink RX2 31 "TaxEqualiser$Person" "home" "LTaxEqualiser$Land;", Cond.methodLink RX2 86 yX2_wholeIncome, Cond.instanceMethod yX2_wholeIncome, Cond.selects RX2 yX2_wholeIncome yX2_wholeIncome, Cond.code yX2_wholeIncome cX2_wholeIncome 3 (some .int), Cond.fieldLink RX2 38 "TaxEqualiser$Person" "pay" "I", Cond.fieldLink RX2 12 "TaxEqualiser$Person" "bonuses" "Ljava/util/List;", Cond.classLink RX2 48 "TaxEqualiser$Bonus", Cond.methodLink RX2 61 ⟨"java/util/List", "size", "()I"⟩, Cond.methodLink RX2 67 ⟨"java/util/List", "get", "(I)Ljava/lang/Object;"⟩, Cond.methodLink RX2 71 yX1_taxOf]
def wsX3_homeTax_r3 : List Cond := [Cond.instanceMethod yX1_taxOf, Cond.selects RX1 yX1_taxOf yX1_taxOf, Cond.initialized RX1, Cond.code yX1_taxOf cX1_taxOf 8 (some .int), Cond.fieldLink RX1 9 "TaxEqualiser$Land" "lower" "I", Cond.methodLink RX1 28 Lib.Math.min.name, Cond.static Lib.Math.min.name, Cond.initialized "java/lang/Math", Cond.code Lib.Math.min.name Lib.Math.min.code 2 (some .int), Cond.fieldLink RX1 16 "TaxEqualiser$Land" "upper" "I", Cond.methodLink RX1 34 Lib.Math.max.name, Cond.static Lib.Math.max.name, Cond.code Lib.Math.max.name Lib.Math.max.code 2 (some .int), Cond.fieldLink RX1 19 "TaxEqualiser$Land" "first" "I", Cond.fieldLink RX1 22 "TaxEqualiser$Land" "second" "I", Cond.fieldLink RX1 25 "TaxEqualiser$Land" "third" "I", Cond.constantLong RX1 37 (100), Cond.methodLink RX2 93 yX2_incomeAtHome, Cond.instanceMethod yX2_incomeAtHome, Cond.selects RX2 yX2_incomeAtHome yX2_incomeAtHome, Cond.code yX2_incomeAtHome cX2_incomeAtHome 4 (some .int), Cond.methodLink RX2 77 yX2_monthsAbroad, Cond.instanceMethod yX2_monthsAbroad, Cond.selects RX2 yX2_monthsAbroad yX2_monthsAbroad]
def wsX3_homeTax_r4 : List Cond := [Cond.code yX2_monthsAbroad cX2_monthsAbroad 1 (some .int), Cond.fieldLink RX2 22 "TaxEqualiser$Person" "abroadTo" "I", Cond.fieldLink RX2 18 "TaxEqualiser$Person" "abroadFrom" "I", Cond.methodLink RX2 89 yX2_partAbroad, Cond.instanceMethod yX2_partAbroad, Cond.selects RX2 yX2_partAbroad yX2_partAbroad, Cond.code yX2_partAbroad cX2_partAbroad 4 (some .int), Cond.methodLink RX2 41 Lib.Math.min.name, Cond.methodLink RX2 55 Lib.Math.max.name]
def wsX3_homeTax : List Cond := .code yX3_homeTax cX3_homeTax 2 (some .int) :: ((wsX3_homeTax_r1 ++ (wsX3_homeTax_r2 ++ (wsX3_homeTax_r3 ++ wsX3_homeTax_r4))) ++ wsX30 ++ wsJx4a65c0 ++ wsX20 ++ wsX00 ++ wsX10 ++ (vx_atS RX3 118 "java/lang/IndexOutOfBoundsException" ["java/lang/RuntimeException", "java/lang/Exception"]).filter goodWord)
def wsX3_hostIncome_r1 : List Cond := [Cond.methodLink RX3 77 yX3_personAt, Cond.instanceMethod yX3_personAt, Cond.selects RX3 yX3_personAt yX3_personAt, Cond.initialized RX3, Cond.code yX3_personAt cX3_personAt 2 (some (.object "TaxEqualiser$Person")), Cond.classLink RX3 114 "java/lang/IndexOutOfBoundsException", Cond.initialized "java/lang/IndexOutOfBoundsException", Cond.fieldLink RX3 16 "TaxEqualiser" "staff" "Ljava/util/List;", Cond.classLink RX3 72 "TaxEqualiser$Person", Cond.methodLink RX3 63 ⟨"java/util/List", "size", "()I"⟩, Cond.selects RJx4a65c ⟨"java/util/List", "size", "()I"⟩ yJx4a65c_size_8abf5, Cond.instanceMethod yJx4a65c_size_8abf5, Cond.initialized RJx4a65c, Cond.code yJx4a65c_size_8abf5 cJx4a65c_size_8abf5 1 (some .int), Cond.fieldLink RJx4a65c 48 "java/util/ArrayList" "size" "I", Cond.methodLink RX3 119 ⟨"java/util/List", "get", "(I)Ljava/lang/Object;"⟩, Cond.selects RJx4a65c ⟨"java/util/List", "get", "(I)Ljava/lang/Object;"⟩ yJx4a65c_get_915e3, Cond.instanceMethod yJx4a65c_get_915e3, Cond.code yJx4a65c_get_915e3 cJx4a65c_get_915e3 2 (some (.object "java/lang/Object")), Cond.methodLink RJx4a65c 118 yJ15_checkIndex_7cf53, Cond.static yJ15_checkIndex_7cf53, Cond.initialized RJ15, Cond.code yJ15_checkIndex_7cf53 cJ15_checkIndex_7cf53 2 (some .int), Cond.methodLink RJ15 105 yJ3_checkIndex_8e157]
def wsX3_hostIncome_r2 : List Cond := [Cond.static yJ3_checkIndex_8e157, Cond.initialized RJ3, Cond.code yJ3_checkIndex_8e157 cJ3_checkIndex_8e157 3 (some .int), Cond.methodLink RJx4a65c 123 yJx4a65c_elementData_915e3, Cond.instanceMethod yJx4a65c_elementData_915e3, Cond.selects RJx4a65c yJx4a65c_elementData_915e3 yJx4a65c_elementData_915e3, Cond.code yJx4a65c_elementData_915e3 cJx4a65c_elementData_915e3 2 (some (.object "java/lang/Object")), Cond.fieldLink RJx4a65c 9 "java/util/ArrayList" "elementData" "[Ljava/lang/Object;", Cond.methodLink RX3 143 yX2_incomeAtHost, Cond.instanceMethod yX2_incomeAtHost, Cond.selects RX2 yX2_incomeAtHost yX2_incomeAtHost, Cond.initialized RX2, Cond.code yX2_incomeAtHost cX2_incomeAtHost 3 (some .int), Cond.fieldLink RX2 38 "TaxEqualiser$Person" "pay" "I", Cond.fieldLink RX2 12 "TaxEqualiser$Person" "bonuses" "Ljava/util/List;", Cond.classLink RX2 48 "TaxEqualiser$Bonus", Cond.methodLink RX2 77 yX2_monthsAbroad, Cond.instanceMethod yX2_monthsAbroad, Cond.selects RX2 yX2_monthsAbroad yX2_monthsAbroad, Cond.code yX2_monthsAbroad cX2_monthsAbroad 1 (some .int), Cond.fieldLink RX2 22 "TaxEqualiser$Person" "abroadTo" "I", Cond.fieldLink RX2 18 "TaxEqualiser$Person" "abroadFrom" "I", Cond.methodLink RX2 96 yX2_housingInYear, Cond.instanceMethod yX2_housingInYear]
def wsX3_hostIncome_r3 : List Cond := [Cond.selects RX2 yX2_housingInYear yX2_housingInYear, Cond.code yX2_housingInYear cX2_housingInYear 1 (some .int), Cond.fieldLink RX2 25 "TaxEqualiser$Person" "rent" "I", Cond.methodLink RX2 83 yX2_ownShare, Cond.instanceMethod yX2_ownShare, Cond.selects RX2 yX2_ownShare yX2_ownShare, Cond.code yX2_ownShare cX2_ownShare 1 (some .int), Cond.fieldLink RX2 28 "TaxEqualiser$Person" "norm" "I", Cond.methodLink RX2 41 Lib.Math.min.name, Cond.static Lib.Math.min.name, Cond.initialized "java/lang/Math", Cond.code Lib.Math.min.name Lib.Math.min.code 2 (some .int), Cond.methodLink RX2 61 ⟨"java/util/List", "size", "()I"⟩, Cond.methodLink RX2 67 ⟨"java/util/List", "get", "(I)Ljava/lang/Object;"⟩, Cond.methodLink RX2 89 yX2_partAbroad, Cond.instanceMethod yX2_partAbroad, Cond.selects RX2 yX2_partAbroad yX2_partAbroad, Cond.code yX2_partAbroad cX2_partAbroad 4 (some .int), Cond.methodLink RX2 55 Lib.Math.max.name, Cond.static Lib.Math.max.name, Cond.code Lib.Math.max.name Lib.Math.max.code 2 (some .int)]
def wsX3_hostIncome : List Cond := .code yX3_hostIncome cX3_hostIncome 2 (some .int) :: ((wsX3_hostIncome_r1 ++ (wsX3_hostIncome_r2 ++ wsX3_hostIncome_r3)) ++ wsX30 ++ wsJx4a65c0 ++ wsX20 ++ wsX00 ++ (vx_atS RX3 118 "java/lang/IndexOutOfBoundsException" ["java/lang/RuntimeException", "java/lang/Exception"]).filter goodWord)
def wsX3_hostTax_r1 : List Cond := [Cond.methodLink RX3 77 yX3_personAt, Cond.instanceMethod yX3_personAt, Cond.selects RX3 yX3_personAt yX3_personAt, Cond.initialized RX3, Cond.code yX3_personAt cX3_personAt 2 (some (.object "TaxEqualiser$Person")), Cond.classLink RX3 114 "java/lang/IndexOutOfBoundsException", Cond.initialized "java/lang/IndexOutOfBoundsException", Cond.fieldLink RX3 16 "TaxEqualiser" "staff" "Ljava/util/List;", Cond.classLink RX3 72 "TaxEqualiser$Person", Cond.methodLink RX3 63 ⟨"java/util/List", "size", "()I"⟩, Cond.selects RJx4a65c ⟨"java/util/List", "size", "()I"⟩ yJx4a65c_size_8abf5, Cond.instanceMethod yJx4a65c_size_8abf5, Cond.initialized RJx4a65c, Cond.code yJx4a65c_size_8abf5 cJx4a65c_size_8abf5 1 (some .int), Cond.fieldLink RJx4a65c 48 "java/util/ArrayList" "size" "I", Cond.methodLink RX3 119 ⟨"java/util/List", "get", "(I)Ljava/lang/Object;"⟩, Cond.selects RJx4a65c ⟨"java/util/List", "get", "(I)Ljava/lang/Object;"⟩ yJx4a65c_get_915e3, Cond.instanceMethod yJx4a65c_get_915e3, Cond.code yJx4a65c_get_915e3 cJx4a65c_get_915e3 2 (some (.object "java/lang/Object")), Cond.methodLink RJx4a65c 118 yJ15_checkIndex_7cf53, Cond.static yJ15_checkIndex_7cf53, Cond.initialized RJ15, Cond.code yJ15_checkIndex_7cf53 cJ15_checkIndex_7cf53 2 (some .int), Cond.methodLink RJ15 105 yJ3_checkIndex_8e157]
def wsX3_hostTax_r2 : List Cond := [Cond.static yJ3_checkIndex_8e157, Cond.initialized RJ3, Cond.code yJ3_checkIndex_8e157 cJ3_checkIndex_8e157 3 (some .int), Cond.methodLink RJx4a65c 123 yJx4a65c_elementData_915e3, Cond.instanceMethod yJx4a65c_elementData_915e3, Cond.selects RJx4a65c yJx4a65c_elementData_915e3 yJx4a65c_elementData_915e3, Cond.code yJx4a65c_elementData_915e3 cJx4a65c_elementData_915e3 2 (some (.object "java/lang/Object")), Cond.fieldLink RJx4a65c 9 "java/util/ArrayList" "elementData" "[Ljava/lang/Object;", Cond.methodLink RX3 146 yX2_taxAtHost, Cond.instanceMethod yX2_taxAtHost, Cond.selects RX2 yX2_taxAtHost yX2_taxAtHost, Cond.initialized RX2, Cond.code yX2_taxAtHost cX2_taxAtHost 1 (some .int), Cond.fieldLink RX2 35 "TaxEqualiser$Person" "host" "LTaxEqualiser$Land;", Cond.methodLink RX2 99 yX2_incomeAtHost, Cond.instanceMethod yX2_incomeAtHost, Cond.selects RX2 yX2_incomeAtHost yX2_incomeAtHost, Cond.code yX2_incomeAtHost cX2_incomeAtHost 3 (some .int), Cond.fieldLink RX2 38 "TaxEqualiser$Person" "pay" "I", Cond.fieldLink RX2 12 "TaxEqualiser$Person" "bonuses" "Ljava/util/List;", Cond.classLink RX2 48 "TaxEqualiser$Bonus", Cond.methodLink RX2 77 yX2_monthsAbroad, Cond.instanceMethod yX2_monthsAbroad, Cond.selects RX2 yX2_monthsAbroad yX2_monthsAbroad]
def wsX3_hostTax_r3 : List Cond := [Cond.code yX2_monthsAbroad cX2_monthsAbroad 1 (some .int), Cond.fieldLink RX2 22 "TaxEqualiser$Person" "abroadTo" "I", Cond.fieldLink RX2 18 "TaxEqualiser$Person" "abroadFrom" "I", Cond.methodLink RX2 96 yX2_housingInYear, Cond.instanceMethod yX2_housingInYear, Cond.selects RX2 yX2_housingInYear yX2_housingInYear, Cond.code yX2_housingInYear cX2_housingInYear 1 (some .int), Cond.fieldLink RX2 25 "TaxEqualiser$Person" "rent" "I", Cond.methodLink RX2 83 yX2_ownShare, Cond.instanceMethod yX2_ownShare, Cond.selects RX2 yX2_ownShare yX2_ownShare, Cond.code yX2_ownShare cX2_ownShare 1 (some .int), Cond.fieldLink RX2 28 "TaxEqualiser$Person" "norm" "I", Cond.methodLink RX2 41 Lib.Math.min.name, Cond.static Lib.Math.min.name, Cond.initialized "java/lang/Math", Cond.code Lib.Math.min.name Lib.Math.min.code 2 (some .int), Cond.methodLink RX2 61 ⟨"java/util/List", "size", "()I"⟩, Cond.methodLink RX2 67 ⟨"java/util/List", "get", "(I)Ljava/lang/Object;"⟩, Cond.methodLink RX2 89 yX2_partAbroad, Cond.instanceMethod yX2_partAbroad, Cond.selects RX2 yX2_partAbroad yX2_partAbroad, Cond.code yX2_partAbroad cX2_partAbroad 4 (some .int), Cond.methodLink RX2 55 Lib.Math.max.name]
def wsX3_hostTax_r4 : List Cond := [Cond.static Lib.Math.max.name, Cond.code Lib.Math.max.name Lib.Math.max.code 2 (some .int), Cond.methodLink RX2 102 yX1_grossTaxOf, Cond.instanceMethod yX1_grossTaxOf, Cond.selects RX1 yX1_grossTaxOf yX1_grossTaxOf, Cond.initialized RX1, Cond.code yX1_grossTaxOf cX1_grossTaxOf 6 (some .int), Cond.methodLink RX1 39 yX1_mostGrossTax, Cond.static yX1_mostGrossTax, Cond.code yX1_mostGrossTax cX1_mostGrossTax 1 (some .int), Cond.methodLink RX1 43 yX1_taxOf, Cond.instanceMethod yX1_taxOf, Cond.selects RX1 yX1_taxOf yX1_taxOf, Cond.code yX1_taxOf cX1_taxOf 8 (some .int), Cond.fieldLink RX1 9 "TaxEqualiser$Land" "lower" "I", Cond.methodLink RX1 28 Lib.Math.min.name, Cond.fieldLink RX1 16 "TaxEqualiser$Land" "upper" "I", Cond.methodLink RX1 34 Lib.Math.max.name, Cond.fieldLink RX1 19 "TaxEqualiser$Land" "first" "I", Cond.fieldLink RX1 22 "TaxEqualiser$Land" "second" "I", Cond.fieldLink RX1 25 "TaxEqualiser$Land" "third" "I", Cond.constantLong RX1 37 (100)]
def wsX3_hostTax : List Cond := .code yX3_hostTax cX3_hostTax 2 (some .int) :: ((wsX3_hostTax_r1 ++ (wsX3_hostTax_r2 ++ (wsX3_hostTax_r3 ++ wsX3_hostTax_r4))) ++ wsX30 ++ wsJx4a65c0 ++ wsX20 ++ wsX00 ++ wsX10 ++ (vx_atS RX3 118 "java/lang/IndexOutOfBoundsException" ["java/lang/RuntimeException", "java/lang/Exception"]).filter goodWord)
def wsX3_borne_r1 : List Cond := [Cond.methodLink RX3 77 yX3_personAt, Cond.instanceMethod yX3_personAt, Cond.selects RX3 yX3_personAt yX3_personAt, Cond.initialized RX3, Cond.code yX3_personAt cX3_personAt 2 (some (.object "TaxEqualiser$Person")), Cond.classLink RX3 114 "java/lang/IndexOutOfBoundsException", Cond.initialized "java/lang/IndexOutOfBoundsException", Cond.fieldLink RX3 16 "TaxEqualiser" "staff" "Ljava/util/List;", Cond.classLink RX3 72 "TaxEqualiser$Person", Cond.methodLink RX3 63 ⟨"java/util/List", "size", "()I"⟩, Cond.selects RJx4a65c ⟨"java/util/List", "size", "()I"⟩ yJx4a65c_size_8abf5, Cond.instanceMethod yJx4a65c_size_8abf5, Cond.initialized RJx4a65c, Cond.code yJx4a65c_size_8abf5 cJx4a65c_size_8abf5 1 (some .int), Cond.fieldLink RJx4a65c 48 "java/util/ArrayList" "size" "I", Cond.methodLink RX3 119 ⟨"java/util/List", "get", "(I)Ljava/lang/Object;"⟩, Cond.selects RJx4a65c ⟨"java/util/List", "get", "(I)Ljava/lang/Object;"⟩ yJx4a65c_get_915e3, Cond.instanceMethod yJx4a65c_get_915e3, Cond.code yJx4a65c_get_915e3 cJx4a65c_get_915e3 2 (some (.object "java/lang/Object")), Cond.methodLink RJx4a65c 118 yJ15_checkIndex_7cf53, Cond.static yJ15_checkIndex_7cf53, Cond.initialized RJ15, Cond.code yJ15_checkIndex_7cf53 cJ15_checkIndex_7cf53 2 (some .int), Cond.methodLink RJ15 105 yJ3_checkIndex_8e157]
def wsX3_borne_r2 : List Cond := [Cond.static yJ3_checkIndex_8e157, Cond.initialized RJ3, Cond.code yJ3_checkIndex_8e157 cJ3_checkIndex_8e157 3 (some .int), Cond.methodLink RJx4a65c 123 yJx4a65c_elementData_915e3, Cond.instanceMethod yJx4a65c_elementData_915e3, Cond.selects RJx4a65c yJx4a65c_elementData_915e3 yJx4a65c_elementData_915e3, Cond.code yJx4a65c_elementData_915e3 cJx4a65c_elementData_915e3 2 (some (.object "java/lang/Object")), Cond.fieldLink RJx4a65c 9 "java/util/ArrayList" "elementData" "[Ljava/lang/Object;", Cond.methodLink RX3 149 yX2_borneInYear, Cond.instanceMethod yX2_borneInYear, Cond.selects RX2 yX2_borneInYear yX2_borneInYear, Cond.initialized RX2, Cond.code yX2_borneInYear cX2_borneInYear 1 (some .int), Cond.methodLink RX2 105 yX2_heldInYear, Cond.instanceMethod yX2_heldInYear, Cond.selects RX2 yX2_heldInYear yX2_heldInYear, Cond.code yX2_heldInYear cX2_heldInYear 1 (some .int), Cond.methodLink RX2 77 yX2_monthsAbroad, Cond.instanceMethod yX2_monthsAbroad, Cond.selects RX2 yX2_monthsAbroad yX2_monthsAbroad, Cond.code yX2_monthsAbroad cX2_monthsAbroad 1 (some .int), Cond.fieldLink RX2 22 "TaxEqualiser$Person" "abroadTo" "I", Cond.fieldLink RX2 18 "TaxEqualiser$Person" "abroadFrom" "I", Cond.methodLink RX2 80 yX2_heldEachMonth]
def wsX3_borne_r3 : List Cond := [Cond.instanceMethod yX2_heldEachMonth, Cond.selects RX2 yX2_heldEachMonth yX2_heldEachMonth, Cond.code yX2_heldEachMonth cX2_heldEachMonth 1 (some .int), Cond.fieldLink RX2 31 "TaxEqualiser$Person" "home" "LTaxEqualiser$Land;", Cond.fieldLink RX2 38 "TaxEqualiser$Person" "pay" "I", Cond.methodLink RX2 71 yX1_taxOf, Cond.instanceMethod yX1_taxOf, Cond.selects RX1 yX1_taxOf yX1_taxOf, Cond.initialized RX1, Cond.code yX1_taxOf cX1_taxOf 8 (some .int), Cond.fieldLink RX1 9 "TaxEqualiser$Land" "lower" "I", Cond.methodLink RX1 28 Lib.Math.min.name, Cond.static Lib.Math.min.name, Cond.initialized "java/lang/Math", Cond.code Lib.Math.min.name Lib.Math.min.code 2 (some .int), Cond.fieldLink RX1 16 "TaxEqualiser$Land" "upper" "I", Cond.methodLink RX1 34 Lib.Math.max.name, Cond.static Lib.Math.max.name, Cond.code Lib.Math.max.name Lib.Math.max.code 2 (some .int), Cond.fieldLink RX1 19 "TaxEqualiser$Land" "first" "I", Cond.fieldLink RX1 22 "TaxEqualiser$Land" "second" "I", Cond.fieldLink RX1 25 "TaxEqualiser$Land" "third" "I", Cond.constantLong RX1 37 (100), Cond.methodLink RX2 108 yX2_taxAtHome]
def wsX3_borne_r4 : List Cond := [Cond.instanceMethod yX2_taxAtHome, Cond.selects RX2 yX2_taxAtHome yX2_taxAtHome, Cond.code yX2_taxAtHome cX2_taxAtHome 2 (some .int), Cond.methodLink RX2 86 yX2_wholeIncome, Cond.instanceMethod yX2_wholeIncome, Cond.selects RX2 yX2_wholeIncome yX2_wholeIncome, Cond.code yX2_wholeIncome cX2_wholeIncome 3 (some .int), Cond.fieldLink RX2 12 "TaxEqualiser$Person" "bonuses" "Ljava/util/List;", Cond.classLink RX2 48 "TaxEqualiser$Bonus", Cond.methodLink RX2 61 ⟨"java/util/List", "size", "()I"⟩, Cond.methodLink RX2 67 ⟨"java/util/List", "get", "(I)Ljava/lang/Object;"⟩, Cond.methodLink RX2 93 yX2_incomeAtHome, Cond.instanceMethod yX2_incomeAtHome, Cond.selects RX2 yX2_incomeAtHome yX2_incomeAtHome, Cond.code yX2_incomeAtHome cX2_incomeAtHome 4 (some .int), Cond.methodLink RX2 89 yX2_partAbroad, Cond.instanceMethod yX2_partAbroad, Cond.selects RX2 yX2_partAbroad yX2_partAbroad, Cond.code yX2_partAbroad cX2_partAbroad 4 (some .int), Cond.methodLink RX2 41 Lib.Math.min.name, Cond.methodLink RX2 55 Lib.Math.max.name]
def wsX3_borne : List Cond := .code yX3_borne cX3_borne 2 (some .int) :: ((wsX3_borne_r1 ++ (wsX3_borne_r2 ++ (wsX3_borne_r3 ++ wsX3_borne_r4))) ++ wsX30 ++ wsJx4a65c0 ++ wsX20 ++ wsX10 ++ wsX00 ++ (vx_atS RX3 118 "java/lang/IndexOutOfBoundsException" ["java/lang/RuntimeException", "java/lang/Exception"]).filter goodWord)
def wsX3_settlement_r1 : List Cond := [Cond.methodLink RX3 77 yX3_personAt, Cond.instanceMethod yX3_personAt, Cond.selects RX3 yX3_personAt yX3_personAt, Cond.initialized RX3, Cond.code yX3_personAt cX3_personAt 2 (some (.object "TaxEqualiser$Person")), Cond.classLink RX3 114 "java/lang/IndexOutOfBoundsException", Cond.initialized "java/lang/IndexOutOfBoundsException", Cond.fieldLink RX3 16 "TaxEqualiser" "staff" "Ljava/util/List;", Cond.classLink RX3 72 "TaxEqualiser$Person", Cond.methodLink RX3 63 ⟨"java/util/List", "size", "()I"⟩, Cond.selects RJx4a65c ⟨"java/util/List", "size", "()I"⟩ yJx4a65c_size_8abf5, Cond.instanceMethod yJx4a65c_size_8abf5, Cond.initialized RJx4a65c, Cond.code yJx4a65c_size_8abf5 cJx4a65c_size_8abf5 1 (some .int), Cond.fieldLink RJx4a65c 48 "java/util/ArrayList" "size" "I", Cond.methodLink RX3 119 ⟨"java/util/List", "get", "(I)Ljava/lang/Object;"⟩, Cond.selects RJx4a65c ⟨"java/util/List", "get", "(I)Ljava/lang/Object;"⟩ yJx4a65c_get_915e3, Cond.instanceMethod yJx4a65c_get_915e3, Cond.code yJx4a65c_get_915e3 cJx4a65c_get_915e3 2 (some (.object "java/lang/Object")), Cond.methodLink RJx4a65c 118 yJ15_checkIndex_7cf53, Cond.static yJ15_checkIndex_7cf53, Cond.initialized RJ15, Cond.code yJ15_checkIndex_7cf53 cJ15_checkIndex_7cf53 2 (some .int), Cond.methodLink RJ15 105 yJ3_checkIndex_8e157]
def wsX3_settlement_r2 : List Cond := [Cond.static yJ3_checkIndex_8e157, Cond.initialized RJ3, Cond.code yJ3_checkIndex_8e157 cJ3_checkIndex_8e157 3 (some .int), Cond.methodLink RJx4a65c 123 yJx4a65c_elementData_915e3, Cond.instanceMethod yJx4a65c_elementData_915e3, Cond.selects RJx4a65c yJx4a65c_elementData_915e3 yJx4a65c_elementData_915e3, Cond.code yJx4a65c_elementData_915e3 cJx4a65c_elementData_915e3 2 (some (.object "java/lang/Object")), Cond.fieldLink RJx4a65c 9 "java/util/ArrayList" "elementData" "[Ljava/lang/Object;", Cond.methodLink RX3 152 yX2_settlementOfYear, Cond.instanceMethod yX2_settlementOfYear, Cond.selects RX2 yX2_settlementOfYear yX2_settlementOfYear, Cond.initialized RX2, Cond.code yX2_settlementOfYear cX2_settlementOfYear 1 (some .int), Cond.methodLink RX2 111 yX2_supposedTaxOfYear, Cond.instanceMethod yX2_supposedTaxOfYear, Cond.selects RX2 yX2_supposedTaxOfYear yX2_supposedTaxOfYear, Cond.code yX2_supposedTaxOfYear cX2_supposedTaxOfYear 1 (some .int), Cond.fieldLink RX2 31 "TaxEqualiser$Person" "home" "LTaxEqualiser$Land;", Cond.methodLink RX2 86 yX2_wholeIncome, Cond.instanceMethod yX2_wholeIncome, Cond.selects RX2 yX2_wholeIncome yX2_wholeIncome, Cond.code yX2_wholeIncome cX2_wholeIncome 3 (some .int), Cond.fieldLink RX2 38 "TaxEqualiser$Person" "pay" "I", Cond.fieldLink RX2 12 "TaxEqualiser$Person" "bonuses" "Ljava/util/List;"]
def wsX3_settlement_r3 : List Cond := [Cond.classLink RX2 48 "TaxEqualiser$Bonus", Cond.methodLink RX2 61 ⟨"java/util/List", "size", "()I"⟩, Cond.methodLink RX2 67 ⟨"java/util/List", "get", "(I)Ljava/lang/Object;"⟩, Cond.methodLink RX2 71 yX1_taxOf, Cond.instanceMethod yX1_taxOf, Cond.selects RX1 yX1_taxOf yX1_taxOf, Cond.initialized RX1, Cond.code yX1_taxOf cX1_taxOf 8 (some .int), Cond.fieldLink RX1 9 "TaxEqualiser$Land" "lower" "I", Cond.methodLink RX1 28 Lib.Math.min.name, Cond.static Lib.Math.min.name, Cond.initialized "java/lang/Math", Cond.code Lib.Math.min.name Lib.Math.min.code 2 (some .int), Cond.fieldLink RX1 16 "TaxEqualiser$Land" "upper" "I", Cond.methodLink RX1 34 Lib.Math.max.name, Cond.static Lib.Math.max.name, Cond.code Lib.Math.max.name Lib.Math.max.code 2 (some .int), Cond.fieldLink RX1 19 "TaxEqualiser$Land" "first" "I", Cond.fieldLink RX1 22 "TaxEqualiser$Land" "second" "I", Cond.fieldLink RX1 25 "TaxEqualiser$Land" "third" "I", Cond.constantLong RX1 37 (100), Cond.methodLink RX2 114 yX2_borneInYear, Cond.instanceMethod yX2_borneInYear, Cond.selects RX2 yX2_borneInYear yX2_borneInYear]
def wsX3_settlement_r4 : List Cond := [Cond.code yX2_borneInYear cX2_borneInYear 1 (some .int), Cond.methodLink RX2 105 yX2_heldInYear, Cond.instanceMethod yX2_heldInYear, Cond.selects RX2 yX2_heldInYear yX2_heldInYear, Cond.code yX2_heldInYear cX2_heldInYear 1 (some .int), Cond.methodLink RX2 77 yX2_monthsAbroad, Cond.instanceMethod yX2_monthsAbroad, Cond.selects RX2 yX2_monthsAbroad yX2_monthsAbroad, Cond.code yX2_monthsAbroad cX2_monthsAbroad 1 (some .int), Cond.fieldLink RX2 22 "TaxEqualiser$Person" "abroadTo" "I", Cond.fieldLink RX2 18 "TaxEqualiser$Person" "abroadFrom" "I", Cond.methodLink RX2 80 yX2_heldEachMonth, Cond.instanceMethod yX2_heldEachMonth, Cond.selects RX2 yX2_heldEachMonth yX2_heldEachMonth, Cond.code yX2_heldEachMonth cX2_heldEachMonth 1 (some .int), Cond.methodLink RX2 108 yX2_taxAtHome, Cond.instanceMethod yX2_taxAtHome, Cond.selects RX2 yX2_taxAtHome yX2_taxAtHome, Cond.code yX2_taxAtHome cX2_taxAtHome 2 (some .int), Cond.methodLink RX2 93 yX2_incomeAtHome, Cond.instanceMethod yX2_incomeAtHome, Cond.selects RX2 yX2_incomeAtHome yX2_incomeAtHome, Cond.code yX2_incomeAtHome cX2_incomeAtHome 4 (some .int), Cond.methodLink RX2 89 yX2_partAbroad]
def wsX3_settlement_r5 : List Cond := [Cond.instanceMethod yX2_partAbroad, Cond.selects RX2 yX2_partAbroad yX2_partAbroad, Cond.code yX2_partAbroad cX2_partAbroad 4 (some .int), Cond.methodLink RX2 41 Lib.Math.min.name, Cond.methodLink RX2 55 Lib.Math.max.name]
def wsX3_settlement : List Cond := .code yX3_settlement cX3_settlement 2 (some .int) :: ((wsX3_settlement_r1 ++ (wsX3_settlement_r2 ++ (wsX3_settlement_r3 ++ (wsX3_settlement_r4 ++ wsX3_settlement_r5)))) ++ wsX30 ++ wsJx4a65c0 ++ wsX20 ++ wsX00 ++ wsX10 ++ (vx_atS RX3 118 "java/lang/IndexOutOfBoundsException" ["java/lang/RuntimeException", "java/lang/Exception"]).filter goodWord)
def wsX3_cost_r1 : List Cond := [Cond.methodLink RX3 77 yX3_personAt, Cond.instanceMethod yX3_personAt, Cond.selects RX3 yX3_personAt yX3_personAt, Cond.initialized RX3, Cond.code yX3_personAt cX3_personAt 2 (some (.object "TaxEqualiser$Person")), Cond.classLink RX3 114 "java/lang/IndexOutOfBoundsException", Cond.initialized "java/lang/IndexOutOfBoundsException", Cond.fieldLink RX3 16 "TaxEqualiser" "staff" "Ljava/util/List;", Cond.classLink RX3 72 "TaxEqualiser$Person", Cond.methodLink RX3 63 ⟨"java/util/List", "size", "()I"⟩, Cond.selects RJx4a65c ⟨"java/util/List", "size", "()I"⟩ yJx4a65c_size_8abf5, Cond.instanceMethod yJx4a65c_size_8abf5, Cond.initialized RJx4a65c, Cond.code yJx4a65c_size_8abf5 cJx4a65c_size_8abf5 1 (some .int), Cond.fieldLink RJx4a65c 48 "java/util/ArrayList" "size" "I", Cond.methodLink RX3 119 ⟨"java/util/List", "get", "(I)Ljava/lang/Object;"⟩, Cond.selects RJx4a65c ⟨"java/util/List", "get", "(I)Ljava/lang/Object;"⟩ yJx4a65c_get_915e3, Cond.instanceMethod yJx4a65c_get_915e3, Cond.code yJx4a65c_get_915e3 cJx4a65c_get_915e3 2 (some (.object "java/lang/Object")), Cond.methodLink RJx4a65c 118 yJ15_checkIndex_7cf53, Cond.static yJ15_checkIndex_7cf53, Cond.initialized RJ15, Cond.code yJ15_checkIndex_7cf53 cJ15_checkIndex_7cf53 2 (some .int), Cond.methodLink RJ15 105 yJ3_checkIndex_8e157]
def wsX3_cost_r2 : List Cond := [Cond.static yJ3_checkIndex_8e157, Cond.initialized RJ3, Cond.code yJ3_checkIndex_8e157 cJ3_checkIndex_8e157 3 (some .int), Cond.methodLink RJx4a65c 123 yJx4a65c_elementData_915e3, Cond.instanceMethod yJx4a65c_elementData_915e3, Cond.selects RJx4a65c yJx4a65c_elementData_915e3 yJx4a65c_elementData_915e3, Cond.code yJx4a65c_elementData_915e3 cJx4a65c_elementData_915e3 2 (some (.object "java/lang/Object")), Cond.fieldLink RJx4a65c 9 "java/util/ArrayList" "elementData" "[Ljava/lang/Object;", Cond.methodLink RX3 155 yX2_costOfYear, Cond.instanceMethod yX2_costOfYear, Cond.selects RX2 yX2_costOfYear yX2_costOfYear, Cond.initialized RX2, Cond.code yX2_costOfYear cX2_costOfYear 1 (some .int), Cond.methodLink RX2 117 yX2_taxAtHost, Cond.instanceMethod yX2_taxAtHost, Cond.selects RX2 yX2_taxAtHost yX2_taxAtHost, Cond.code yX2_taxAtHost cX2_taxAtHost 1 (some .int), Cond.fieldLink RX2 35 "TaxEqualiser$Person" "host" "LTaxEqualiser$Land;", Cond.methodLink RX2 99 yX2_incomeAtHost, Cond.instanceMethod yX2_incomeAtHost, Cond.selects RX2 yX2_incomeAtHost yX2_incomeAtHost, Cond.code yX2_incomeAtHost cX2_incomeAtHost 3 (some .int), Cond.fieldLink RX2 38 "TaxEqualiser$Person" "pay" "I", Cond.fieldLink RX2 12 "TaxEqualiser$Person" "bonuses" "Ljava/util/List;"]
def wsX3_cost_r3 : List Cond := [Cond.classLink RX2 48 "TaxEqualiser$Bonus", Cond.methodLink RX2 77 yX2_monthsAbroad, Cond.instanceMethod yX2_monthsAbroad, Cond.selects RX2 yX2_monthsAbroad yX2_monthsAbroad, Cond.code yX2_monthsAbroad cX2_monthsAbroad 1 (some .int), Cond.fieldLink RX2 22 "TaxEqualiser$Person" "abroadTo" "I", Cond.fieldLink RX2 18 "TaxEqualiser$Person" "abroadFrom" "I", Cond.methodLink RX2 96 yX2_housingInYear, Cond.instanceMethod yX2_housingInYear, Cond.selects RX2 yX2_housingInYear yX2_housingInYear, Cond.code yX2_housingInYear cX2_housingInYear 1 (some .int), Cond.fieldLink RX2 25 "TaxEqualiser$Person" "rent" "I", Cond.methodLink RX2 83 yX2_ownShare, Cond.instanceMethod yX2_ownShare, Cond.selects RX2 yX2_ownShare yX2_ownShare, Cond.code yX2_ownShare cX2_ownShare 1 (some .int), Cond.fieldLink RX2 28 "TaxEqualiser$Person" "norm" "I", Cond.methodLink RX2 41 Lib.Math.min.name, Cond.static Lib.Math.min.name, Cond.initialized "java/lang/Math", Cond.code Lib.Math.min.name Lib.Math.min.code 2 (some .int), Cond.methodLink RX2 61 ⟨"java/util/List", "size", "()I"⟩, Cond.methodLink RX2 67 ⟨"java/util/List", "get", "(I)Ljava/lang/Object;"⟩, Cond.methodLink RX2 89 yX2_partAbroad]
def wsX3_cost_r4 : List Cond := [Cond.instanceMethod yX2_partAbroad, Cond.selects RX2 yX2_partAbroad yX2_partAbroad, Cond.code yX2_partAbroad cX2_partAbroad 4 (some .int), Cond.methodLink RX2 55 Lib.Math.max.name, Cond.static Lib.Math.max.name, Cond.code Lib.Math.max.name Lib.Math.max.code 2 (some .int), Cond.methodLink RX2 102 yX1_grossTaxOf, Cond.instanceMethod yX1_grossTaxOf, Cond.selects RX1 yX1_grossTaxOf yX1_grossTaxOf, Cond.initialized RX1, Cond.code yX1_grossTaxOf cX1_grossTaxOf 6 (some .int), Cond.methodLink RX1 39 yX1_mostGrossTax, Cond.static yX1_mostGrossTax, Cond.code yX1_mostGrossTax cX1_mostGrossTax 1 (some .int), Cond.methodLink RX1 43 yX1_taxOf, Cond.instanceMethod yX1_taxOf, Cond.selects RX1 yX1_taxOf yX1_taxOf, Cond.code yX1_taxOf cX1_taxOf 8 (some .int), Cond.fieldLink RX1 9 "TaxEqualiser$Land" "lower" "I", Cond.methodLink RX1 28 Lib.Math.min.name, Cond.fieldLink RX1 16 "TaxEqualiser$Land" "upper" "I", Cond.methodLink RX1 34 Lib.Math.max.name, Cond.fieldLink RX1 19 "TaxEqualiser$Land" "first" "I", Cond.fieldLink RX1 22 "TaxEqualiser$Land" "second" "I"]
def wsX3_cost_r5 : List Cond := [Cond.fieldLink RX1 25 "TaxEqualiser$Land" "third" "I", Cond.constantLong RX1 37 (100), Cond.methodLink RX2 105 yX2_heldInYear, Cond.instanceMethod yX2_heldInYear, Cond.selects RX2 yX2_heldInYear yX2_heldInYear, Cond.code yX2_heldInYear cX2_heldInYear 1 (some .int), Cond.methodLink RX2 80 yX2_heldEachMonth, Cond.instanceMethod yX2_heldEachMonth, Cond.selects RX2 yX2_heldEachMonth yX2_heldEachMonth, Cond.code yX2_heldEachMonth cX2_heldEachMonth 1 (some .int), Cond.fieldLink RX2 31 "TaxEqualiser$Person" "home" "LTaxEqualiser$Land;", Cond.methodLink RX2 71 yX1_taxOf, Cond.methodLink RX2 120 yX2_settlementOfYear, Cond.instanceMethod yX2_settlementOfYear, Cond.selects RX2 yX2_settlementOfYear yX2_settlementOfYear, Cond.code yX2_settlementOfYear cX2_settlementOfYear 1 (some .int), Cond.methodLink RX2 111 yX2_supposedTaxOfYear, Cond.instanceMethod yX2_supposedTaxOfYear, Cond.selects RX2 yX2_supposedTaxOfYear yX2_supposedTaxOfYear, Cond.code yX2_supposedTaxOfYear cX2_supposedTaxOfYear 1 (some .int), Cond.methodLink RX2 86 yX2_wholeIncome, Cond.instanceMethod yX2_wholeIncome, Cond.selects RX2 yX2_wholeIncome yX2_wholeIncome, Cond.code yX2_wholeIncome cX2_wholeIncome 3 (some .int)]
def wsX3_cost_r6 : List Cond := [Cond.methodLink RX2 114 yX2_borneInYear, Cond.instanceMethod yX2_borneInYear, Cond.selects RX2 yX2_borneInYear yX2_borneInYear, Cond.code yX2_borneInYear cX2_borneInYear 1 (some .int), Cond.methodLink RX2 108 yX2_taxAtHome, Cond.instanceMethod yX2_taxAtHome, Cond.selects RX2 yX2_taxAtHome yX2_taxAtHome, Cond.code yX2_taxAtHome cX2_taxAtHome 2 (some .int), Cond.methodLink RX2 93 yX2_incomeAtHome, Cond.instanceMethod yX2_incomeAtHome, Cond.selects RX2 yX2_incomeAtHome yX2_incomeAtHome, Cond.code yX2_incomeAtHome cX2_incomeAtHome 4 (some .int)]
def wsX3_cost : List Cond := .code yX3_cost cX3_cost 2 (some .int) :: ((wsX3_cost_r1 ++ (wsX3_cost_r2 ++ (wsX3_cost_r3 ++ (wsX3_cost_r4 ++ (wsX3_cost_r5 ++ wsX3_cost_r6))))) ++ wsX30 ++ wsJx4a65c0 ++ wsX20 ++ wsX00 ++ wsX10 ++ (vx_atS RX3 118 "java/lang/IndexOutOfBoundsException" ["java/lang/RuntimeException", "java/lang/Exception"]).filter goodWord)
def wsX3_dearest_r1 : List Cond := [Cond.fieldLink RX3 16 "TaxEqualiser" "staff" "Ljava/util/List;", Cond.classLink RX3 72 "TaxEqualiser$Person", Cond.methodLink RX3 63 ⟨"java/util/List", "size", "()I"⟩, Cond.selects RJx4a65c ⟨"java/util/List", "size", "()I"⟩ yJx4a65c_size_8abf5, Cond.instanceMethod yJx4a65c_size_8abf5, Cond.initialized RJx4a65c, Cond.code yJx4a65c_size_8abf5 cJx4a65c_size_8abf5 1 (some .int), Cond.fieldLink RJx4a65c 48 "java/util/ArrayList" "size" "I", Cond.methodLink RX3 119 ⟨"java/util/List", "get", "(I)Ljava/lang/Object;"⟩, Cond.selects RJx4a65c ⟨"java/util/List", "get", "(I)Ljava/lang/Object;"⟩ yJx4a65c_get_915e3, Cond.instanceMethod yJx4a65c_get_915e3, Cond.code yJx4a65c_get_915e3 cJx4a65c_get_915e3 2 (some (.object "java/lang/Object")), Cond.methodLink RJx4a65c 118 yJ15_checkIndex_7cf53, Cond.static yJ15_checkIndex_7cf53, Cond.initialized RJ15, Cond.code yJ15_checkIndex_7cf53 cJ15_checkIndex_7cf53 2 (some .int), Cond.methodLink RJ15 105 yJ3_checkIndex_8e157, Cond.static yJ3_checkIndex_8e157, Cond.initialized RJ3, Cond.code yJ3_checkIndex_8e157 cJ3_checkIndex_8e157 3 (some .int), Cond.methodLink RJx4a65c 123 yJx4a65c_elementData_915e3, Cond.instanceMethod yJx4a65c_elementData_915e3, Cond.selects RJx4a65c yJx4a65c_elementData_915e3 yJx4a65c_elementData_915e3, Cond.code yJx4a65c_elementData_915e3 cJx4a65c_elementData_915e3 2 (some (.object "java/lang/Object"))]
def wsX3_dearest_r2 : List Cond := [Cond.fieldLink RJx4a65c 9 "java/util/ArrayList" "elementData" "[Ljava/lang/Object;", Cond.methodLink RX3 155 yX2_costOfYear, Cond.instanceMethod yX2_costOfYear, Cond.selects RX2 yX2_costOfYear yX2_costOfYear, Cond.initialized RX2, Cond.code yX2_costOfYear cX2_costOfYear 1 (some .int), Cond.methodLink RX2 117 yX2_taxAtHost, Cond.instanceMethod yX2_taxAtHost, Cond.selects RX2 yX2_taxAtHost yX2_taxAtHost, Cond.code yX2_taxAtHost cX2_taxAtHost 1 (some .int), Cond.fieldLink RX2 35 "TaxEqualiser$Person" "host" "LTaxEqualiser$Land;", Cond.methodLink RX2 99 yX2_incomeAtHost, Cond.instanceMethod yX2_incomeAtHost, Cond.selects RX2 yX2_incomeAtHost yX2_incomeAtHost, Cond.code yX2_incomeAtHost cX2_incomeAtHost 3 (some .int), Cond.fieldLink RX2 38 "TaxEqualiser$Person" "pay" "I", Cond.fieldLink RX2 12 "TaxEqualiser$Person" "bonuses" "Ljava/util/List;", Cond.classLink RX2 48 "TaxEqualiser$Bonus", Cond.methodLink RX2 77 yX2_monthsAbroad, Cond.instanceMethod yX2_monthsAbroad, Cond.selects RX2 yX2_monthsAbroad yX2_monthsAbroad, Cond.code yX2_monthsAbroad cX2_monthsAbroad 1 (some .int), Cond.fieldLink RX2 22 "TaxEqualiser$Person" "abroadTo" "I", Cond.fieldLink RX2 18 "TaxEqualiser$Person" "abroadFrom" "I"]
def wsX3_dearest_r3 : List Cond := [Cond.methodLink RX2 96 yX2_housingInYear, Cond.instanceMethod yX2_housingInYear, Cond.selects RX2 yX2_housingInYear yX2_housingInYear, Cond.code yX2_housingInYear cX2_housingInYear 1 (some .int), Cond.fieldLink RX2 25 "TaxEqualiser$Person" "rent" "I", Cond.methodLink RX2 83 yX2_ownShare, Cond.instanceMethod yX2_ownShare, Cond.selects RX2 yX2_ownShare yX2_ownShare, Cond.code yX2_ownShare cX2_ownShare 1 (some .int), Cond.fieldLink RX2 28 "TaxEqualiser$Person" "norm" "I", Cond.methodLink RX2 41 Lib.Math.min.name, Cond.static Lib.Math.min.name, Cond.initialized "java/lang/Math", Cond.code Lib.Math.min.name Lib.Math.min.code 2 (some .int), Cond.methodLink RX2 61 ⟨"java/util/List", "size", "()I"⟩, Cond.methodLink RX2 67 ⟨"java/util/List", "get", "(I)Ljava/lang/Object;"⟩, Cond.methodLink RX2 89 yX2_partAbroad, Cond.instanceMethod yX2_partAbroad, Cond.selects RX2 yX2_partAbroad yX2_partAbroad, Cond.code yX2_partAbroad cX2_partAbroad 4 (some .int), Cond.methodLink RX2 55 Lib.Math.max.name, Cond.static Lib.Math.max.name, Cond.code Lib.Math.max.name Lib.Math.max.code 2 (some .int), Cond.methodLink RX2 102 yX1_grossTaxOf]
def wsX3_dearest_r4 : List Cond := [Cond.instanceMethod yX1_grossTaxOf, Cond.selects RX1 yX1_grossTaxOf yX1_grossTaxOf, Cond.initialized RX1, Cond.code yX1_grossTaxOf cX1_grossTaxOf 6 (some .int), Cond.methodLink RX1 39 yX1_mostGrossTax, Cond.static yX1_mostGrossTax, Cond.code yX1_mostGrossTax cX1_mostGrossTax 1 (some .int), Cond.methodLink RX1 43 yX1_taxOf, Cond.instanceMethod yX1_taxOf, Cond.selects RX1 yX1_taxOf yX1_taxOf, Cond.code yX1_taxOf cX1_taxOf 8 (some .int), Cond.fieldLink RX1 9 "TaxEqualiser$Land" "lower" "I", Cond.methodLink RX1 28 Lib.Math.min.name, Cond.fieldLink RX1 16 "TaxEqualiser$Land" "upper" "I", Cond.methodLink RX1 34 Lib.Math.max.name, Cond.fieldLink RX1 19 "TaxEqualiser$Land" "first" "I", Cond.fieldLink RX1 22 "TaxEqualiser$Land" "second" "I", Cond.fieldLink RX1 25 "TaxEqualiser$Land" "third" "I", Cond.constantLong RX1 37 (100), Cond.methodLink RX2 105 yX2_heldInYear, Cond.instanceMethod yX2_heldInYear, Cond.selects RX2 yX2_heldInYear yX2_heldInYear, Cond.code yX2_heldInYear cX2_heldInYear 1 (some .int), Cond.methodLink RX2 80 yX2_heldEachMonth]
def wsX3_dearest_r5 : List Cond := [Cond.instanceMethod yX2_heldEachMonth, Cond.selects RX2 yX2_heldEachMonth yX2_heldEachMonth, Cond.code yX2_heldEachMonth cX2_heldEachMonth 1 (some .int), Cond.fieldLink RX2 31 "TaxEqualiser$Person" "home" "LTaxEqualiser$Land;", Cond.methodLink RX2 71 yX1_taxOf, Cond.methodLink RX2 120 yX2_settlementOfYear, Cond.instanceMethod yX2_settlementOfYear, Cond.selects RX2 yX2_settlementOfYear yX2_settlementOfYear, Cond.code yX2_settlementOfYear cX2_settlementOfYear 1 (some .int), Cond.methodLink RX2 111 yX2_supposedTaxOfYear, Cond.instanceMethod yX2_supposedTaxOfYear, Cond.selects RX2 yX2_supposedTaxOfYear yX2_supposedTaxOfYear, Cond.code yX2_supposedTaxOfYear cX2_supposedTaxOfYear 1 (some .int), Cond.methodLink RX2 86 yX2_wholeIncome, Cond.instanceMethod yX2_wholeIncome, Cond.selects RX2 yX2_wholeIncome yX2_wholeIncome, Cond.code yX2_wholeIncome cX2_wholeIncome 3 (some .int), Cond.methodLink RX2 114 yX2_borneInYear, Cond.instanceMethod yX2_borneInYear, Cond.selects RX2 yX2_borneInYear yX2_borneInYear, Cond.code yX2_borneInYear cX2_borneInYear 1 (some .int), Cond.methodLink RX2 108 yX2_taxAtHome, Cond.instanceMethod yX2_taxAtHome, Cond.selects RX2 yX2_taxAtHome yX2_taxAtHome]
def wsX3_dearest_r6 : List Cond := [Cond.code yX2_taxAtHome cX2_taxAtHome 2 (some .int), Cond.methodLink RX2 93 yX2_incomeAtHome, Cond.instanceMethod yX2_incomeAtHome, Cond.selects RX2 yX2_incomeAtHome yX2_incomeAtHome, Cond.code yX2_incomeAtHome cX2_incomeAtHome 4 (some .int)]
def wsX3_dearest : List Cond := .code yX3_dearest cX3_dearest 5 (some .int) :: ((wsX3_dearest_r1 ++ (wsX3_dearest_r2 ++ (wsX3_dearest_r3 ++ (wsX3_dearest_r4 ++ (wsX3_dearest_r5 ++ wsX3_dearest_r6))))) ++ wsX30 ++ wsJx4a65c0 ++ wsX20 ++ wsX00 ++ wsX10)
def wsX4_init : List Cond := .code yX4_init cX4_init 2 none :: ([.methodLink RX4 1 objectInit, .instanceMethod objectInit, .code objectInit ⟨#[0xb1]⟩ 1 none, .arrayClass .int, .fieldLink RX4 7 "TaxEqualiserModel" "lower" "[I", .fieldLink RX4 13 "TaxEqualiserModel" "upper" "[I", .fieldLink RX4 16 "TaxEqualiserModel" "rate" "[I", .fieldLink RX4 19 "TaxEqualiserModel" "home" "[I", .fieldLink RX4 22 "TaxEqualiserModel" "host" "[I", .fieldLink RX4 25 "TaxEqualiserModel" "pay" "[I", .fieldLink RX4 28 "TaxEqualiserModel" "out" "[I", .fieldLink RX4 31 "TaxEqualiserModel" "back" "[I", .fieldLink RX4 34 "TaxEqualiserModel" "rent" "[I", .fieldLink RX4 37 "TaxEqualiserModel" "norm" "[I", .fieldLink RX4 40 "TaxEqualiserModel" "bonuses" "[I", .fieldLink RX4 43 "TaxEqualiserModel" "coins" "[I", .fieldLink RX4 46 "TaxEqualiserModel" "first" "[I", .fieldLink RX4 49 "TaxEqualiserModel" "behind" "[I", .constant RX4 52 (40000)] ++ wsX40)
def wsX4_thrown : List Cond := .code yX4_thrown cX4_thrown 1 (some .int) :: ([.fieldLink RX4 53 "TaxEqualiserModel" "thrown" "I"] ++ wsX40)
def wsX4_fails : List Cond := .code yX4_fails cX4_fails 2 (some .int) :: ([.fieldLink RX4 53 "TaxEqualiserModel" "thrown" "I"] ++ wsX40)
def wsX4_in : List Cond := .code yX4_in cX4_in 3 (some .boolean) :: ([])
def wsX4_isLand : List Cond := .code yX4_isLand cX4_isLand 1 (some .boolean) :: ([.methodLink RX4 57 yX4_in, .static yX4_in, .initialized RX4, .code yX4_in cX4_in 3 (some .boolean)])
def wsX4_isAsked : List Cond := .code yX4_isAsked cX4_isAsked 2 (some .boolean) :: ([.fieldLink RX4 61 "TaxEqualiserModel" "people" "I", .fieldLink RX4 53 "TaxEqualiserModel" "thrown" "I", .methodLink RX4 57 yX4_in, .static yX4_in, .initialized RX4, .code yX4_in cX4_in 3 (some .boolean)] ++ wsX40)
def wsX4_taxOf : List Cond := .code yX4_taxOf cX4_taxOf 10 (some .long) :: ([.fieldLink RX4 7 "TaxEqualiserModel" "lower" "[I", .fieldLink RX4 13 "TaxEqualiserModel" "upper" "[I", .fieldLink RX4 16 "TaxEqualiserModel" "rate" "[I", .constantLong RX4 64 (100)] ++ wsX40)
def wsX4_gross : List Cond := .code yX4_gross cX4_gross 8 (some .int) :: ([.constant RX4 66 (40000000), .methodLink RX4 67 yX4_taxOf, .instanceMethod yX4_taxOf, .selects RX4 yX4_taxOf yX4_taxOf, .initialized RX4, .code yX4_taxOf cX4_taxOf 10 (some .long), .fieldLink RX4 7 "TaxEqualiserModel" "lower" "[I", .fieldLink RX4 13 "TaxEqualiserModel" "upper" "[I", .fieldLink RX4 16 "TaxEqualiserModel" "rate" "[I", .constantLong RX4 64 (100)] ++ wsX40)
def wsX4_setLimits : List Cond := .code yX4_setLimits cX4_setLimits 4 none :: ([.constant RX4 75 (1000000), .fieldLink RX4 53 "TaxEqualiserModel" "thrown" "I", .fieldLink RX4 7 "TaxEqualiserModel" "lower" "[I", .fieldLink RX4 13 "TaxEqualiserModel" "upper" "[I", .methodLink RX4 71 yX4_isLand, .static yX4_isLand, .initialized RX4, .code yX4_isLand cX4_isLand 1 (some .boolean), .methodLink RX4 57 yX4_in, .static yX4_in, .code yX4_in cX4_in 3 (some .boolean)] ++ wsX40)
def wsX4_setRates : List Cond := .code yX4_setRates cX4_setRates 5 none :: ([.fieldLink RX4 53 "TaxEqualiserModel" "thrown" "I", .fieldLink RX4 16 "TaxEqualiserModel" "rate" "[I", .methodLink RX4 71 yX4_isLand, .static yX4_isLand, .initialized RX4, .code yX4_isLand cX4_isLand 1 (some .boolean), .methodLink RX4 57 yX4_in, .static yX4_in, .code yX4_in cX4_in 3 (some .boolean)] ++ wsX40)
def wsX4_tax : List Cond := .code yX4_tax cX4_tax 3 (some .int) :: ([.fieldLink RX4 53 "TaxEqualiserModel" "thrown" "I", .constant RX4 76 (10000000), .methodLink RX4 71 yX4_isLand, .static yX4_isLand, .initialized RX4, .code yX4_isLand cX4_isLand 1 (some .boolean), .methodLink RX4 57 yX4_in, .static yX4_in, .code yX4_in cX4_in 3 (some .boolean), .methodLink RX4 67 yX4_taxOf, .instanceMethod yX4_taxOf, .selects RX4 yX4_taxOf yX4_taxOf, .code yX4_taxOf cX4_taxOf 10 (some .long), .fieldLink RX4 7 "TaxEqualiserModel" "lower" "[I", .fieldLink RX4 13 "TaxEqualiserModel" "upper" "[I", .fieldLink RX4 16 "TaxEqualiserModel" "rate" "[I", .constantLong RX4 64 (100), .methodLink RX4 77 yX4_fails, .instanceMethod yX4_fails, .selects RX4 yX4_fails yX4_fails, .code yX4_fails cX4_fails 2 (some .int)] ++ wsX40)
def wsX4_grossTax_r1 : List Cond := [Cond.fieldLink RX4 53 "TaxEqualiserModel" "thrown" "I", Cond.constant RX4 76 (10000000), Cond.methodLink RX4 71 yX4_isLand, Cond.static yX4_isLand, Cond.initialized RX4, Cond.code yX4_isLand cX4_isLand 1 (some .boolean), Cond.methodLink RX4 57 yX4_in, Cond.static yX4_in, Cond.code yX4_in cX4_in 3 (some .boolean), Cond.methodLink RX4 81 yX4_gross, Cond.instanceMethod yX4_gross, Cond.selects RX4 yX4_gross yX4_gross, Cond.code yX4_gross cX4_gross 8 (some .int), Cond.constant RX4 66 (40000000), Cond.methodLink RX4 67 yX4_taxOf, Cond.instanceMethod yX4_taxOf, Cond.selects RX4 yX4_taxOf yX4_taxOf, Cond.code yX4_taxOf cX4_taxOf 10 (some .long), Cond.fieldLink RX4 7 "TaxEqualiserModel" "lower" "[I", Cond.fieldLink RX4 13 "TaxEqualiserModel" "upper" "[I", Cond.fieldLink RX4 16 "TaxEqualiserModel" "rate" "[I", Cond.constantLong RX4 64 (100), Cond.methodLink RX4 77 yX4_fails, Cond.instanceMethod yX4_fails]
def wsX4_grossTax_r2 : List Cond := [Cond.selects RX4 yX4_fails yX4_fails, Cond.code yX4_fails cX4_fails 2 (some .int)]
def wsX4_grossTax : List Cond := .code yX4_grossTax cX4_grossTax 3 (some .int) :: ((wsX4_grossTax_r1 ++ wsX4_grossTax_r2) ++ wsX40)
def wsX4_grossTaxByTrying_r1 : List Cond := [Cond.fieldLink RX4 53 "TaxEqualiserModel" "thrown" "I", Cond.methodLink RX4 71 yX4_isLand, Cond.static yX4_isLand, Cond.initialized RX4, Cond.code yX4_isLand cX4_isLand 1 (some .boolean), Cond.methodLink RX4 57 yX4_in, Cond.static yX4_in, Cond.code yX4_in cX4_in 3 (some .boolean), Cond.methodLink RX4 81 yX4_gross, Cond.instanceMethod yX4_gross, Cond.selects RX4 yX4_gross yX4_gross, Cond.code yX4_gross cX4_gross 8 (some .int), Cond.constant RX4 66 (40000000), Cond.methodLink RX4 67 yX4_taxOf, Cond.instanceMethod yX4_taxOf, Cond.selects RX4 yX4_taxOf yX4_taxOf, Cond.code yX4_taxOf cX4_taxOf 10 (some .long), Cond.fieldLink RX4 7 "TaxEqualiserModel" "lower" "[I", Cond.fieldLink RX4 13 "TaxEqualiserModel" "upper" "[I", Cond.fieldLink RX4 16 "TaxEqualiserModel" "rate" "[I", Cond.constantLong RX4 64 (100), Cond.methodLink RX4 77 yX4_fails, Cond.instanceMethod yX4_fails, Cond.selects RX4 yX4_fails yX4_fails]
def wsX4_grossTaxByTrying_r2 : List Cond := [Cond.code yX4_fails cX4_fails 2 (some .int)]
def wsX4_grossTaxByTrying : List Cond := .code yX4_grossTaxByTrying cX4_grossTaxByTrying 3 (some .int) :: ((wsX4_grossTaxByTrying_r1 ++ wsX4_grossTaxByTrying_r2) ++ wsX40)
def wsX4_add : List Cond := .code yX4_add cX4_add 4 (some .int) :: ([.fieldLink RX4 53 "TaxEqualiserModel" "thrown" "I", .constant RX4 85 (100000), .fieldLink RX4 61 "TaxEqualiserModel" "people" "I", .fieldLink RX4 19 "TaxEqualiserModel" "home" "[I", .fieldLink RX4 22 "TaxEqualiserModel" "host" "[I", .fieldLink RX4 25 "TaxEqualiserModel" "pay" "[I", .methodLink RX4 71 yX4_isLand, .static yX4_isLand, .initialized RX4, .code yX4_isLand cX4_isLand 1 (some .boolean), .methodLink RX4 57 yX4_in, .static yX4_in, .code yX4_in cX4_in 3 (some .boolean), .methodLink RX4 77 yX4_fails, .instanceMethod yX4_fails, .selects RX4 yX4_fails yX4_fails, .code yX4_fails cX4_fails 2 (some .int)] ++ wsX40)
def wsX4_setAbroad : List Cond := .code yX4_setAbroad cX4_setAbroad 5 (some .int) :: ([.fieldLink RX4 31 "TaxEqualiserModel" "back" "[I", .fieldLink RX4 28 "TaxEqualiserModel" "out" "[I", .methodLink RX4 86 yX4_isAsked, .instanceMethod yX4_isAsked, .selects RX4 yX4_isAsked yX4_isAsked, .initialized RX4, .code yX4_isAsked cX4_isAsked 2 (some .boolean), .fieldLink RX4 61 "TaxEqualiserModel" "people" "I", .fieldLink RX4 53 "TaxEqualiserModel" "thrown" "I", .methodLink RX4 57 yX4_in, .static yX4_in, .code yX4_in cX4_in 3 (some .boolean), .methodLink RX4 77 yX4_fails, .instanceMethod yX4_fails, .selects RX4 yX4_fails yX4_fails, .code yX4_fails cX4_fails 2 (some .int)] ++ wsX40)
def wsX4_setPay : List Cond := .code yX4_setPay cX4_setPay 4 (some .int) :: ([.constant RX4 85 (100000), .fieldLink RX4 25 "TaxEqualiserModel" "pay" "[I", .methodLink RX4 86 yX4_isAsked, .instanceMethod yX4_isAsked, .selects RX4 yX4_isAsked yX4_isAsked, .initialized RX4, .code yX4_isAsked cX4_isAsked 2 (some .boolean), .fieldLink RX4 61 "TaxEqualiserModel" "people" "I", .fieldLink RX4 53 "TaxEqualiserModel" "thrown" "I", .methodLink RX4 57 yX4_in, .static yX4_in, .code yX4_in cX4_in 3 (some .boolean), .methodLink RX4 77 yX4_fails, .instanceMethod yX4_fails, .selects RX4 yX4_fails yX4_fails, .code yX4_fails cX4_fails 2 (some .int)] ++ wsX40)
def wsX4_own : List Cond := .code yX4_own cX4_own 3 (some .int) :: ([.fieldLink RX4 25 "TaxEqualiserModel" "pay" "[I", .fieldLink RX4 37 "TaxEqualiserModel" "norm" "[I", .fieldLink RX4 34 "TaxEqualiserModel" "rent" "[I"] ++ wsX40)
def wsX4_setHousing : List Cond := .code yX4_setHousing cX4_setHousing 4 (some .int) :: ([.constant RX4 89 (50000), .fieldLink RX4 34 "TaxEqualiserModel" "rent" "[I", .fieldLink RX4 37 "TaxEqualiserModel" "norm" "[I", .methodLink RX4 86 yX4_isAsked, .instanceMethod yX4_isAsked, .selects RX4 yX4_isAsked yX4_isAsked, .initialized RX4, .code yX4_isAsked cX4_isAsked 2 (some .boolean), .fieldLink RX4 61 "TaxEqualiserModel" "people" "I", .fieldLink RX4 53 "TaxEqualiserModel" "thrown" "I", .methodLink RX4 57 yX4_in, .static yX4_in, .code yX4_in cX4_in 3 (some .boolean), .methodLink RX4 77 yX4_fails, .instanceMethod yX4_fails, .selects RX4 yX4_fails yX4_fails, .code yX4_fails cX4_fails 2 (some .int), .methodLink RX4 90 yX4_own, .instanceMethod yX4_own, .selects RX4 yX4_own yX4_own, .code yX4_own cX4_own 3 (some .int), .fieldLink RX4 25 "TaxEqualiserModel" "pay" "[I"] ++ wsX40)
def wsX4_addBonus : List Cond := .code yX4_addBonus cX4_addBonus 6 (some .int) :: ([.constant RX4 93 (500000), .fieldLink RX4 40 "TaxEqualiserModel" "bonuses" "[I", .fieldLink RX4 43 "TaxEqualiserModel" "coins" "[I", .fieldLink RX4 46 "TaxEqualiserModel" "first" "[I", .fieldLink RX4 49 "TaxEqualiserModel" "behind" "[I", .methodLink RX4 86 yX4_isAsked, .instanceMethod yX4_isAsked, .selects RX4 yX4_isAsked yX4_isAsked, .initialized RX4, .code yX4_isAsked cX4_isAsked 2 (some .boolean), .fieldLink RX4 61 "TaxEqualiserModel" "people" "I", .fieldLink RX4 53 "TaxEqualiserModel" "thrown" "I", .methodLink RX4 57 yX4_in, .static yX4_in, .code yX4_in cX4_in 3 (some .boolean), .methodLink RX4 77 yX4_fails, .instanceMethod yX4_fails, .selects RX4 yX4_fails yX4_fails, .code yX4_fails cX4_fails 2 (some .int)] ++ wsX40)
def wsX4_people : List Cond := .code yX4_people cX4_people 1 (some .int) :: ([.fieldLink RX4 53 "TaxEqualiserModel" "thrown" "I", .fieldLink RX4 61 "TaxEqualiserModel" "people" "I"] ++ wsX40)
def wsX4_part : List Cond := .code yX4_part cX4_part 6 (some .int) :: ([.fieldLink RX4 46 "TaxEqualiserModel" "first" "[I", .fieldLink RX4 49 "TaxEqualiserModel" "behind" "[I", .fieldLink RX4 28 "TaxEqualiserModel" "out" "[I", .fieldLink RX4 31 "TaxEqualiserModel" "back" "[I", .fieldLink RX4 43 "TaxEqualiserModel" "coins" "[I"] ++ wsX40)
def wsX4_abroadPart : List Cond := .code yX4_abroadPart cX4_abroadPart 3 (some .int) :: ([.fieldLink RX4 53 "TaxEqualiserModel" "thrown" "I", .fieldLink RX4 61 "TaxEqualiserModel" "people" "I", .fieldLink RX4 40 "TaxEqualiserModel" "bonuses" "[I", .methodLink RX4 57 yX4_in, .static yX4_in, .initialized RX4, .code yX4_in cX4_in 3 (some .boolean), .methodLink RX4 94 yX4_part, .instanceMethod yX4_part, .selects RX4 yX4_part yX4_part, .code yX4_part cX4_part 6 (some .int), .fieldLink RX4 46 "TaxEqualiserModel" "first" "[I", .fieldLink RX4 49 "TaxEqualiserModel" "behind" "[I", .fieldLink RX4 28 "TaxEqualiserModel" "out" "[I", .fieldLink RX4 31 "TaxEqualiserModel" "back" "[I", .fieldLink RX4 43 "TaxEqualiserModel" "coins" "[I", .methodLink RX4 77 yX4_fails, .instanceMethod yX4_fails, .selects RX4 yX4_fails yX4_fails, .code yX4_fails cX4_fails 2 (some .int)] ++ wsX40)
def wsX4_parts : List Cond := .code yX4_parts cX4_parts 4 (some .int) :: ([.fieldLink RX4 40 "TaxEqualiserModel" "bonuses" "[I", .methodLink RX4 94 yX4_part, .instanceMethod yX4_part, .selects RX4 yX4_part yX4_part, .initialized RX4, .code yX4_part cX4_part 6 (some .int), .fieldLink RX4 46 "TaxEqualiserModel" "first" "[I", .fieldLink RX4 49 "TaxEqualiserModel" "behind" "[I", .fieldLink RX4 28 "TaxEqualiserModel" "out" "[I", .fieldLink RX4 31 "TaxEqualiserModel" "back" "[I", .fieldLink RX4 43 "TaxEqualiserModel" "coins" "[I"] ++ wsX40)
def wsX4_whole : List Cond := .code yX4_whole cX4_whole 4 (some .int) :: ([.fieldLink RX4 25 "TaxEqualiserModel" "pay" "[I", .fieldLink RX4 40 "TaxEqualiserModel" "bonuses" "[I", .fieldLink RX4 43 "TaxEqualiserModel" "coins" "[I"] ++ wsX40)
def wsX4_months : List Cond := .code yX4_months cX4_months 2 (some .int) :: ([.fieldLink RX4 31 "TaxEqualiserModel" "back" "[I", .fieldLink RX4 28 "TaxEqualiserModel" "out" "[I"] ++ wsX40)
def wsX4_heldOf : List Cond := .code yX4_heldOf cX4_heldOf 2 (some .int) :: ([.fieldLink RX4 19 "TaxEqualiserModel" "home" "[I", .fieldLink RX4 25 "TaxEqualiserModel" "pay" "[I", .constantLong RX4 98 (12), .methodLink RX4 67 yX4_taxOf, .instanceMethod yX4_taxOf, .selects RX4 yX4_taxOf yX4_taxOf, .initialized RX4, .code yX4_taxOf cX4_taxOf 10 (some .long), .fieldLink RX4 7 "TaxEqualiserModel" "lower" "[I", .fieldLink RX4 13 "TaxEqualiserModel" "upper" "[I", .fieldLink RX4 16 "TaxEqualiserModel" "rate" "[I", .constantLong RX4 64 (100)] ++ wsX40)
def wsX4_supposed : List Cond := .code yX4_supposed cX4_supposed 2 (some .int) :: ([.fieldLink RX4 19 "TaxEqualiserModel" "home" "[I", .methodLink RX4 100 yX4_whole, .instanceMethod yX4_whole, .selects RX4 yX4_whole yX4_whole, .initialized RX4, .code yX4_whole cX4_whole 4 (some .int), .fieldLink RX4 25 "TaxEqualiserModel" "pay" "[I", .fieldLink RX4 40 "TaxEqualiserModel" "bonuses" "[I", .fieldLink RX4 43 "TaxEqualiserModel" "coins" "[I", .methodLink RX4 67 yX4_taxOf, .instanceMethod yX4_taxOf, .selects RX4 yX4_taxOf yX4_taxOf, .code yX4_taxOf cX4_taxOf 10 (some .long), .fieldLink RX4 7 "TaxEqualiserModel" "lower" "[I", .fieldLink RX4 13 "TaxEqualiserModel" "upper" "[I", .fieldLink RX4 16 "TaxEqualiserModel" "rate" "[I", .constantLong RX4 64 (100)] ++ wsX40)
def wsX4_atHome : List Cond := .code yX4_atHome cX4_atHome 2 (some .int) :: ([.fieldLink RX4 25 "TaxEqualiserModel" "pay" "[I", .methodLink RX4 100 yX4_whole, .instanceMethod yX4_whole, .selects RX4 yX4_whole yX4_whole, .initialized RX4, .code yX4_whole cX4_whole 4 (some .int), .fieldLink RX4 40 "TaxEqualiserModel" "bonuses" "[I", .fieldLink RX4 43 "TaxEqualiserModel" "coins" "[I", .methodLink RX4 103 yX4_months, .instanceMethod yX4_months, .selects RX4 yX4_months yX4_months, .code yX4_months cX4_months 2 (some .int), .fieldLink RX4 31 "TaxEqualiserModel" "back" "[I", .fieldLink RX4 28 "TaxEqualiserModel" "out" "[I", .methodLink RX4 106 yX4_parts, .instanceMethod yX4_parts, .selects RX4 yX4_parts yX4_parts, .code yX4_parts cX4_parts 4 (some .int), .methodLink RX4 94 yX4_part, .instanceMethod yX4_part, .selects RX4 yX4_part yX4_part, .code yX4_part cX4_part 6 (some .int), .fieldLink RX4 46 "TaxEqualiserModel" "first" "[I", .fieldLink RX4 49 "TaxEqualiserModel" "behind" "[I"] ++ wsX40)
def wsX4_taxAtHome_r1 : List Cond := [Cond.fieldLink RX4 19 "TaxEqualiserModel" "home" "[I", Cond.methodLink RX4 100 yX4_whole, Cond.instanceMethod yX4_whole, Cond.selects RX4 yX4_whole yX4_whole, Cond.initialized RX4, Cond.code yX4_whole cX4_whole 4 (some .int), Cond.fieldLink RX4 25 "TaxEqualiserModel" "pay" "[I", Cond.fieldLink RX4 40 "TaxEqualiserModel" "bonuses" "[I", Cond.fieldLink RX4 43 "TaxEqualiserModel" "coins" "[I", Cond.methodLink RX4 67 yX4_taxOf, Cond.instanceMethod yX4_taxOf, Cond.selects RX4 yX4_taxOf yX4_taxOf, Cond.code yX4_taxOf cX4_taxOf 10 (some .long), Cond.fieldLink RX4 7 "TaxEqualiserModel" "lower" "[I", Cond.fieldLink RX4 13 "TaxEqualiserModel" "upper" "[I", Cond.fieldLink RX4 16 "TaxEqualiserModel" "rate" "[I", Cond.constantLong RX4 64 (100), Cond.methodLink RX4 109 yX4_atHome, Cond.instanceMethod yX4_atHome, Cond.selects RX4 yX4_atHome yX4_atHome, Cond.code yX4_atHome cX4_atHome 2 (some .int), Cond.methodLink RX4 103 yX4_months, Cond.instanceMethod yX4_months, Cond.selects RX4 yX4_months yX4_months]
def wsX4_taxAtHome_r2 : List Cond := [Cond.code yX4_months cX4_months 2 (some .int), Cond.fieldLink RX4 31 "TaxEqualiserModel" "back" "[I", Cond.fieldLink RX4 28 "TaxEqualiserModel" "out" "[I", Cond.methodLink RX4 106 yX4_parts, Cond.instanceMethod yX4_parts, Cond.selects RX4 yX4_parts yX4_parts, Cond.code yX4_parts cX4_parts 4 (some .int), Cond.methodLink RX4 94 yX4_part, Cond.instanceMethod yX4_part, Cond.selects RX4 yX4_part yX4_part, Cond.code yX4_part cX4_part 6 (some .int), Cond.fieldLink RX4 46 "TaxEqualiserModel" "first" "[I", Cond.fieldLink RX4 49 "TaxEqualiserModel" "behind" "[I"]
def wsX4_taxAtHome : List Cond := .code yX4_taxAtHome cX4_taxAtHome 3 (some .int) :: ((wsX4_taxAtHome_r1 ++ wsX4_taxAtHome_r2) ++ wsX40)
def wsX4_abroad_r1 : List Cond := [Cond.fieldLink RX4 25 "TaxEqualiserModel" "pay" "[I", Cond.fieldLink RX4 34 "TaxEqualiserModel" "rent" "[I", Cond.methodLink RX4 103 yX4_months, Cond.instanceMethod yX4_months, Cond.selects RX4 yX4_months yX4_months, Cond.initialized RX4, Cond.code yX4_months cX4_months 2 (some .int), Cond.fieldLink RX4 31 "TaxEqualiserModel" "back" "[I", Cond.fieldLink RX4 28 "TaxEqualiserModel" "out" "[I", Cond.methodLink RX4 106 yX4_parts, Cond.instanceMethod yX4_parts, Cond.selects RX4 yX4_parts yX4_parts, Cond.code yX4_parts cX4_parts 4 (some .int), Cond.fieldLink RX4 40 "TaxEqualiserModel" "bonuses" "[I", Cond.methodLink RX4 94 yX4_part, Cond.instanceMethod yX4_part, Cond.selects RX4 yX4_part yX4_part, Cond.code yX4_part cX4_part 6 (some .int), Cond.fieldLink RX4 46 "TaxEqualiserModel" "first" "[I", Cond.fieldLink RX4 49 "TaxEqualiserModel" "behind" "[I", Cond.fieldLink RX4 43 "TaxEqualiserModel" "coins" "[I", Cond.methodLink RX4 90 yX4_own, Cond.instanceMethod yX4_own, Cond.selects RX4 yX4_own yX4_own]
def wsX4_abroad_r2 : List Cond := [Cond.code yX4_own cX4_own 3 (some .int), Cond.fieldLink RX4 37 "TaxEqualiserModel" "norm" "[I"]
def wsX4_abroad : List Cond := .code yX4_abroad cX4_abroad 2 (some .int) :: ((wsX4_abroad_r1 ++ wsX4_abroad_r2) ++ wsX40)
def wsX4_bears_r1 : List Cond := [Cond.methodLink RX4 112 yX4_heldOf, Cond.instanceMethod yX4_heldOf, Cond.selects RX4 yX4_heldOf yX4_heldOf, Cond.initialized RX4, Cond.code yX4_heldOf cX4_heldOf 2 (some .int), Cond.fieldLink RX4 19 "TaxEqualiserModel" "home" "[I", Cond.fieldLink RX4 25 "TaxEqualiserModel" "pay" "[I", Cond.constantLong RX4 98 (12), Cond.methodLink RX4 67 yX4_taxOf, Cond.instanceMethod yX4_taxOf, Cond.selects RX4 yX4_taxOf yX4_taxOf, Cond.code yX4_taxOf cX4_taxOf 10 (some .long), Cond.fieldLink RX4 7 "TaxEqualiserModel" "lower" "[I", Cond.fieldLink RX4 13 "TaxEqualiserModel" "upper" "[I", Cond.fieldLink RX4 16 "TaxEqualiserModel" "rate" "[I", Cond.constantLong RX4 64 (100), Cond.methodLink RX4 103 yX4_months, Cond.instanceMethod yX4_months, Cond.selects RX4 yX4_months yX4_months, Cond.code yX4_months cX4_months 2 (some .int), Cond.fieldLink RX4 31 "TaxEqualiserModel" "back" "[I", Cond.fieldLink RX4 28 "TaxEqualiserModel" "out" "[I", Cond.methodLink RX4 115 yX4_taxAtHome, Cond.instanceMethod yX4_taxAtHome]
def wsX4_bears_r2 : List Cond := [Cond.selects RX4 yX4_taxAtHome yX4_taxAtHome, Cond.code yX4_taxAtHome cX4_taxAtHome 3 (some .int), Cond.methodLink RX4 100 yX4_whole, Cond.instanceMethod yX4_whole, Cond.selects RX4 yX4_whole yX4_whole, Cond.code yX4_whole cX4_whole 4 (some .int), Cond.fieldLink RX4 40 "TaxEqualiserModel" "bonuses" "[I", Cond.fieldLink RX4 43 "TaxEqualiserModel" "coins" "[I", Cond.methodLink RX4 109 yX4_atHome, Cond.instanceMethod yX4_atHome, Cond.selects RX4 yX4_atHome yX4_atHome, Cond.code yX4_atHome cX4_atHome 2 (some .int), Cond.methodLink RX4 106 yX4_parts, Cond.instanceMethod yX4_parts, Cond.selects RX4 yX4_parts yX4_parts, Cond.code yX4_parts cX4_parts 4 (some .int), Cond.methodLink RX4 94 yX4_part, Cond.instanceMethod yX4_part, Cond.selects RX4 yX4_part yX4_part, Cond.code yX4_part cX4_part 6 (some .int), Cond.fieldLink RX4 46 "TaxEqualiserModel" "first" "[I", Cond.fieldLink RX4 49 "TaxEqualiserModel" "behind" "[I"]
def wsX4_bears : List Cond := .code yX4_bears cX4_bears 2 (some .int) :: ((wsX4_bears_r1 ++ wsX4_bears_r2) ++ wsX40)
def wsX4_costOf_r1 : List Cond := [Cond.fieldLink RX4 22 "TaxEqualiserModel" "host" "[I", Cond.fieldLink RX4 34 "TaxEqualiserModel" "rent" "[I", Cond.methodLink RX4 118 yX4_abroad, Cond.instanceMethod yX4_abroad, Cond.selects RX4 yX4_abroad yX4_abroad, Cond.initialized RX4, Cond.code yX4_abroad cX4_abroad 2 (some .int), Cond.fieldLink RX4 25 "TaxEqualiserModel" "pay" "[I", Cond.methodLink RX4 103 yX4_months, Cond.instanceMethod yX4_months, Cond.selects RX4 yX4_months yX4_months, Cond.code yX4_months cX4_months 2 (some .int), Cond.fieldLink RX4 31 "TaxEqualiserModel" "back" "[I", Cond.fieldLink RX4 28 "TaxEqualiserModel" "out" "[I", Cond.methodLink RX4 106 yX4_parts, Cond.instanceMethod yX4_parts, Cond.selects RX4 yX4_parts yX4_parts, Cond.code yX4_parts cX4_parts 4 (some .int), Cond.fieldLink RX4 40 "TaxEqualiserModel" "bonuses" "[I", Cond.methodLink RX4 94 yX4_part, Cond.instanceMethod yX4_part, Cond.selects RX4 yX4_part yX4_part, Cond.code yX4_part cX4_part 6 (some .int), Cond.fieldLink RX4 46 "TaxEqualiserModel" "first" "[I"]
def wsX4_costOf_r2 : List Cond := [Cond.fieldLink RX4 49 "TaxEqualiserModel" "behind" "[I", Cond.fieldLink RX4 43 "TaxEqualiserModel" "coins" "[I", Cond.methodLink RX4 90 yX4_own, Cond.instanceMethod yX4_own, Cond.selects RX4 yX4_own yX4_own, Cond.code yX4_own cX4_own 3 (some .int), Cond.fieldLink RX4 37 "TaxEqualiserModel" "norm" "[I", Cond.methodLink RX4 81 yX4_gross, Cond.instanceMethod yX4_gross, Cond.selects RX4 yX4_gross yX4_gross, Cond.code yX4_gross cX4_gross 8 (some .int), Cond.constant RX4 66 (40000000), Cond.methodLink RX4 67 yX4_taxOf, Cond.instanceMethod yX4_taxOf, Cond.selects RX4 yX4_taxOf yX4_taxOf, Cond.code yX4_taxOf cX4_taxOf 10 (some .long), Cond.fieldLink RX4 7 "TaxEqualiserModel" "lower" "[I", Cond.fieldLink RX4 13 "TaxEqualiserModel" "upper" "[I", Cond.fieldLink RX4 16 "TaxEqualiserModel" "rate" "[I", Cond.constantLong RX4 64 (100), Cond.methodLink RX4 112 yX4_heldOf, Cond.instanceMethod yX4_heldOf, Cond.selects RX4 yX4_heldOf yX4_heldOf, Cond.code yX4_heldOf cX4_heldOf 2 (some .int)]
def wsX4_costOf_r3 : List Cond := [Cond.fieldLink RX4 19 "TaxEqualiserModel" "home" "[I", Cond.constantLong RX4 98 (12), Cond.methodLink RX4 121 yX4_supposed, Cond.instanceMethod yX4_supposed, Cond.selects RX4 yX4_supposed yX4_supposed, Cond.code yX4_supposed cX4_supposed 2 (some .int), Cond.methodLink RX4 100 yX4_whole, Cond.instanceMethod yX4_whole, Cond.selects RX4 yX4_whole yX4_whole, Cond.code yX4_whole cX4_whole 4 (some .int), Cond.methodLink RX4 124 yX4_bears, Cond.instanceMethod yX4_bears, Cond.selects RX4 yX4_bears yX4_bears, Cond.code yX4_bears cX4_bears 2 (some .int), Cond.methodLink RX4 115 yX4_taxAtHome, Cond.instanceMethod yX4_taxAtHome, Cond.selects RX4 yX4_taxAtHome yX4_taxAtHome, Cond.code yX4_taxAtHome cX4_taxAtHome 3 (some .int), Cond.methodLink RX4 109 yX4_atHome, Cond.instanceMethod yX4_atHome, Cond.selects RX4 yX4_atHome yX4_atHome, Cond.code yX4_atHome cX4_atHome 2 (some .int)]
def wsX4_costOf : List Cond := .code yX4_costOf cX4_costOf 2 (some .int) :: ((wsX4_costOf_r1 ++ (wsX4_costOf_r2 ++ wsX4_costOf_r3)) ++ wsX40)
def wsX4_held_r1 : List Cond := [Cond.fieldLink RX4 28 "TaxEqualiserModel" "out" "[I", Cond.fieldLink RX4 31 "TaxEqualiserModel" "back" "[I", Cond.methodLink RX4 86 yX4_isAsked, Cond.instanceMethod yX4_isAsked, Cond.selects RX4 yX4_isAsked yX4_isAsked, Cond.initialized RX4, Cond.code yX4_isAsked cX4_isAsked 2 (some .boolean), Cond.fieldLink RX4 61 "TaxEqualiserModel" "people" "I", Cond.fieldLink RX4 53 "TaxEqualiserModel" "thrown" "I", Cond.methodLink RX4 57 yX4_in, Cond.static yX4_in, Cond.code yX4_in cX4_in 3 (some .boolean), Cond.methodLink RX4 77 yX4_fails, Cond.instanceMethod yX4_fails, Cond.selects RX4 yX4_fails yX4_fails, Cond.code yX4_fails cX4_fails 2 (some .int), Cond.methodLink RX4 112 yX4_heldOf, Cond.instanceMethod yX4_heldOf, Cond.selects RX4 yX4_heldOf yX4_heldOf, Cond.code yX4_heldOf cX4_heldOf 2 (some .int), Cond.fieldLink RX4 19 "TaxEqualiserModel" "home" "[I", Cond.fieldLink RX4 25 "TaxEqualiserModel" "pay" "[I", Cond.constantLong RX4 98 (12), Cond.methodLink RX4 67 yX4_taxOf]
def wsX4_held_r2 : List Cond := [Cond.instanceMethod yX4_taxOf, Cond.selects RX4 yX4_taxOf yX4_taxOf, Cond.code yX4_taxOf cX4_taxOf 10 (some .long), Cond.fieldLink RX4 7 "TaxEqualiserModel" "lower" "[I", Cond.fieldLink RX4 13 "TaxEqualiserModel" "upper" "[I", Cond.fieldLink RX4 16 "TaxEqualiserModel" "rate" "[I", Cond.constantLong RX4 64 (100)]
def wsX4_held : List Cond := .code yX4_held cX4_held 3 (some .int) :: ((wsX4_held_r1 ++ wsX4_held_r2) ++ wsX40)
def wsX4_supposedTax_r1 : List Cond := [Cond.methodLink RX4 86 yX4_isAsked, Cond.instanceMethod yX4_isAsked, Cond.selects RX4 yX4_isAsked yX4_isAsked, Cond.initialized RX4, Cond.code yX4_isAsked cX4_isAsked 2 (some .boolean), Cond.fieldLink RX4 61 "TaxEqualiserModel" "people" "I", Cond.fieldLink RX4 53 "TaxEqualiserModel" "thrown" "I", Cond.methodLink RX4 57 yX4_in, Cond.static yX4_in, Cond.code yX4_in cX4_in 3 (some .boolean), Cond.methodLink RX4 121 yX4_supposed, Cond.instanceMethod yX4_supposed, Cond.selects RX4 yX4_supposed yX4_supposed, Cond.code yX4_supposed cX4_supposed 2 (some .int), Cond.fieldLink RX4 19 "TaxEqualiserModel" "home" "[I", Cond.methodLink RX4 100 yX4_whole, Cond.instanceMethod yX4_whole, Cond.selects RX4 yX4_whole yX4_whole, Cond.code yX4_whole cX4_whole 4 (some .int), Cond.fieldLink RX4 25 "TaxEqualiserModel" "pay" "[I", Cond.fieldLink RX4 40 "TaxEqualiserModel" "bonuses" "[I", Cond.fieldLink RX4 43 "TaxEqualiserModel" "coins" "[I", Cond.methodLink RX4 67 yX4_taxOf, Cond.instanceMethod yX4_taxOf]
def wsX4_supposedTax_r2 : List Cond := [Cond.selects RX4 yX4_taxOf yX4_taxOf, Cond.code yX4_taxOf cX4_taxOf 10 (some .long), Cond.fieldLink RX4 7 "TaxEqualiserModel" "lower" "[I", Cond.fieldLink RX4 13 "TaxEqualiserModel" "upper" "[I", Cond.fieldLink RX4 16 "TaxEqualiserModel" "rate" "[I", Cond.constantLong RX4 64 (100)]
def wsX4_supposedTax : List Cond := .code yX4_supposedTax cX4_supposedTax 2 (some .int) :: ((wsX4_supposedTax_r1 ++ wsX4_supposedTax_r2) ++ wsX40)
def wsX4_homeIncome_r1 : List Cond := [Cond.methodLink RX4 86 yX4_isAsked, Cond.instanceMethod yX4_isAsked, Cond.selects RX4 yX4_isAsked yX4_isAsked, Cond.initialized RX4, Cond.code yX4_isAsked cX4_isAsked 2 (some .boolean), Cond.fieldLink RX4 61 "TaxEqualiserModel" "people" "I", Cond.fieldLink RX4 53 "TaxEqualiserModel" "thrown" "I", Cond.methodLink RX4 57 yX4_in, Cond.static yX4_in, Cond.code yX4_in cX4_in 3 (some .boolean), Cond.methodLink RX4 109 yX4_atHome, Cond.instanceMethod yX4_atHome, Cond.selects RX4 yX4_atHome yX4_atHome, Cond.code yX4_atHome cX4_atHome 2 (some .int), Cond.fieldLink RX4 25 "TaxEqualiserModel" "pay" "[I", Cond.methodLink RX4 100 yX4_whole, Cond.instanceMethod yX4_whole, Cond.selects RX4 yX4_whole yX4_whole, Cond.code yX4_whole cX4_whole 4 (some .int), Cond.fieldLink RX4 40 "TaxEqualiserModel" "bonuses" "[I", Cond.fieldLink RX4 43 "TaxEqualiserModel" "coins" "[I", Cond.methodLink RX4 103 yX4_months, Cond.instanceMethod yX4_months, Cond.selects RX4 yX4_months yX4_months]
def wsX4_homeIncome_r2 : List Cond := [Cond.code yX4_months cX4_months 2 (some .int), Cond.fieldLink RX4 31 "TaxEqualiserModel" "back" "[I", Cond.fieldLink RX4 28 "TaxEqualiserModel" "out" "[I", Cond.methodLink RX4 106 yX4_parts, Cond.instanceMethod yX4_parts, Cond.selects RX4 yX4_parts yX4_parts, Cond.code yX4_parts cX4_parts 4 (some .int), Cond.methodLink RX4 94 yX4_part, Cond.instanceMethod yX4_part, Cond.selects RX4 yX4_part yX4_part, Cond.code yX4_part cX4_part 6 (some .int), Cond.fieldLink RX4 46 "TaxEqualiserModel" "first" "[I", Cond.fieldLink RX4 49 "TaxEqualiserModel" "behind" "[I"]
def wsX4_homeIncome : List Cond := .code yX4_homeIncome cX4_homeIncome 2 (some .int) :: ((wsX4_homeIncome_r1 ++ wsX4_homeIncome_r2) ++ wsX40)
def wsX4_homeTax_r1 : List Cond := [Cond.methodLink RX4 86 yX4_isAsked, Cond.instanceMethod yX4_isAsked, Cond.selects RX4 yX4_isAsked yX4_isAsked, Cond.initialized RX4, Cond.code yX4_isAsked cX4_isAsked 2 (some .boolean), Cond.fieldLink RX4 61 "TaxEqualiserModel" "people" "I", Cond.fieldLink RX4 53 "TaxEqualiserModel" "thrown" "I", Cond.methodLink RX4 57 yX4_in, Cond.static yX4_in, Cond.code yX4_in cX4_in 3 (some .boolean), Cond.methodLink RX4 115 yX4_taxAtHome, Cond.instanceMethod yX4_taxAtHome, Cond.selects RX4 yX4_taxAtHome yX4_taxAtHome, Cond.code yX4_taxAtHome cX4_taxAtHome 3 (some .int), Cond.fieldLink RX4 19 "TaxEqualiserModel" "home" "[I", Cond.methodLink RX4 100 yX4_whole, Cond.instanceMethod yX4_whole, Cond.selects RX4 yX4_whole yX4_whole, Cond.code yX4_whole cX4_whole 4 (some .int), Cond.fieldLink RX4 25 "TaxEqualiserModel" "pay" "[I", Cond.fieldLink RX4 40 "TaxEqualiserModel" "bonuses" "[I", Cond.fieldLink RX4 43 "TaxEqualiserModel" "coins" "[I", Cond.methodLink RX4 67 yX4_taxOf, Cond.instanceMethod yX4_taxOf]
def wsX4_homeTax_r2 : List Cond := [Cond.selects RX4 yX4_taxOf yX4_taxOf, Cond.code yX4_taxOf cX4_taxOf 10 (some .long), Cond.fieldLink RX4 7 "TaxEqualiserModel" "lower" "[I", Cond.fieldLink RX4 13 "TaxEqualiserModel" "upper" "[I", Cond.fieldLink RX4 16 "TaxEqualiserModel" "rate" "[I", Cond.constantLong RX4 64 (100), Cond.methodLink RX4 109 yX4_atHome, Cond.instanceMethod yX4_atHome, Cond.selects RX4 yX4_atHome yX4_atHome, Cond.code yX4_atHome cX4_atHome 2 (some .int), Cond.methodLink RX4 103 yX4_months, Cond.instanceMethod yX4_months, Cond.selects RX4 yX4_months yX4_months, Cond.code yX4_months cX4_months 2 (some .int), Cond.fieldLink RX4 31 "TaxEqualiserModel" "back" "[I", Cond.fieldLink RX4 28 "TaxEqualiserModel" "out" "[I", Cond.methodLink RX4 106 yX4_parts, Cond.instanceMethod yX4_parts, Cond.selects RX4 yX4_parts yX4_parts, Cond.code yX4_parts cX4_parts 4 (some .int), Cond.methodLink RX4 94 yX4_part, Cond.instanceMethod yX4_part, Cond.selects RX4 yX4_part yX4_part, Cond.code yX4_part cX4_part 6 (some .int)]
def wsX4_homeTax_r3 : List Cond := [Cond.fieldLink RX4 46 "TaxEqualiserModel" "first" "[I", Cond.fieldLink RX4 49 "TaxEqualiserModel" "behind" "[I"]
def wsX4_homeTax : List Cond := .code yX4_homeTax cX4_homeTax 2 (some .int) :: ((wsX4_homeTax_r1 ++ (wsX4_homeTax_r2 ++ wsX4_homeTax_r3)) ++ wsX40)
def wsX4_hostIncome_r1 : List Cond := [Cond.methodLink RX4 86 yX4_isAsked, Cond.instanceMethod yX4_isAsked, Cond.selects RX4 yX4_isAsked yX4_isAsked, Cond.initialized RX4, Cond.code yX4_isAsked cX4_isAsked 2 (some .boolean), Cond.fieldLink RX4 61 "TaxEqualiserModel" "people" "I", Cond.fieldLink RX4 53 "TaxEqualiserModel" "thrown" "I", Cond.methodLink RX4 57 yX4_in, Cond.static yX4_in, Cond.code yX4_in cX4_in 3 (some .boolean), Cond.methodLink RX4 118 yX4_abroad, Cond.instanceMethod yX4_abroad, Cond.selects RX4 yX4_abroad yX4_abroad, Cond.code yX4_abroad cX4_abroad 2 (some .int), Cond.fieldLink RX4 25 "TaxEqualiserModel" "pay" "[I", Cond.fieldLink RX4 34 "TaxEqualiserModel" "rent" "[I", Cond.methodLink RX4 103 yX4_months, Cond.instanceMethod yX4_months, Cond.selects RX4 yX4_months yX4_months, Cond.code yX4_months cX4_months 2 (some .int), Cond.fieldLink RX4 31 "TaxEqualiserModel" "back" "[I", Cond.fieldLink RX4 28 "TaxEqualiserModel" "out" "[I", Cond.methodLink RX4 106 yX4_parts, Cond.instanceMethod yX4_parts]
def wsX4_hostIncome_r2 : List Cond := [Cond.selects RX4 yX4_parts yX4_parts, Cond.code yX4_parts cX4_parts 4 (some .int), Cond.fieldLink RX4 40 "TaxEqualiserModel" "bonuses" "[I", Cond.methodLink RX4 94 yX4_part, Cond.instanceMethod yX4_part, Cond.selects RX4 yX4_part yX4_part, Cond.code yX4_part cX4_part 6 (some .int), Cond.fieldLink RX4 46 "TaxEqualiserModel" "first" "[I", Cond.fieldLink RX4 49 "TaxEqualiserModel" "behind" "[I", Cond.fieldLink RX4 43 "TaxEqualiserModel" "coins" "[I", Cond.methodLink RX4 90 yX4_own, Cond.instanceMethod yX4_own, Cond.selects RX4 yX4_own yX4_own, Cond.code yX4_own cX4_own 3 (some .int), Cond.fieldLink RX4 37 "TaxEqualiserModel" "norm" "[I"]
def wsX4_hostIncome : List Cond := .code yX4_hostIncome cX4_hostIncome 2 (some .int) :: ((wsX4_hostIncome_r1 ++ wsX4_hostIncome_r2) ++ wsX40)
def wsX4_hostTax_r1 : List Cond := [Cond.fieldLink RX4 22 "TaxEqualiserModel" "host" "[I", Cond.methodLink RX4 86 yX4_isAsked, Cond.instanceMethod yX4_isAsked, Cond.selects RX4 yX4_isAsked yX4_isAsked, Cond.initialized RX4, Cond.code yX4_isAsked cX4_isAsked 2 (some .boolean), Cond.fieldLink RX4 61 "TaxEqualiserModel" "people" "I", Cond.fieldLink RX4 53 "TaxEqualiserModel" "thrown" "I", Cond.methodLink RX4 57 yX4_in, Cond.static yX4_in, Cond.code yX4_in cX4_in 3 (some .boolean), Cond.methodLink RX4 118 yX4_abroad, Cond.instanceMethod yX4_abroad, Cond.selects RX4 yX4_abroad yX4_abroad, Cond.code yX4_abroad cX4_abroad 2 (some .int), Cond.fieldLink RX4 25 "TaxEqualiserModel" "pay" "[I", Cond.fieldLink RX4 34 "TaxEqualiserModel" "rent" "[I", Cond.methodLink RX4 103 yX4_months, Cond.instanceMethod yX4_months, Cond.selects RX4 yX4_months yX4_months, Cond.code yX4_months cX4_months 2 (some .int), Cond.fieldLink RX4 31 "TaxEqualiserModel" "back" "[I", Cond.fieldLink RX4 28 "TaxEqualiserModel" "out" "[I", Cond.methodLink RX4 106 yX4_parts]
def wsX4_hostTax_r2 : List Cond := [Cond.instanceMethod yX4_parts, Cond.selects RX4 yX4_parts yX4_parts, Cond.code yX4_parts cX4_parts 4 (some .int), Cond.fieldLink RX4 40 "TaxEqualiserModel" "bonuses" "[I", Cond.methodLink RX4 94 yX4_part, Cond.instanceMethod yX4_part, Cond.selects RX4 yX4_part yX4_part, Cond.code yX4_part cX4_part 6 (some .int), Cond.fieldLink RX4 46 "TaxEqualiserModel" "first" "[I", Cond.fieldLink RX4 49 "TaxEqualiserModel" "behind" "[I", Cond.fieldLink RX4 43 "TaxEqualiserModel" "coins" "[I", Cond.methodLink RX4 90 yX4_own, Cond.instanceMethod yX4_own, Cond.selects RX4 yX4_own yX4_own, Cond.code yX4_own cX4_own 3 (some .int), Cond.fieldLink RX4 37 "TaxEqualiserModel" "norm" "[I", Cond.methodLink RX4 81 yX4_gross, Cond.instanceMethod yX4_gross, Cond.selects RX4 yX4_gross yX4_gross, Cond.code yX4_gross cX4_gross 8 (some .int), Cond.constant RX4 66 (40000000), Cond.methodLink RX4 67 yX4_taxOf, Cond.instanceMethod yX4_taxOf, Cond.selects RX4 yX4_taxOf yX4_taxOf]
def wsX4_hostTax_r3 : List Cond := [Cond.code yX4_taxOf cX4_taxOf 10 (some .long), Cond.fieldLink RX4 7 "TaxEqualiserModel" "lower" "[I", Cond.fieldLink RX4 13 "TaxEqualiserModel" "upper" "[I", Cond.fieldLink RX4 16 "TaxEqualiserModel" "rate" "[I", Cond.constantLong RX4 64 (100)]
def wsX4_hostTax : List Cond := .code yX4_hostTax cX4_hostTax 2 (some .int) :: ((wsX4_hostTax_r1 ++ (wsX4_hostTax_r2 ++ wsX4_hostTax_r3)) ++ wsX40)
def wsX4_borne_r1 : List Cond := [Cond.methodLink RX4 86 yX4_isAsked, Cond.instanceMethod yX4_isAsked, Cond.selects RX4 yX4_isAsked yX4_isAsked, Cond.initialized RX4, Cond.code yX4_isAsked cX4_isAsked 2 (some .boolean), Cond.fieldLink RX4 61 "TaxEqualiserModel" "people" "I", Cond.fieldLink RX4 53 "TaxEqualiserModel" "thrown" "I", Cond.methodLink RX4 57 yX4_in, Cond.static yX4_in, Cond.code yX4_in cX4_in 3 (some .boolean), Cond.methodLink RX4 124 yX4_bears, Cond.instanceMethod yX4_bears, Cond.selects RX4 yX4_bears yX4_bears, Cond.code yX4_bears cX4_bears 2 (some .int), Cond.methodLink RX4 112 yX4_heldOf, Cond.instanceMethod yX4_heldOf, Cond.selects RX4 yX4_heldOf yX4_heldOf, Cond.code yX4_heldOf cX4_heldOf 2 (some .int), Cond.fieldLink RX4 19 "TaxEqualiserModel" "home" "[I", Cond.fieldLink RX4 25 "TaxEqualiserModel" "pay" "[I", Cond.constantLong RX4 98 (12), Cond.methodLink RX4 67 yX4_taxOf, Cond.instanceMethod yX4_taxOf, Cond.selects RX4 yX4_taxOf yX4_taxOf]
def wsX4_borne_r2 : List Cond := [Cond.code yX4_taxOf cX4_taxOf 10 (some .long), Cond.fieldLink RX4 7 "TaxEqualiserModel" "lower" "[I", Cond.fieldLink RX4 13 "TaxEqualiserModel" "upper" "[I", Cond.fieldLink RX4 16 "TaxEqualiserModel" "rate" "[I", Cond.constantLong RX4 64 (100), Cond.methodLink RX4 103 yX4_months, Cond.instanceMethod yX4_months, Cond.selects RX4 yX4_months yX4_months, Cond.code yX4_months cX4_months 2 (some .int), Cond.fieldLink RX4 31 "TaxEqualiserModel" "back" "[I", Cond.fieldLink RX4 28 "TaxEqualiserModel" "out" "[I", Cond.methodLink RX4 115 yX4_taxAtHome, Cond.instanceMethod yX4_taxAtHome, Cond.selects RX4 yX4_taxAtHome yX4_taxAtHome, Cond.code yX4_taxAtHome cX4_taxAtHome 3 (some .int), Cond.methodLink RX4 100 yX4_whole, Cond.instanceMethod yX4_whole, Cond.selects RX4 yX4_whole yX4_whole, Cond.code yX4_whole cX4_whole 4 (some .int), Cond.fieldLink RX4 40 "TaxEqualiserModel" "bonuses" "[I", Cond.fieldLink RX4 43 "TaxEqualiserModel" "coins" "[I", Cond.methodLink RX4 109 yX4_atHome, Cond.instanceMethod yX4_atHome, Cond.selects RX4 yX4_atHome yX4_atHome]
def wsX4_borne_r3 : List Cond := [Cond.code yX4_atHome cX4_atHome 2 (some .int), Cond.methodLink RX4 106 yX4_parts, Cond.instanceMethod yX4_parts, Cond.selects RX4 yX4_parts yX4_parts, Cond.code yX4_parts cX4_parts 4 (some .int), Cond.methodLink RX4 94 yX4_part, Cond.instanceMethod yX4_part, Cond.selects RX4 yX4_part yX4_part, Cond.code yX4_part cX4_part 6 (some .int), Cond.fieldLink RX4 46 "TaxEqualiserModel" "first" "[I", Cond.fieldLink RX4 49 "TaxEqualiserModel" "behind" "[I"]
def wsX4_borne : List Cond := .code yX4_borne cX4_borne 2 (some .int) :: ((wsX4_borne_r1 ++ (wsX4_borne_r2 ++ wsX4_borne_r3)) ++ wsX40)
def wsX4_settlement_r1 : List Cond := [Cond.methodLink RX4 86 yX4_isAsked, Cond.instanceMethod yX4_isAsked, Cond.selects RX4 yX4_isAsked yX4_isAsked, Cond.initialized RX4, Cond.code yX4_isAsked cX4_isAsked 2 (some .boolean), Cond.fieldLink RX4 61 "TaxEqualiserModel" "people" "I", Cond.fieldLink RX4 53 "TaxEqualiserModel" "thrown" "I", Cond.methodLink RX4 57 yX4_in, Cond.static yX4_in, Cond.code yX4_in cX4_in 3 (some .boolean), Cond.methodLink RX4 121 yX4_supposed, Cond.instanceMethod yX4_supposed, Cond.selects RX4 yX4_supposed yX4_supposed, Cond.code yX4_supposed cX4_supposed 2 (some .int), Cond.fieldLink RX4 19 "TaxEqualiserModel" "home" "[I", Cond.methodLink RX4 100 yX4_whole, Cond.instanceMethod yX4_whole, Cond.selects RX4 yX4_whole yX4_whole, Cond.code yX4_whole cX4_whole 4 (some .int), Cond.fieldLink RX4 25 "TaxEqualiserModel" "pay" "[I", Cond.fieldLink RX4 40 "TaxEqualiserModel" "bonuses" "[I", Cond.fieldLink RX4 43 "TaxEqualiserModel" "coins" "[I", Cond.methodLink RX4 67 yX4_taxOf, Cond.instanceMethod yX4_taxOf]
def wsX4_settlement_r2 : List Cond := [Cond.selects RX4 yX4_taxOf yX4_taxOf, Cond.code yX4_taxOf cX4_taxOf 10 (some .long), Cond.fieldLink RX4 7 "TaxEqualiserModel" "lower" "[I", Cond.fieldLink RX4 13 "TaxEqualiserModel" "upper" "[I", Cond.fieldLink RX4 16 "TaxEqualiserModel" "rate" "[I", Cond.constantLong RX4 64 (100), Cond.methodLink RX4 124 yX4_bears, Cond.instanceMethod yX4_bears, Cond.selects RX4 yX4_bears yX4_bears, Cond.code yX4_bears cX4_bears 2 (some .int), Cond.methodLink RX4 112 yX4_heldOf, Cond.instanceMethod yX4_heldOf, Cond.selects RX4 yX4_heldOf yX4_heldOf, Cond.code yX4_heldOf cX4_heldOf 2 (some .int), Cond.constantLong RX4 98 (12), Cond.methodLink RX4 103 yX4_months, Cond.instanceMethod yX4_months, Cond.selects RX4 yX4_months yX4_months, Cond.code yX4_months cX4_months 2 (some .int), Cond.fieldLink RX4 31 "TaxEqualiserModel" "back" "[I", Cond.fieldLink RX4 28 "TaxEqualiserModel" "out" "[I", Cond.methodLink RX4 115 yX4_taxAtHome, Cond.instanceMethod yX4_taxAtHome, Cond.selects RX4 yX4_taxAtHome yX4_taxAtHome]
def wsX4_settlement_r3 : List Cond := [Cond.code yX4_taxAtHome cX4_taxAtHome 3 (some .int), Cond.methodLink RX4 109 yX4_atHome, Cond.instanceMethod yX4_atHome, Cond.selects RX4 yX4_atHome yX4_atHome, Cond.code yX4_atHome cX4_atHome 2 (some .int), Cond.methodLink RX4 106 yX4_parts, Cond.instanceMethod yX4_parts, Cond.selects RX4 yX4_parts yX4_parts, Cond.code yX4_parts cX4_parts 4 (some .int), Cond.methodLink RX4 94 yX4_part, Cond.instanceMethod yX4_part, Cond.selects RX4 yX4_part yX4_part, Cond.code yX4_part cX4_part 6 (some .int), Cond.fieldLink RX4 46 "TaxEqualiserModel" "first" "[I", Cond.fieldLink RX4 49 "TaxEqualiserModel" "behind" "[I"]
def wsX4_settlement : List Cond := .code yX4_settlement cX4_settlement 2 (some .int) :: ((wsX4_settlement_r1 ++ (wsX4_settlement_r2 ++ wsX4_settlement_r3)) ++ wsX40)
def wsX4_cost_r1 : List Cond := [Cond.methodLink RX4 86 yX4_isAsked, Cond.instanceMethod yX4_isAsked, Cond.selects RX4 yX4_isAsked yX4_isAsked, Cond.initialized RX4, Cond.code yX4_isAsked cX4_isAsked 2 (some .boolean), Cond.fieldLink RX4 61 "TaxEqualiserModel" "people" "I", Cond.fieldLink RX4 53 "TaxEqualiserModel" "thrown" "I", Cond.methodLink RX4 57 yX4_in, Cond.static yX4_in, Cond.code yX4_in cX4_in 3 (some .boolean), Cond.methodLink RX4 127 yX4_costOf, Cond.instanceMethod yX4_costOf, Cond.selects RX4 yX4_costOf yX4_costOf, Cond.code yX4_costOf cX4_costOf 2 (some .int), Cond.fieldLink RX4 22 "TaxEqualiserModel" "host" "[I", Cond.fieldLink RX4 34 "TaxEqualiserModel" "rent" "[I", Cond.methodLink RX4 118 yX4_abroad, Cond.instanceMethod yX4_abroad, Cond.selects RX4 yX4_abroad yX4_abroad, Cond.code yX4_abroad cX4_abroad 2 (some .int), Cond.fieldLink RX4 25 "TaxEqualiserModel" "pay" "[I", Cond.methodLink RX4 103 yX4_months, Cond.instanceMethod yX4_months, Cond.selects RX4 yX4_months yX4_months]
def wsX4_cost_r2 : List Cond := [Cond.code yX4_months cX4_months 2 (some .int), Cond.fieldLink RX4 31 "TaxEqualiserModel" "back" "[I", Cond.fieldLink RX4 28 "TaxEqualiserModel" "out" "[I", Cond.methodLink RX4 106 yX4_parts, Cond.instanceMethod yX4_parts, Cond.selects RX4 yX4_parts yX4_parts, Cond.code yX4_parts cX4_parts 4 (some .int), Cond.fieldLink RX4 40 "TaxEqualiserModel" "bonuses" "[I", Cond.methodLink RX4 94 yX4_part, Cond.instanceMethod yX4_part, Cond.selects RX4 yX4_part yX4_part, Cond.code yX4_part cX4_part 6 (some .int), Cond.fieldLink RX4 46 "TaxEqualiserModel" "first" "[I", Cond.fieldLink RX4 49 "TaxEqualiserModel" "behind" "[I", Cond.fieldLink RX4 43 "TaxEqualiserModel" "coins" "[I", Cond.methodLink RX4 90 yX4_own, Cond.instanceMethod yX4_own, Cond.selects RX4 yX4_own yX4_own, Cond.code yX4_own cX4_own 3 (some .int), Cond.fieldLink RX4 37 "TaxEqualiserModel" "norm" "[I", Cond.methodLink RX4 81 yX4_gross, Cond.instanceMethod yX4_gross, Cond.selects RX4 yX4_gross yX4_gross, Cond.code yX4_gross cX4_gross 8 (some .int)]
def wsX4_cost_r3 : List Cond := [Cond.constant RX4 66 (40000000), Cond.methodLink RX4 67 yX4_taxOf, Cond.instanceMethod yX4_taxOf, Cond.selects RX4 yX4_taxOf yX4_taxOf, Cond.code yX4_taxOf cX4_taxOf 10 (some .long), Cond.fieldLink RX4 7 "TaxEqualiserModel" "lower" "[I", Cond.fieldLink RX4 13 "TaxEqualiserModel" "upper" "[I", Cond.fieldLink RX4 16 "TaxEqualiserModel" "rate" "[I", Cond.constantLong RX4 64 (100), Cond.methodLink RX4 112 yX4_heldOf, Cond.instanceMethod yX4_heldOf, Cond.selects RX4 yX4_heldOf yX4_heldOf, Cond.code yX4_heldOf cX4_heldOf 2 (some .int), Cond.fieldLink RX4 19 "TaxEqualiserModel" "home" "[I", Cond.constantLong RX4 98 (12), Cond.methodLink RX4 121 yX4_supposed, Cond.instanceMethod yX4_supposed, Cond.selects RX4 yX4_supposed yX4_supposed, Cond.code yX4_supposed cX4_supposed 2 (some .int), Cond.methodLink RX4 100 yX4_whole, Cond.instanceMethod yX4_whole, Cond.selects RX4 yX4_whole yX4_whole, Cond.code yX4_whole cX4_whole 4 (some .int), Cond.methodLink RX4 124 yX4_bears]
def wsX4_cost_r4 : List Cond := [Cond.instanceMethod yX4_bears, Cond.selects RX4 yX4_bears yX4_bears, Cond.code yX4_bears cX4_bears 2 (some .int), Cond.methodLink RX4 115 yX4_taxAtHome, Cond.instanceMethod yX4_taxAtHome, Cond.selects RX4 yX4_taxAtHome yX4_taxAtHome, Cond.code yX4_taxAtHome cX4_taxAtHome 3 (some .int), Cond.methodLink RX4 109 yX4_atHome, Cond.instanceMethod yX4_atHome, Cond.selects RX4 yX4_atHome yX4_atHome, Cond.code yX4_atHome cX4_atHome 2 (some .int)]
def wsX4_cost : List Cond := .code yX4_cost cX4_cost 2 (some .int) :: ((wsX4_cost_r1 ++ (wsX4_cost_r2 ++ (wsX4_cost_r3 ++ wsX4_cost_r4))) ++ wsX40)
def wsX4_dearest_r1 : List Cond := [Cond.fieldLink RX4 53 "TaxEqualiserModel" "thrown" "I", Cond.fieldLink RX4 61 "TaxEqualiserModel" "people" "I", Cond.methodLink RX4 127 yX4_costOf, Cond.instanceMethod yX4_costOf, Cond.selects RX4 yX4_costOf yX4_costOf, Cond.initialized RX4, Cond.code yX4_costOf cX4_costOf 2 (some .int), Cond.fieldLink RX4 22 "TaxEqualiserModel" "host" "[I", Cond.fieldLink RX4 34 "TaxEqualiserModel" "rent" "[I", Cond.methodLink RX4 118 yX4_abroad, Cond.instanceMethod yX4_abroad, Cond.selects RX4 yX4_abroad yX4_abroad, Cond.code yX4_abroad cX4_abroad 2 (some .int), Cond.fieldLink RX4 25 "TaxEqualiserModel" "pay" "[I", Cond.methodLink RX4 103 yX4_months, Cond.instanceMethod yX4_months, Cond.selects RX4 yX4_months yX4_months, Cond.code yX4_months cX4_months 2 (some .int), Cond.fieldLink RX4 31 "TaxEqualiserModel" "back" "[I", Cond.fieldLink RX4 28 "TaxEqualiserModel" "out" "[I", Cond.methodLink RX4 106 yX4_parts, Cond.instanceMethod yX4_parts, Cond.selects RX4 yX4_parts yX4_parts, Cond.code yX4_parts cX4_parts 4 (some .int)]
def wsX4_dearest_r2 : List Cond := [Cond.fieldLink RX4 40 "TaxEqualiserModel" "bonuses" "[I", Cond.methodLink RX4 94 yX4_part, Cond.instanceMethod yX4_part, Cond.selects RX4 yX4_part yX4_part, Cond.code yX4_part cX4_part 6 (some .int), Cond.fieldLink RX4 46 "TaxEqualiserModel" "first" "[I", Cond.fieldLink RX4 49 "TaxEqualiserModel" "behind" "[I", Cond.fieldLink RX4 43 "TaxEqualiserModel" "coins" "[I", Cond.methodLink RX4 90 yX4_own, Cond.instanceMethod yX4_own, Cond.selects RX4 yX4_own yX4_own, Cond.code yX4_own cX4_own 3 (some .int), Cond.fieldLink RX4 37 "TaxEqualiserModel" "norm" "[I", Cond.methodLink RX4 81 yX4_gross, Cond.instanceMethod yX4_gross, Cond.selects RX4 yX4_gross yX4_gross, Cond.code yX4_gross cX4_gross 8 (some .int), Cond.constant RX4 66 (40000000), Cond.methodLink RX4 67 yX4_taxOf, Cond.instanceMethod yX4_taxOf, Cond.selects RX4 yX4_taxOf yX4_taxOf, Cond.code yX4_taxOf cX4_taxOf 10 (some .long), Cond.fieldLink RX4 7 "TaxEqualiserModel" "lower" "[I", Cond.fieldLink RX4 13 "TaxEqualiserModel" "upper" "[I"]
def wsX4_dearest_r3 : List Cond := [Cond.fieldLink RX4 16 "TaxEqualiserModel" "rate" "[I", Cond.constantLong RX4 64 (100), Cond.methodLink RX4 112 yX4_heldOf, Cond.instanceMethod yX4_heldOf, Cond.selects RX4 yX4_heldOf yX4_heldOf, Cond.code yX4_heldOf cX4_heldOf 2 (some .int), Cond.fieldLink RX4 19 "TaxEqualiserModel" "home" "[I", Cond.constantLong RX4 98 (12), Cond.methodLink RX4 121 yX4_supposed, Cond.instanceMethod yX4_supposed, Cond.selects RX4 yX4_supposed yX4_supposed, Cond.code yX4_supposed cX4_supposed 2 (some .int), Cond.methodLink RX4 100 yX4_whole, Cond.instanceMethod yX4_whole, Cond.selects RX4 yX4_whole yX4_whole, Cond.code yX4_whole cX4_whole 4 (some .int), Cond.methodLink RX4 124 yX4_bears, Cond.instanceMethod yX4_bears, Cond.selects RX4 yX4_bears yX4_bears, Cond.code yX4_bears cX4_bears 2 (some .int), Cond.methodLink RX4 115 yX4_taxAtHome, Cond.instanceMethod yX4_taxAtHome, Cond.selects RX4 yX4_taxAtHome yX4_taxAtHome, Cond.code yX4_taxAtHome cX4_taxAtHome 3 (some .int)]
def wsX4_dearest_r4 : List Cond := [Cond.methodLink RX4 109 yX4_atHome, Cond.instanceMethod yX4_atHome, Cond.selects RX4 yX4_atHome yX4_atHome, Cond.code yX4_atHome cX4_atHome 2 (some .int)]
def wsX4_dearest : List Cond := .code yX4_dearest cX4_dearest 3 (some .int) :: ((wsX4_dearest_r1 ++ (wsX4_dearest_r2 ++ (wsX4_dearest_r3 ++ wsX4_dearest_r4))) ++ wsX40)
def wsJ9_max_7cf53 : List Cond := .code yJ9_max_7cf53 cJ9_max_7cf53 2 (some .int) :: ([])
def wsJ9_min_7cf53 : List Cond := .code yJ9_min_7cf53 cJ9_min_7cf53 2 (some .int) :: ([])
def wsL_setLimits_r1 : List Cond := [Cond.classLink RL 13 "java/lang/IllegalArgumentException", Cond.methodLink RL 7 yX3_setLimits, Cond.instanceMethod yX3_setLimits, Cond.selects RX3 yX3_setLimits yX3_setLimits, Cond.initialized RX3, Cond.code yX3_setLimits cX3_setLimits 5 none, Cond.constant RX3 32 (1000000), Cond.methodLink RX3 28 yX3_landAt, Cond.instanceMethod yX3_landAt, Cond.selects RX3 yX3_landAt yX3_landAt, Cond.code yX3_landAt cX3_landAt 2 (some (.object "TaxEqualiser$Land")), Cond.classLink RX3 55 "java/lang/IllegalArgumentException", Cond.initialized "java/lang/IllegalArgumentException", Cond.fieldLink RX3 10 "TaxEqualiser" "lands" "Ljava/util/List;", Cond.classLink RX3 19 "TaxEqualiser$Land", Cond.methodLink RX3 63 ⟨"java/util/List", "size", "()I"⟩, Cond.selects RJx4a65c ⟨"java/util/List", "size", "()I"⟩ yJx4a65c_size_8abf5, Cond.instanceMethod yJx4a65c_size_8abf5, Cond.initialized RJx4a65c, Cond.code yJx4a65c_size_8abf5 cJx4a65c_size_8abf5 1 (some .int), Cond.fieldLink RJx4a65c 48 "java/util/ArrayList" "size" "I", Cond.methodLink RX3 119 ⟨"java/util/List", "get", "(I)Ljava/lang/Object;"⟩, Cond.selects RJx4a65c ⟨"java/util/List", "get", "(I)Ljava/lang/Object;"⟩ yJx4a65c_get_915e3, Cond.instanceMethod yJx4a65c_get_915e3]
def wsL_setLimits_r2 : List Cond := [Cond.code yJx4a65c_get_915e3 cJx4a65c_get_915e3 2 (some (.object "java/lang/Object")), Cond.methodLink RJx4a65c 118 yJ15_checkIndex_7cf53, Cond.static yJ15_checkIndex_7cf53, Cond.initialized RJ15, Cond.code yJ15_checkIndex_7cf53 cJ15_checkIndex_7cf53 2 (some .int), Cond.methodLink RJ15 105 yJ3_checkIndex_8e157, Cond.static yJ3_checkIndex_8e157, Cond.initialized RJ3, Cond.code yJ3_checkIndex_8e157 cJ3_checkIndex_8e157 3 (some .int), Cond.methodLink RJx4a65c 123 yJx4a65c_elementData_915e3, Cond.instanceMethod yJx4a65c_elementData_915e3, Cond.selects RJx4a65c yJx4a65c_elementData_915e3 yJx4a65c_elementData_915e3, Cond.code yJx4a65c_elementData_915e3 cJx4a65c_elementData_915e3 2 (some (.object "java/lang/Object")), Cond.fieldLink RJx4a65c 9 "java/util/ArrayList" "elementData" "[Ljava/lang/Object;", Cond.methodLink RX3 33 yX3_requireRange, Cond.static yX3_requireRange, Cond.code yX3_requireRange cX3_requireRange 3 none, Cond.methodLink RX3 37 yX1_limit, Cond.instanceMethod yX1_limit, Cond.selects RX1 yX1_limit yX1_limit, Cond.initialized RX1, Cond.code yX1_limit cX1_limit 3 none, Cond.fieldLink RX1 9 "TaxEqualiser$Land" "lower" "I", Cond.fieldLink RX1 16 "TaxEqualiser$Land" "upper" "I"]
def wsL_setLimits : List Cond := .codeWith yL_setLimits cL_setLimits 5 (some .int) [(0, 7, 10, 13)] :: ((wsL_setLimits_r1 ++ wsL_setLimits_r2) ++ wsX30 ++ wsJx4a65c0 ++ wsX10 ++ (vx_atS RX3 59 "java/lang/IllegalArgumentException" ["java/lang/RuntimeException", "java/lang/Exception"]).filter goodWord)
def wsL_setRates_r1 : List Cond := [Cond.classLink RL 13 "java/lang/IllegalArgumentException", Cond.methodLink RL 15 yX3_setRates, Cond.instanceMethod yX3_setRates, Cond.selects RX3 yX3_setRates yX3_setRates, Cond.initialized RX3, Cond.code yX3_setRates cX3_setRates 6 none, Cond.methodLink RX3 28 yX3_landAt, Cond.instanceMethod yX3_landAt, Cond.selects RX3 yX3_landAt yX3_landAt, Cond.code yX3_landAt cX3_landAt 2 (some (.object "TaxEqualiser$Land")), Cond.classLink RX3 55 "java/lang/IllegalArgumentException", Cond.initialized "java/lang/IllegalArgumentException", Cond.fieldLink RX3 10 "TaxEqualiser" "lands" "Ljava/util/List;", Cond.classLink RX3 19 "TaxEqualiser$Land", Cond.methodLink RX3 63 ⟨"java/util/List", "size", "()I"⟩, Cond.selects RJx4a65c ⟨"java/util/List", "size", "()I"⟩ yJx4a65c_size_8abf5, Cond.instanceMethod yJx4a65c_size_8abf5, Cond.initialized RJx4a65c, Cond.code yJx4a65c_size_8abf5 cJx4a65c_size_8abf5 1 (some .int), Cond.fieldLink RJx4a65c 48 "java/util/ArrayList" "size" "I", Cond.methodLink RX3 119 ⟨"java/util/List", "get", "(I)Ljava/lang/Object;"⟩, Cond.selects RJx4a65c ⟨"java/util/List", "get", "(I)Ljava/lang/Object;"⟩ yJx4a65c_get_915e3, Cond.instanceMethod yJx4a65c_get_915e3, Cond.code yJx4a65c_get_915e3 cJx4a65c_get_915e3 2 (some (.object "java/lang/Object"))]
def wsL_setRates_r2 : List Cond := [Cond.methodLink RJx4a65c 118 yJ15_checkIndex_7cf53, Cond.static yJ15_checkIndex_7cf53, Cond.initialized RJ15, Cond.code yJ15_checkIndex_7cf53 cJ15_checkIndex_7cf53 2 (some .int), Cond.methodLink RJ15 105 yJ3_checkIndex_8e157, Cond.static yJ3_checkIndex_8e157, Cond.initialized RJ3, Cond.code yJ3_checkIndex_8e157 cJ3_checkIndex_8e157 3 (some .int), Cond.methodLink RJx4a65c 123 yJx4a65c_elementData_915e3, Cond.instanceMethod yJx4a65c_elementData_915e3, Cond.selects RJx4a65c yJx4a65c_elementData_915e3 yJx4a65c_elementData_915e3, Cond.code yJx4a65c_elementData_915e3 cJx4a65c_elementData_915e3 2 (some (.object "java/lang/Object")), Cond.fieldLink RJx4a65c 9 "java/util/ArrayList" "elementData" "[Ljava/lang/Object;", Cond.methodLink RX3 33 yX3_requireRange, Cond.static yX3_requireRange, Cond.code yX3_requireRange cX3_requireRange 3 none, Cond.methodLink RX3 41 yX1_rate, Cond.instanceMethod yX1_rate, Cond.selects RX1 yX1_rate yX1_rate, Cond.initialized RX1, Cond.code yX1_rate cX1_rate 4 none, Cond.fieldLink RX1 19 "TaxEqualiser$Land" "first" "I", Cond.fieldLink RX1 22 "TaxEqualiser$Land" "second" "I", Cond.fieldLink RX1 25 "TaxEqualiser$Land" "third" "I"]
def wsL_setRates : List Cond := .codeWith yL_setRates cL_setRates 6 (some .int) [(0, 9, 12, 13)] :: ((wsL_setRates_r1 ++ wsL_setRates_r2) ++ wsX30 ++ wsJx4a65c0 ++ wsX10 ++ (vx_atS RX3 59 "java/lang/IllegalArgumentException" ["java/lang/RuntimeException", "java/lang/Exception"]).filter goodWord)
def wsL_tax_r1 : List Cond := [Cond.classLink RL 13 "java/lang/IllegalArgumentException", Cond.methodLink RL 19 yX3_tax, Cond.instanceMethod yX3_tax, Cond.selects RX3 yX3_tax yX3_tax, Cond.initialized RX3, Cond.code yX3_tax cX3_tax 4 (some .int), Cond.constant RX3 44 (10000000), Cond.methodLink RX3 28 yX3_landAt, Cond.instanceMethod yX3_landAt, Cond.selects RX3 yX3_landAt yX3_landAt, Cond.code yX3_landAt cX3_landAt 2 (some (.object "TaxEqualiser$Land")), Cond.classLink RX3 55 "java/lang/IllegalArgumentException", Cond.initialized "java/lang/IllegalArgumentException", Cond.fieldLink RX3 10 "TaxEqualiser" "lands" "Ljava/util/List;", Cond.classLink RX3 19 "TaxEqualiser$Land", Cond.methodLink RX3 63 ⟨"java/util/List", "size", "()I"⟩, Cond.selects RJx4a65c ⟨"java/util/List", "size", "()I"⟩ yJx4a65c_size_8abf5, Cond.instanceMethod yJx4a65c_size_8abf5, Cond.initialized RJx4a65c, Cond.code yJx4a65c_size_8abf5 cJx4a65c_size_8abf5 1 (some .int), Cond.fieldLink RJx4a65c 48 "java/util/ArrayList" "size" "I", Cond.methodLink RX3 119 ⟨"java/util/List", "get", "(I)Ljava/lang/Object;"⟩, Cond.selects RJx4a65c ⟨"java/util/List", "get", "(I)Ljava/lang/Object;"⟩ yJx4a65c_get_915e3, Cond.instanceMethod yJx4a65c_get_915e3]
def wsL_tax_r2 : List Cond := [Cond.code yJx4a65c_get_915e3 cJx4a65c_get_915e3 2 (some (.object "java/lang/Object")), Cond.methodLink RJx4a65c 118 yJ15_checkIndex_7cf53, Cond.static yJ15_checkIndex_7cf53, Cond.initialized RJ15, Cond.code yJ15_checkIndex_7cf53 cJ15_checkIndex_7cf53 2 (some .int), Cond.methodLink RJ15 105 yJ3_checkIndex_8e157, Cond.static yJ3_checkIndex_8e157, Cond.initialized RJ3, Cond.code yJ3_checkIndex_8e157 cJ3_checkIndex_8e157 3 (some .int), Cond.methodLink RJx4a65c 123 yJx4a65c_elementData_915e3, Cond.instanceMethod yJx4a65c_elementData_915e3, Cond.selects RJx4a65c yJx4a65c_elementData_915e3 yJx4a65c_elementData_915e3, Cond.code yJx4a65c_elementData_915e3 cJx4a65c_elementData_915e3 2 (some (.object "java/lang/Object")), Cond.fieldLink RJx4a65c 9 "java/util/ArrayList" "elementData" "[Ljava/lang/Object;", Cond.methodLink RX3 33 yX3_requireRange, Cond.static yX3_requireRange, Cond.code yX3_requireRange cX3_requireRange 3 none, Cond.methodLink RX3 45 yX1_taxOf, Cond.instanceMethod yX1_taxOf, Cond.selects RX1 yX1_taxOf yX1_taxOf, Cond.initialized RX1, Cond.code yX1_taxOf cX1_taxOf 8 (some .int), Cond.fieldLink RX1 9 "TaxEqualiser$Land" "lower" "I", Cond.methodLink RX1 28 Lib.Math.min.name]
def wsL_tax_r3 : List Cond := [Cond.static Lib.Math.min.name, Cond.initialized "java/lang/Math", Cond.code Lib.Math.min.name Lib.Math.min.code 2 (some .int), Cond.fieldLink RX1 16 "TaxEqualiser$Land" "upper" "I", Cond.methodLink RX1 34 Lib.Math.max.name, Cond.static Lib.Math.max.name, Cond.code Lib.Math.max.name Lib.Math.max.code 2 (some .int), Cond.fieldLink RX1 19 "TaxEqualiser$Land" "first" "I", Cond.fieldLink RX1 22 "TaxEqualiser$Land" "second" "I", Cond.fieldLink RX1 25 "TaxEqualiser$Land" "third" "I", Cond.constantLong RX1 37 (100)]
def wsL_tax : List Cond := .codeWith yL_tax cL_tax 5 (some .int) [(0, 10, 13, 13)] :: ((wsL_tax_r1 ++ (wsL_tax_r2 ++ wsL_tax_r3)) ++ wsX30 ++ wsJx4a65c0 ++ wsX10 ++ (vx_atS RX3 59 "java/lang/IllegalArgumentException" ["java/lang/RuntimeException", "java/lang/Exception"]).filter goodWord)
def wsL_grossTax_r1 : List Cond := [Cond.classLink RL 13 "java/lang/IllegalArgumentException", Cond.methodLink RL 23 yX3_grossTax, Cond.instanceMethod yX3_grossTax, Cond.selects RX3 yX3_grossTax yX3_grossTax, Cond.initialized RX3, Cond.code yX3_grossTax cX3_grossTax 4 (some .int), Cond.constant RX3 44 (10000000), Cond.methodLink RX3 28 yX3_landAt, Cond.instanceMethod yX3_landAt, Cond.selects RX3 yX3_landAt yX3_landAt, Cond.code yX3_landAt cX3_landAt 2 (some (.object "TaxEqualiser$Land")), Cond.classLink RX3 55 "java/lang/IllegalArgumentException", Cond.initialized "java/lang/IllegalArgumentException", Cond.fieldLink RX3 10 "TaxEqualiser" "lands" "Ljava/util/List;", Cond.classLink RX3 19 "TaxEqualiser$Land", Cond.methodLink RX3 63 ⟨"java/util/List", "size", "()I"⟩, Cond.selects RJx4a65c ⟨"java/util/List", "size", "()I"⟩ yJx4a65c_size_8abf5, Cond.instanceMethod yJx4a65c_size_8abf5, Cond.initialized RJx4a65c, Cond.code yJx4a65c_size_8abf5 cJx4a65c_size_8abf5 1 (some .int), Cond.fieldLink RJx4a65c 48 "java/util/ArrayList" "size" "I", Cond.methodLink RX3 119 ⟨"java/util/List", "get", "(I)Ljava/lang/Object;"⟩, Cond.selects RJx4a65c ⟨"java/util/List", "get", "(I)Ljava/lang/Object;"⟩ yJx4a65c_get_915e3, Cond.instanceMethod yJx4a65c_get_915e3]
def wsL_grossTax_r2 : List Cond := [Cond.code yJx4a65c_get_915e3 cJx4a65c_get_915e3 2 (some (.object "java/lang/Object")), Cond.methodLink RJx4a65c 118 yJ15_checkIndex_7cf53, Cond.static yJ15_checkIndex_7cf53, Cond.initialized RJ15, Cond.code yJ15_checkIndex_7cf53 cJ15_checkIndex_7cf53 2 (some .int), Cond.methodLink RJ15 105 yJ3_checkIndex_8e157, Cond.static yJ3_checkIndex_8e157, Cond.initialized RJ3, Cond.code yJ3_checkIndex_8e157 cJ3_checkIndex_8e157 3 (some .int), Cond.methodLink RJx4a65c 123 yJx4a65c_elementData_915e3, Cond.instanceMethod yJx4a65c_elementData_915e3, Cond.selects RJx4a65c yJx4a65c_elementData_915e3 yJx4a65c_elementData_915e3, Cond.code yJx4a65c_elementData_915e3 cJx4a65c_elementData_915e3 2 (some (.object "java/lang/Object")), Cond.fieldLink RJx4a65c 9 "java/util/ArrayList" "elementData" "[Ljava/lang/Object;", Cond.methodLink RX3 33 yX3_requireRange, Cond.static yX3_requireRange, Cond.code yX3_requireRange cX3_requireRange 3 none, Cond.methodLink RX3 49 yX1_grossTaxOf, Cond.instanceMethod yX1_grossTaxOf, Cond.selects RX1 yX1_grossTaxOf yX1_grossTaxOf, Cond.initialized RX1, Cond.code yX1_grossTaxOf cX1_grossTaxOf 6 (some .int), Cond.methodLink RX1 39 yX1_mostGrossTax, Cond.static yX1_mostGrossTax]
def wsL_grossTax_r3 : List Cond := [Cond.code yX1_mostGrossTax cX1_mostGrossTax 1 (some .int), Cond.methodLink RX1 43 yX1_taxOf, Cond.instanceMethod yX1_taxOf, Cond.selects RX1 yX1_taxOf yX1_taxOf, Cond.code yX1_taxOf cX1_taxOf 8 (some .int), Cond.fieldLink RX1 9 "TaxEqualiser$Land" "lower" "I", Cond.methodLink RX1 28 Lib.Math.min.name, Cond.static Lib.Math.min.name, Cond.initialized "java/lang/Math", Cond.code Lib.Math.min.name Lib.Math.min.code 2 (some .int), Cond.fieldLink RX1 16 "TaxEqualiser$Land" "upper" "I", Cond.methodLink RX1 34 Lib.Math.max.name, Cond.static Lib.Math.max.name, Cond.code Lib.Math.max.name Lib.Math.max.code 2 (some .int), Cond.fieldLink RX1 19 "TaxEqualiser$Land" "first" "I", Cond.fieldLink RX1 22 "TaxEqualiser$Land" "second" "I", Cond.fieldLink RX1 25 "TaxEqualiser$Land" "third" "I", Cond.constantLong RX1 37 (100)]
def wsL_grossTax : List Cond := .codeWith yL_grossTax cL_grossTax 5 (some .int) [(0, 10, 13, 13)] :: ((wsL_grossTax_r1 ++ (wsL_grossTax_r2 ++ wsL_grossTax_r3)) ++ wsX30 ++ wsJx4a65c0 ++ wsX10 ++ (vx_atS RX3 59 "java/lang/IllegalArgumentException" ["java/lang/RuntimeException", "java/lang/Exception"]).filter goodWord)
def wsL_grossTaxByTrying_r1 : List Cond := [Cond.classLink RL 13 "java/lang/IllegalArgumentException", Cond.methodLink RL 26 yX3_grossTaxByTrying, Cond.instanceMethod yX3_grossTaxByTrying, Cond.selects RX3 yX3_grossTaxByTrying yX3_grossTaxByTrying, Cond.initialized RX3, Cond.code yX3_grossTaxByTrying cX3_grossTaxByTrying 4 (some .int), Cond.methodLink RX3 28 yX3_landAt, Cond.instanceMethod yX3_landAt, Cond.selects RX3 yX3_landAt yX3_landAt, Cond.code yX3_landAt cX3_landAt 2 (some (.object "TaxEqualiser$Land")), Cond.classLink RX3 55 "java/lang/IllegalArgumentException", Cond.initialized "java/lang/IllegalArgumentException", Cond.fieldLink RX3 10 "TaxEqualiser" "lands" "Ljava/util/List;", Cond.classLink RX3 19 "TaxEqualiser$Land", Cond.methodLink RX3 63 ⟨"java/util/List", "size", "()I"⟩, Cond.selects RJx4a65c ⟨"java/util/List", "size", "()I"⟩ yJx4a65c_size_8abf5, Cond.instanceMethod yJx4a65c_size_8abf5, Cond.initialized RJx4a65c, Cond.code yJx4a65c_size_8abf5 cJx4a65c_size_8abf5 1 (some .int), Cond.fieldLink RJx4a65c 48 "java/util/ArrayList" "size" "I", Cond.methodLink RX3 119 ⟨"java/util/List", "get", "(I)Ljava/lang/Object;"⟩, Cond.selects RJx4a65c ⟨"java/util/List", "get", "(I)Ljava/lang/Object;"⟩ yJx4a65c_get_915e3, Cond.instanceMethod yJx4a65c_get_915e3, Cond.code yJx4a65c_get_915e3 cJx4a65c_get_915e3 2 (some (.object "java/lang/Object"))]
def wsL_grossTaxByTrying_r2 : List Cond := [Cond.methodLink RJx4a65c 118 yJ15_checkIndex_7cf53, Cond.static yJ15_checkIndex_7cf53, Cond.initialized RJ15, Cond.code yJ15_checkIndex_7cf53 cJ15_checkIndex_7cf53 2 (some .int), Cond.methodLink RJ15 105 yJ3_checkIndex_8e157, Cond.static yJ3_checkIndex_8e157, Cond.initialized RJ3, Cond.code yJ3_checkIndex_8e157 cJ3_checkIndex_8e157 3 (some .int), Cond.methodLink RJx4a65c 123 yJx4a65c_elementData_915e3, Cond.instanceMethod yJx4a65c_elementData_915e3, Cond.selects RJx4a65c yJx4a65c_elementData_915e3 yJx4a65c_elementData_915e3, Cond.code yJx4a65c_elementData_915e3 cJx4a65c_elementData_915e3 2 (some (.object "java/lang/Object")), Cond.fieldLink RJx4a65c 9 "java/util/ArrayList" "elementData" "[Ljava/lang/Object;", Cond.methodLink RX3 33 yX3_requireRange, Cond.static yX3_requireRange, Cond.code yX3_requireRange cX3_requireRange 3 none, Cond.methodLink RX3 52 yX1_grossTaxTried, Cond.instanceMethod yX1_grossTaxTried, Cond.selects RX1 yX1_grossTaxTried yX1_grossTaxTried, Cond.initialized RX1, Cond.code yX1_grossTaxTried cX1_grossTaxTried 4 (some .int), Cond.methodLink RX1 39 yX1_mostGrossTax, Cond.static yX1_mostGrossTax, Cond.code yX1_mostGrossTax cX1_mostGrossTax 1 (some .int)]
def wsL_grossTaxByTrying_r3 : List Cond := [Cond.methodLink RX1 43 yX1_taxOf, Cond.instanceMethod yX1_taxOf, Cond.selects RX1 yX1_taxOf yX1_taxOf, Cond.code yX1_taxOf cX1_taxOf 8 (some .int), Cond.fieldLink RX1 9 "TaxEqualiser$Land" "lower" "I", Cond.methodLink RX1 28 Lib.Math.min.name, Cond.static Lib.Math.min.name, Cond.initialized "java/lang/Math", Cond.code Lib.Math.min.name Lib.Math.min.code 2 (some .int), Cond.fieldLink RX1 16 "TaxEqualiser$Land" "upper" "I", Cond.methodLink RX1 34 Lib.Math.max.name, Cond.static Lib.Math.max.name, Cond.code Lib.Math.max.name Lib.Math.max.code 2 (some .int), Cond.fieldLink RX1 19 "TaxEqualiser$Land" "first" "I", Cond.fieldLink RX1 22 "TaxEqualiser$Land" "second" "I", Cond.fieldLink RX1 25 "TaxEqualiser$Land" "third" "I", Cond.constantLong RX1 37 (100)]
def wsL_grossTaxByTrying : List Cond := .codeWith yL_grossTaxByTrying cL_grossTaxByTrying 5 (some .int) [(0, 10, 13, 13)] :: ((wsL_grossTaxByTrying_r1 ++ (wsL_grossTaxByTrying_r2 ++ wsL_grossTaxByTrying_r3)) ++ wsX30 ++ wsJx4a65c0 ++ wsX10 ++ (vx_atS RX3 59 "java/lang/IllegalArgumentException" ["java/lang/RuntimeException", "java/lang/Exception"]).filter goodWord)
def wsL_add_r1 : List Cond := [Cond.classLink RL 13 "java/lang/IllegalArgumentException", Cond.classLink RL 33 "java/lang/IllegalStateException", Cond.methodLink RL 29 yX3_add, Cond.instanceMethod yX3_add, Cond.selects RX3 yX3_add yX3_add, Cond.initialized RX3, Cond.code yX3_add cX3_add 6 (some .int), Cond.classLink RX3 55 "java/lang/IllegalArgumentException", Cond.initialized "java/lang/IllegalArgumentException", Cond.classLink RX3 67 "java/lang/IllegalStateException", Cond.initialized "java/lang/IllegalStateException", Cond.constant RX3 62 (100000), Cond.fieldLink RX3 16 "TaxEqualiser" "staff" "Ljava/util/List;", Cond.classLink RX3 72 RX2, Cond.instantiable RX2 8, Cond.initialized RX2, Cond.methodLink RX3 28 yX3_landAt, Cond.instanceMethod yX3_landAt, Cond.selects RX3 yX3_landAt yX3_landAt, Cond.code yX3_landAt cX3_landAt 2 (some (.object "TaxEqualiser$Land")), Cond.fieldLink RX3 10 "TaxEqualiser" "lands" "Ljava/util/List;", Cond.classLink RX3 19 "TaxEqualiser$Land", Cond.methodLink RX3 63 ⟨"java/util/List", "size", "()I"⟩, Cond.selects RJx4a65c ⟨"java/util/List", "size", "()I"⟩ yJx4a65c_size_8abf5]
def wsL_add_r2 : List Cond := [Cond.instanceMethod yJx4a65c_size_8abf5, Cond.initialized RJx4a65c, Cond.code yJx4a65c_size_8abf5 cJx4a65c_size_8abf5 1 (some .int), Cond.fieldLink RJx4a65c 48 "java/util/ArrayList" "size" "I", Cond.methodLink RX3 119 ⟨"java/util/List", "get", "(I)Ljava/lang/Object;"⟩, Cond.selects RJx4a65c ⟨"java/util/List", "get", "(I)Ljava/lang/Object;"⟩ yJx4a65c_get_915e3, Cond.instanceMethod yJx4a65c_get_915e3, Cond.code yJx4a65c_get_915e3 cJx4a65c_get_915e3 2 (some (.object "java/lang/Object")), Cond.methodLink RJx4a65c 118 yJ15_checkIndex_7cf53, Cond.static yJ15_checkIndex_7cf53, Cond.initialized RJ15, Cond.code yJ15_checkIndex_7cf53 cJ15_checkIndex_7cf53 2 (some .int), Cond.methodLink RJ15 105 yJ3_checkIndex_8e157, Cond.static yJ3_checkIndex_8e157, Cond.initialized RJ3, Cond.code yJ3_checkIndex_8e157 cJ3_checkIndex_8e157 3 (some .int), Cond.methodLink RJx4a65c 123 yJx4a65c_elementData_915e3, Cond.instanceMethod yJx4a65c_elementData_915e3, Cond.selects RJx4a65c yJx4a65c_elementData_915e3 yJx4a65c_elementData_915e3, Cond.code yJx4a65c_elementData_915e3 cJx4a65c_elementData_915e3 2 (some (.object "java/lang/Object")), Cond.fieldLink RJx4a65c 9 "java/util/ArrayList" "elementData" "[Ljava/lang/Object;", Cond.methodLink RX3 33 yX3_requireRange, Cond.static yX3_requireRange, Cond.code yX3_requireRange cX3_requireRange 3 none]
def wsL_add_r3 : List Cond := [Cond.methodLink RX3 74 yX2_init, Cond.instanceMethod yX2_init, Cond.code yX2_init cX2_init 4 none, Cond.methodLink RX2 3 objectInit, Cond.instanceMethod objectInit, Cond.code objectInit ⟨#[0xb1]⟩ 1 none, Cond.classLink RX2 9 RJx4a65c, Cond.instantiable RJx4a65c 3, Cond.fieldLink RX2 12 "TaxEqualiser$Person" "bonuses" "Ljava/util/List;", Cond.fieldLink RX2 18 "TaxEqualiser$Person" "abroadFrom" "I", Cond.fieldLink RX2 22 "TaxEqualiser$Person" "abroadTo" "I", Cond.fieldLink RX2 25 "TaxEqualiser$Person" "rent" "I", Cond.fieldLink RX2 28 "TaxEqualiser$Person" "norm" "I", Cond.fieldLink RX2 31 "TaxEqualiser$Person" "home" "LTaxEqualiser$Land;", Cond.fieldLink RX2 35 "TaxEqualiser$Person" "host" "LTaxEqualiser$Land;", Cond.fieldLink RX2 38 "TaxEqualiser$Person" "pay" "I", Cond.methodLink RX2 11 yJx4a65c_init_da8c8, Cond.instanceMethod yJx4a65c_init_da8c8, Cond.code yJx4a65c_init_da8c8 cJx4a65c_init_da8c8 1 none, Cond.fieldLink RJx4a65c 39 "java/util/ArrayList" "DEFAULTCAPACITY_EMPTY_ELEMENTDATA" "[Ljava/lang/Object;", Cond.methodLink RJx4a65c 1 yJxc12de_init_da8c8, Cond.instanceMethod yJxc12de_init_da8c8, Cond.initialized RJxc12de, Cond.code yJxc12de_init_da8c8 cJxc12de_init_da8c8 1 none]
def wsL_add_r4 : List Cond := [Cond.fieldLink RJxc12de 7 "java/util/AbstractList" "modCount" "I", Cond.methodLink RJxc12de 1 yJxa1e45_init_da8c8, Cond.instanceMethod yJxa1e45_init_da8c8, Cond.initialized RJxa1e45, Cond.code yJxa1e45_init_da8c8 cJxa1e45_init_da8c8 1 none, Cond.methodLink RJxa1e45 1 objectInit, Cond.methodLink RX3 22 ⟨"java/util/List", "add", "(Ljava/lang/Object;)Z"⟩, Cond.selects RJx4a65c ⟨"java/util/List", "add", "(Ljava/lang/Object;)Z"⟩ yJx4a65c_add_9ea2d, Cond.instanceMethod yJx4a65c_add_9ea2d, Cond.code yJx4a65c_add_9ea2d cJx4a65c_add_9ea2d 2 (some .boolean), Cond.fieldLink RJx4a65c 63 "java/util/ArrayList" "modCount" "I", Cond.sameField "java/util/ArrayList" "java/util/AbstractList" "modCount" "I", Cond.methodLink RJx4a65c 131 yJx4a65c_add_72be8, Cond.instanceMethod yJx4a65c_add_72be8, Cond.selects RJx4a65c yJx4a65c_add_72be8 yJx4a65c_add_72be8, Cond.code yJx4a65c_add_72be8 cJx4a65c_add_72be8 4 none, Cond.methodLink RJx4a65c 129 yJx4a65c_grow_d5877, Cond.instanceMethod yJx4a65c_grow_d5877, Cond.selects RJx4a65c yJx4a65c_grow_d5877 yJx4a65c_grow_d5877, Cond.code yJx4a65c_grow_d5877 cJx4a65c_grow_d5877 1 (some (.array (.object "java/lang/Object"))), Cond.methodLink RJx4a65c 69 yJx4a65c_grow_92f84, Cond.instanceMethod yJx4a65c_grow_92f84, Cond.selects RJx4a65c yJx4a65c_grow_92f84 yJx4a65c_grow_92f84, Cond.code yJx4a65c_grow_92f84 cJx4a65c_grow_92f84 4 (some (.array (.object "java/lang/Object")))]
def wsL_add_r5 : List Cond := [Cond.methodLink RJx4a65c 79 Lib.Math.max.name, Cond.static Lib.Math.max.name, Cond.initialized "java/lang/Math", Cond.code Lib.Math.max.name Lib.Math.max.code 2 (some .int), Cond.classLink RJx4a65c 7 "java/lang/Object", Cond.methodLink RJx4a65c 73 yJ8_newLength_cabcc, Cond.static yJ8_newLength_cabcc, Cond.initialized RJ8, Cond.code yJ8_newLength_cabcc cJ8_newLength_cabcc 4 (some .int), Cond.methodLink RJ8 194 Lib.Math.max.name, Cond.constant RJ8 200 (2147483639), Cond.methodLink RJ8 201 yJ8_hugeLength_7cf53, Cond.static yJ8_hugeLength_7cf53, Cond.code yJ8_hugeLength_7cf53 cJ8_hugeLength_7cf53 3 (some .int), Cond.methodLink RJx4a65c 66 yJ7_copyOf_1904c, Cond.static yJ7_copyOf_1904c, Cond.initialized RJ7, Cond.code yJ7_copyOf_1904c cJ7_copyOf_1904c 2 (some (.array (.object "java/lang/Object"))), Cond.methodLink RJ7 86 ⟨"java/lang/Object", "getClass", "()Ljava/lang/Class;"⟩, Cond.selects "[Ljava/lang/Object;" ⟨"java/lang/Object", "getClass", "()Ljava/lang/Class;"⟩ ⟨"java/lang/Object", "getClass", "()Ljava/lang/Class;"⟩, Cond.instanceMethod ⟨"java/lang/Object", "getClass", "()Ljava/lang/Class;"⟩, Cond.native ⟨"java/lang/Object", "getClass", "()Ljava/lang/Class;"⟩, Cond.methodLink RJ7 300 yJ7_copyOf_6403c, Cond.static yJ7_copyOf_6403c]
def wsL_add_r6 : List Cond := [Cond.code yJ7_copyOf_6403c cJ7_copyOf_6403c 4 (some (.array (.object "java/lang/Object"))), Cond.classLink RJ7 110 "[Ljava/lang/Object;", Cond.classLink RJ7 2 "java/lang/Object", Cond.methodLink RJ7 304 Lib.Math.min.name, Cond.static Lib.Math.min.name, Cond.code Lib.Math.min.name Lib.Math.min.code 2 (some .int), Cond.methodLink RJ7 150 arraycopyName, Cond.native arraycopyName, Cond.static arraycopyName, Cond.initialized "java/lang/System"]
def wsL_add : List Cond := .codeWith yL_add cL_add 6 (some .int) [(0, 12, 15, 13), (0, 12, 19, 33)] :: ((wsL_add_r1 ++ (wsL_add_r2 ++ (wsL_add_r3 ++ (wsL_add_r4 ++ (wsL_add_r5 ++ wsL_add_r6))))) ++ wsX30 ++ wsX20 ++ wsJx4a65c0 ++ (vx_atS RX3 59 "java/lang/IllegalArgumentException" ["java/lang/RuntimeException", "java/lang/Exception"]).filter goodWord ++ (vx_atS RX3 71 "java/lang/IllegalStateException" ["java/lang/RuntimeException", "java/lang/Exception"]).filter goodWord)
def wsL_setAbroad_r1 : List Cond := [Cond.classLink RL 38 "java/lang/IndexOutOfBoundsException", Cond.classLink RL 13 "java/lang/IllegalArgumentException", Cond.methodLink RL 35 yX3_setAbroad, Cond.instanceMethod yX3_setAbroad, Cond.selects RX3 yX3_setAbroad yX3_setAbroad, Cond.initialized RX3, Cond.code yX3_setAbroad cX3_setAbroad 6 (some .int), Cond.methodLink RX3 77 yX3_personAt, Cond.instanceMethod yX3_personAt, Cond.selects RX3 yX3_personAt yX3_personAt, Cond.code yX3_personAt cX3_personAt 2 (some (.object "TaxEqualiser$Person")), Cond.classLink RX3 114 "java/lang/IndexOutOfBoundsException", Cond.initialized "java/lang/IndexOutOfBoundsException", Cond.fieldLink RX3 16 "TaxEqualiser" "staff" "Ljava/util/List;", Cond.classLink RX3 72 "TaxEqualiser$Person", Cond.methodLink RX3 63 ⟨"java/util/List", "size", "()I"⟩, Cond.selects RJx4a65c ⟨"java/util/List", "size", "()I"⟩ yJx4a65c_size_8abf5, Cond.instanceMethod yJx4a65c_size_8abf5, Cond.initialized RJx4a65c, Cond.code yJx4a65c_size_8abf5 cJx4a65c_size_8abf5 1 (some .int), Cond.fieldLink RJx4a65c 48 "java/util/ArrayList" "size" "I", Cond.methodLink RX3 119 ⟨"java/util/List", "get", "(I)Ljava/lang/Object;"⟩, Cond.selects RJx4a65c ⟨"java/util/List", "get", "(I)Ljava/lang/Object;"⟩ yJx4a65c_get_915e3, Cond.instanceMethod yJx4a65c_get_915e3]
def wsL_setAbroad_r2 : List Cond := [Cond.code yJx4a65c_get_915e3 cJx4a65c_get_915e3 2 (some (.object "java/lang/Object")), Cond.methodLink RJx4a65c 118 yJ15_checkIndex_7cf53, Cond.static yJ15_checkIndex_7cf53, Cond.initialized RJ15, Cond.code yJ15_checkIndex_7cf53 cJ15_checkIndex_7cf53 2 (some .int), Cond.methodLink RJ15 105 yJ3_checkIndex_8e157, Cond.static yJ3_checkIndex_8e157, Cond.initialized RJ3, Cond.code yJ3_checkIndex_8e157 cJ3_checkIndex_8e157 3 (some .int), Cond.methodLink RJx4a65c 123 yJx4a65c_elementData_915e3, Cond.instanceMethod yJx4a65c_elementData_915e3, Cond.selects RJx4a65c yJx4a65c_elementData_915e3 yJx4a65c_elementData_915e3, Cond.code yJx4a65c_elementData_915e3 cJx4a65c_elementData_915e3 2 (some (.object "java/lang/Object")), Cond.fieldLink RJx4a65c 9 "java/util/ArrayList" "elementData" "[Ljava/lang/Object;", Cond.methodLink RX3 33 yX3_requireRange, Cond.static yX3_requireRange, Cond.code yX3_requireRange cX3_requireRange 3 none, Cond.classLink RX3 55 "java/lang/IllegalArgumentException", Cond.initialized "java/lang/IllegalArgumentException", Cond.methodLink RX3 81 yX2_monthsAbroad, Cond.instanceMethod yX2_monthsAbroad, Cond.selects RX2 yX2_monthsAbroad yX2_monthsAbroad, Cond.initialized RX2, Cond.code yX2_monthsAbroad cX2_monthsAbroad 1 (some .int)]
def wsL_setAbroad_r3 : List Cond := [Cond.fieldLink RX2 22 "TaxEqualiser$Person" "abroadTo" "I", Cond.fieldLink RX2 18 "TaxEqualiser$Person" "abroadFrom" "I"]
def wsL_setAbroad : List Cond := .codeWith yL_setAbroad cL_setAbroad 6 (some .int) [(0, 12, 15, 38), (0, 12, 19, 13)] :: ((wsL_setAbroad_r1 ++ (wsL_setAbroad_r2 ++ wsL_setAbroad_r3)) ++ wsX20 ++ wsX30 ++ wsJx4a65c0 ++ (vx_atS RX3 118 "java/lang/IndexOutOfBoundsException" ["java/lang/RuntimeException", "java/lang/Exception"]).filter goodWord ++ (vx_atS RX3 59 "java/lang/IllegalArgumentException" ["java/lang/RuntimeException", "java/lang/Exception"]).filter goodWord)
def wsL_setPay_r1 : List Cond := [Cond.classLink RL 38 "java/lang/IndexOutOfBoundsException", Cond.classLink RL 13 "java/lang/IllegalArgumentException", Cond.methodLink RL 40 yX3_setPay, Cond.instanceMethod yX3_setPay, Cond.selects RX3 yX3_setPay yX3_setPay, Cond.initialized RX3, Cond.code yX3_setPay cX3_setPay 5 (some .int), Cond.constant RX3 62 (100000), Cond.methodLink RX3 77 yX3_personAt, Cond.instanceMethod yX3_personAt, Cond.selects RX3 yX3_personAt yX3_personAt, Cond.code yX3_personAt cX3_personAt 2 (some (.object "TaxEqualiser$Person")), Cond.classLink RX3 114 "java/lang/IndexOutOfBoundsException", Cond.initialized "java/lang/IndexOutOfBoundsException", Cond.fieldLink RX3 16 "TaxEqualiser" "staff" "Ljava/util/List;", Cond.classLink RX3 72 "TaxEqualiser$Person", Cond.methodLink RX3 63 ⟨"java/util/List", "size", "()I"⟩, Cond.selects RJx4a65c ⟨"java/util/List", "size", "()I"⟩ yJx4a65c_size_8abf5, Cond.instanceMethod yJx4a65c_size_8abf5, Cond.initialized RJx4a65c, Cond.code yJx4a65c_size_8abf5 cJx4a65c_size_8abf5 1 (some .int), Cond.fieldLink RJx4a65c 48 "java/util/ArrayList" "size" "I", Cond.methodLink RX3 119 ⟨"java/util/List", "get", "(I)Ljava/lang/Object;"⟩, Cond.selects RJx4a65c ⟨"java/util/List", "get", "(I)Ljava/lang/Object;"⟩ yJx4a65c_get_915e3]
def wsL_setPay_r2 : List Cond := [Cond.instanceMethod yJx4a65c_get_915e3, Cond.code yJx4a65c_get_915e3 cJx4a65c_get_915e3 2 (some (.object "java/lang/Object")), Cond.methodLink RJx4a65c 118 yJ15_checkIndex_7cf53, Cond.static yJ15_checkIndex_7cf53, Cond.initialized RJ15, Cond.code yJ15_checkIndex_7cf53 cJ15_checkIndex_7cf53 2 (some .int), Cond.methodLink RJ15 105 yJ3_checkIndex_8e157, Cond.static yJ3_checkIndex_8e157, Cond.initialized RJ3, Cond.code yJ3_checkIndex_8e157 cJ3_checkIndex_8e157 3 (some .int), Cond.methodLink RJx4a65c 123 yJx4a65c_elementData_915e3, Cond.instanceMethod yJx4a65c_elementData_915e3, Cond.selects RJx4a65c yJx4a65c_elementData_915e3 yJx4a65c_elementData_915e3, Cond.code yJx4a65c_elementData_915e3 cJx4a65c_elementData_915e3 2 (some (.object "java/lang/Object")), Cond.fieldLink RJx4a65c 9 "java/util/ArrayList" "elementData" "[Ljava/lang/Object;", Cond.methodLink RX3 33 yX3_requireRange, Cond.static yX3_requireRange, Cond.code yX3_requireRange cX3_requireRange 3 none, Cond.classLink RX3 55 "java/lang/IllegalArgumentException", Cond.initialized "java/lang/IllegalArgumentException"]
def wsL_setPay : List Cond := .codeWith yL_setPay cL_setPay 5 (some .int) [(0, 10, 13, 38), (0, 10, 17, 13)] :: ((wsL_setPay_r1 ++ wsL_setPay_r2) ++ wsX20 ++ wsX30 ++ wsJx4a65c0 ++ (vx_atS RX3 118 "java/lang/IndexOutOfBoundsException" ["java/lang/RuntimeException", "java/lang/Exception"]).filter goodWord ++ (vx_atS RX3 59 "java/lang/IllegalArgumentException" ["java/lang/RuntimeException", "java/lang/Exception"]).filter goodWord)
def wsL_setHousing_r1 : List Cond := [Cond.classLink RL 38 "java/lang/IndexOutOfBoundsException", Cond.classLink RL 13 "java/lang/IllegalArgumentException", Cond.methodLink RL 43 yX3_setHousing, Cond.instanceMethod yX3_setHousing, Cond.selects RX3 yX3_setHousing yX3_setHousing, Cond.initialized RX3, Cond.code yX3_setHousing cX3_setHousing 5 (some .int), Cond.constant RX3 94 (50000), Cond.methodLink RX3 77 yX3_personAt, Cond.instanceMethod yX3_personAt, Cond.selects RX3 yX3_personAt yX3_personAt, Cond.code yX3_personAt cX3_personAt 2 (some (.object "TaxEqualiser$Person")), Cond.classLink RX3 114 "java/lang/IndexOutOfBoundsException", Cond.initialized "java/lang/IndexOutOfBoundsException", Cond.fieldLink RX3 16 "TaxEqualiser" "staff" "Ljava/util/List;", Cond.classLink RX3 72 "TaxEqualiser$Person", Cond.methodLink RX3 63 ⟨"java/util/List", "size", "()I"⟩, Cond.selects RJx4a65c ⟨"java/util/List", "size", "()I"⟩ yJx4a65c_size_8abf5, Cond.instanceMethod yJx4a65c_size_8abf5, Cond.initialized RJx4a65c, Cond.code yJx4a65c_size_8abf5 cJx4a65c_size_8abf5 1 (some .int), Cond.fieldLink RJx4a65c 48 "java/util/ArrayList" "size" "I", Cond.methodLink RX3 119 ⟨"java/util/List", "get", "(I)Ljava/lang/Object;"⟩, Cond.selects RJx4a65c ⟨"java/util/List", "get", "(I)Ljava/lang/Object;"⟩ yJx4a65c_get_915e3]
def wsL_setHousing_r2 : List Cond := [Cond.instanceMethod yJx4a65c_get_915e3, Cond.code yJx4a65c_get_915e3 cJx4a65c_get_915e3 2 (some (.object "java/lang/Object")), Cond.methodLink RJx4a65c 118 yJ15_checkIndex_7cf53, Cond.static yJ15_checkIndex_7cf53, Cond.initialized RJ15, Cond.code yJ15_checkIndex_7cf53 cJ15_checkIndex_7cf53 2 (some .int), Cond.methodLink RJ15 105 yJ3_checkIndex_8e157, Cond.static yJ3_checkIndex_8e157, Cond.initialized RJ3, Cond.code yJ3_checkIndex_8e157 cJ3_checkIndex_8e157 3 (some .int), Cond.methodLink RJx4a65c 123 yJx4a65c_elementData_915e3, Cond.instanceMethod yJx4a65c_elementData_915e3, Cond.selects RJx4a65c yJx4a65c_elementData_915e3 yJx4a65c_elementData_915e3, Cond.code yJx4a65c_elementData_915e3 cJx4a65c_elementData_915e3 2 (some (.object "java/lang/Object")), Cond.fieldLink RJx4a65c 9 "java/util/ArrayList" "elementData" "[Ljava/lang/Object;", Cond.methodLink RX3 33 yX3_requireRange, Cond.static yX3_requireRange, Cond.code yX3_requireRange cX3_requireRange 3 none, Cond.classLink RX3 55 "java/lang/IllegalArgumentException", Cond.initialized "java/lang/IllegalArgumentException", Cond.methodLink RX3 101 yX2_ownShare, Cond.instanceMethod yX2_ownShare, Cond.selects RX2 yX2_ownShare yX2_ownShare, Cond.initialized RX2]
def wsL_setHousing_r3 : List Cond := [Cond.code yX2_ownShare cX2_ownShare 1 (some .int), Cond.fieldLink RX2 25 "TaxEqualiser$Person" "rent" "I", Cond.fieldLink RX2 38 "TaxEqualiser$Person" "pay" "I", Cond.fieldLink RX2 28 "TaxEqualiser$Person" "norm" "I", Cond.methodLink RX2 41 Lib.Math.min.name, Cond.static Lib.Math.min.name, Cond.initialized "java/lang/Math", Cond.code Lib.Math.min.name Lib.Math.min.code 2 (some .int)]
def wsL_setHousing : List Cond := .codeWith yL_setHousing cL_setHousing 6 (some .int) [(0, 12, 15, 38), (0, 12, 19, 13)] :: ((wsL_setHousing_r1 ++ (wsL_setHousing_r2 ++ wsL_setHousing_r3)) ++ wsX20 ++ wsX30 ++ wsJx4a65c0 ++ (vx_atS RX3 118 "java/lang/IndexOutOfBoundsException" ["java/lang/RuntimeException", "java/lang/Exception"]).filter goodWord ++ (vx_atS RX3 59 "java/lang/IllegalArgumentException" ["java/lang/RuntimeException", "java/lang/Exception"]).filter goodWord)
def wsL_addBonus_r1 : List Cond := [Cond.classLink RL 38 "java/lang/IndexOutOfBoundsException", Cond.classLink RL 13 "java/lang/IllegalArgumentException", Cond.classLink RL 33 "java/lang/IllegalStateException", Cond.methodLink RL 46 yX3_addBonus, Cond.instanceMethod yX3_addBonus, Cond.selects RX3 yX3_addBonus yX3_addBonus, Cond.initialized RX3, Cond.code yX3_addBonus cX3_addBonus 6 (some .int), Cond.classLink RX3 67 "java/lang/IllegalStateException", Cond.initialized "java/lang/IllegalStateException", Cond.constant RX3 104 (500000), Cond.classLink RX3 110 RX0, Cond.instantiable RX0 3, Cond.initialized RX0, Cond.methodLink RX3 77 yX3_personAt, Cond.instanceMethod yX3_personAt, Cond.selects RX3 yX3_personAt yX3_personAt, Cond.code yX3_personAt cX3_personAt 2 (some (.object "TaxEqualiser$Person")), Cond.classLink RX3 114 "java/lang/IndexOutOfBoundsException", Cond.initialized "java/lang/IndexOutOfBoundsException", Cond.fieldLink RX3 16 "TaxEqualiser" "staff" "Ljava/util/List;", Cond.classLink RX3 72 "TaxEqualiser$Person", Cond.methodLink RX3 63 ⟨"java/util/List", "size", "()I"⟩, Cond.selects RJx4a65c ⟨"java/util/List", "size", "()I"⟩ yJx4a65c_size_8abf5]
def wsL_addBonus_r2 : List Cond := [Cond.instanceMethod yJx4a65c_size_8abf5, Cond.initialized RJx4a65c, Cond.code yJx4a65c_size_8abf5 cJx4a65c_size_8abf5 1 (some .int), Cond.fieldLink RJx4a65c 48 "java/util/ArrayList" "size" "I", Cond.methodLink RX3 119 ⟨"java/util/List", "get", "(I)Ljava/lang/Object;"⟩, Cond.selects RJx4a65c ⟨"java/util/List", "get", "(I)Ljava/lang/Object;"⟩ yJx4a65c_get_915e3, Cond.instanceMethod yJx4a65c_get_915e3, Cond.code yJx4a65c_get_915e3 cJx4a65c_get_915e3 2 (some (.object "java/lang/Object")), Cond.methodLink RJx4a65c 118 yJ15_checkIndex_7cf53, Cond.static yJ15_checkIndex_7cf53, Cond.initialized RJ15, Cond.code yJ15_checkIndex_7cf53 cJ15_checkIndex_7cf53 2 (some .int), Cond.methodLink RJ15 105 yJ3_checkIndex_8e157, Cond.static yJ3_checkIndex_8e157, Cond.initialized RJ3, Cond.code yJ3_checkIndex_8e157 cJ3_checkIndex_8e157 3 (some .int), Cond.methodLink RJx4a65c 123 yJx4a65c_elementData_915e3, Cond.instanceMethod yJx4a65c_elementData_915e3, Cond.selects RJx4a65c yJx4a65c_elementData_915e3 yJx4a65c_elementData_915e3, Cond.code yJx4a65c_elementData_915e3 cJx4a65c_elementData_915e3 2 (some (.object "java/lang/Object")), Cond.fieldLink RJx4a65c 9 "java/util/ArrayList" "elementData" "[Ljava/lang/Object;", Cond.methodLink RX3 33 yX3_requireRange, Cond.static yX3_requireRange, Cond.code yX3_requireRange cX3_requireRange 3 none]
def wsL_addBonus_r3 : List Cond := [Cond.classLink RX3 55 "java/lang/IllegalArgumentException", Cond.initialized "java/lang/IllegalArgumentException", Cond.methodLink RX3 112 yX0_init, Cond.instanceMethod yX0_init, Cond.code yX0_init cX0_init 4 none, Cond.methodLink RX0 1 objectInit, Cond.instanceMethod objectInit, Cond.code objectInit ⟨#[0xb1]⟩ 1 none, Cond.fieldLink RX0 7 "TaxEqualiser$Bonus" "coins" "I", Cond.fieldLink RX0 13 "TaxEqualiser$Bonus" "from" "I", Cond.fieldLink RX0 16 "TaxEqualiser$Bonus" "to" "I", Cond.methodLink RX3 22 ⟨"java/util/List", "add", "(Ljava/lang/Object;)Z"⟩, Cond.selects RJx4a65c ⟨"java/util/List", "add", "(Ljava/lang/Object;)Z"⟩ yJx4a65c_add_9ea2d, Cond.instanceMethod yJx4a65c_add_9ea2d, Cond.code yJx4a65c_add_9ea2d cJx4a65c_add_9ea2d 2 (some .boolean), Cond.fieldLink RJx4a65c 63 "java/util/ArrayList" "modCount" "I", Cond.sameField "java/util/ArrayList" "java/util/AbstractList" "modCount" "I", Cond.methodLink RJx4a65c 131 yJx4a65c_add_72be8, Cond.instanceMethod yJx4a65c_add_72be8, Cond.selects RJx4a65c yJx4a65c_add_72be8 yJx4a65c_add_72be8, Cond.code yJx4a65c_add_72be8 cJx4a65c_add_72be8 4 none, Cond.methodLink RJx4a65c 129 yJx4a65c_grow_d5877, Cond.instanceMethod yJx4a65c_grow_d5877, Cond.selects RJx4a65c yJx4a65c_grow_d5877 yJx4a65c_grow_d5877]
def wsL_addBonus_r4 : List Cond := [Cond.code yJx4a65c_grow_d5877 cJx4a65c_grow_d5877 1 (some (.array (.object "java/lang/Object"))), Cond.methodLink RJx4a65c 69 yJx4a65c_grow_92f84, Cond.instanceMethod yJx4a65c_grow_92f84, Cond.selects RJx4a65c yJx4a65c_grow_92f84 yJx4a65c_grow_92f84, Cond.code yJx4a65c_grow_92f84 cJx4a65c_grow_92f84 4 (some (.array (.object "java/lang/Object"))), Cond.fieldLink RJx4a65c 39 "java/util/ArrayList" "DEFAULTCAPACITY_EMPTY_ELEMENTDATA" "[Ljava/lang/Object;", Cond.methodLink RJx4a65c 79 Lib.Math.max.name, Cond.static Lib.Math.max.name, Cond.initialized "java/lang/Math", Cond.code Lib.Math.max.name Lib.Math.max.code 2 (some .int), Cond.classLink RJx4a65c 7 "java/lang/Object", Cond.methodLink RJx4a65c 73 yJ8_newLength_cabcc, Cond.static yJ8_newLength_cabcc, Cond.initialized RJ8, Cond.code yJ8_newLength_cabcc cJ8_newLength_cabcc 4 (some .int), Cond.methodLink RJ8 194 Lib.Math.max.name, Cond.constant RJ8 200 (2147483639), Cond.methodLink RJ8 201 yJ8_hugeLength_7cf53, Cond.static yJ8_hugeLength_7cf53, Cond.code yJ8_hugeLength_7cf53 cJ8_hugeLength_7cf53 3 (some .int), Cond.methodLink RJx4a65c 66 yJ7_copyOf_1904c, Cond.static yJ7_copyOf_1904c, Cond.initialized RJ7, Cond.code yJ7_copyOf_1904c cJ7_copyOf_1904c 2 (some (.array (.object "java/lang/Object")))]
def wsL_addBonus_r5 : List Cond := [Cond.methodLink RJ7 86 ⟨"java/lang/Object", "getClass", "()Ljava/lang/Class;"⟩, Cond.selects "[Ljava/lang/Object;" ⟨"java/lang/Object", "getClass", "()Ljava/lang/Class;"⟩ ⟨"java/lang/Object", "getClass", "()Ljava/lang/Class;"⟩, Cond.instanceMethod ⟨"java/lang/Object", "getClass", "()Ljava/lang/Class;"⟩, Cond.native ⟨"java/lang/Object", "getClass", "()Ljava/lang/Class;"⟩, Cond.methodLink RJ7 300 yJ7_copyOf_6403c, Cond.static yJ7_copyOf_6403c, Cond.code yJ7_copyOf_6403c cJ7_copyOf_6403c 4 (some (.array (.object "java/lang/Object"))), Cond.classLink RJ7 110 "[Ljava/lang/Object;", Cond.classLink RJ7 2 "java/lang/Object", Cond.methodLink RJ7 304 Lib.Math.min.name, Cond.static Lib.Math.min.name, Cond.code Lib.Math.min.name Lib.Math.min.code 2 (some .int), Cond.methodLink RJ7 150 arraycopyName, Cond.native arraycopyName, Cond.static arraycopyName, Cond.initialized "java/lang/System"]
def wsL_addBonus : List Cond := .codeWith yL_addBonus cL_addBonus 7 (some .int) [(0, 14, 17, 38), (0, 14, 21, 13), (0, 14, 25, 33)] :: ((wsL_addBonus_r1 ++ (wsL_addBonus_r2 ++ (wsL_addBonus_r3 ++ (wsL_addBonus_r4 ++ wsL_addBonus_r5)))) ++ wsX20 ++ wsX00 ++ wsX30 ++ wsJx4a65c0 ++ (vx_atS RX3 71 "java/lang/IllegalStateException" ["java/lang/RuntimeException", "java/lang/Exception"]).filter goodWord ++ (vx_atS RX3 118 "java/lang/IndexOutOfBoundsException" ["java/lang/RuntimeException", "java/lang/Exception"]).filter goodWord ++ (vx_atS RX3 59 "java/lang/IllegalArgumentException" ["java/lang/RuntimeException", "java/lang/Exception"]).filter goodWord)
def wsL_abroadPart_r1 : List Cond := [Cond.classLink RL 38 "java/lang/IndexOutOfBoundsException", Cond.methodLink RL 50 yX3_abroadPart, Cond.instanceMethod yX3_abroadPart, Cond.selects RX3 yX3_abroadPart yX3_abroadPart, Cond.initialized RX3, Cond.code yX3_abroadPart cX3_abroadPart 4 (some .int), Cond.classLink RX3 114 "java/lang/IndexOutOfBoundsException", Cond.initialized "java/lang/IndexOutOfBoundsException", Cond.classLink RX3 110 "TaxEqualiser$Bonus", Cond.methodLink RX3 77 yX3_personAt, Cond.instanceMethod yX3_personAt, Cond.selects RX3 yX3_personAt yX3_personAt, Cond.code yX3_personAt cX3_personAt 2 (some (.object "TaxEqualiser$Person")), Cond.fieldLink RX3 16 "TaxEqualiser" "staff" "Ljava/util/List;", Cond.classLink RX3 72 "TaxEqualiser$Person", Cond.methodLink RX3 63 ⟨"java/util/List", "size", "()I"⟩, Cond.selects RJx4a65c ⟨"java/util/List", "size", "()I"⟩ yJx4a65c_size_8abf5, Cond.instanceMethod yJx4a65c_size_8abf5, Cond.initialized RJx4a65c, Cond.code yJx4a65c_size_8abf5 cJx4a65c_size_8abf5 1 (some .int), Cond.fieldLink RJx4a65c 48 "java/util/ArrayList" "size" "I", Cond.methodLink RX3 119 ⟨"java/util/List", "get", "(I)Ljava/lang/Object;"⟩, Cond.selects RJx4a65c ⟨"java/util/List", "get", "(I)Ljava/lang/Object;"⟩ yJx4a65c_get_915e3, Cond.instanceMethod yJx4a65c_get_915e3]
def wsL_abroadPart_r2 : List Cond := [Cond.code yJx4a65c_get_915e3 cJx4a65c_get_915e3 2 (some (.object "java/lang/Object")), Cond.methodLink RJx4a65c 118 yJ15_checkIndex_7cf53, Cond.static yJ15_checkIndex_7cf53, Cond.initialized RJ15, Cond.code yJ15_checkIndex_7cf53 cJ15_checkIndex_7cf53 2 (some .int), Cond.methodLink RJ15 105 yJ3_checkIndex_8e157, Cond.static yJ3_checkIndex_8e157, Cond.initialized RJ3, Cond.code yJ3_checkIndex_8e157 cJ3_checkIndex_8e157 3 (some .int), Cond.methodLink RJx4a65c 123 yJx4a65c_elementData_915e3, Cond.instanceMethod yJx4a65c_elementData_915e3, Cond.selects RJx4a65c yJx4a65c_elementData_915e3 yJx4a65c_elementData_915e3, Cond.code yJx4a65c_elementData_915e3 cJx4a65c_elementData_915e3 2 (some (.object "java/lang/Object")), Cond.fieldLink RJx4a65c 9 "java/util/ArrayList" "elementData" "[Ljava/lang/Object;", Cond.methodLink RX3 123 yX2_partAbroad, Cond.instanceMethod yX2_partAbroad, Cond.selects RX2 yX2_partAbroad yX2_partAbroad, Cond.initialized RX2, Cond.code yX2_partAbroad cX2_partAbroad 4 (some .int), Cond.fieldLink RX2 22 "TaxEqualiser$Person" "abroadTo" "I", Cond.methodLink RX2 41 Lib.Math.min.name, Cond.static Lib.Math.min.name, Cond.initialized "java/lang/Math", Cond.code Lib.Math.min.name Lib.Math.min.code 2 (some .int)]
def wsL_abroadPart_r3 : List Cond := [Cond.fieldLink RX2 18 "TaxEqualiser$Person" "abroadFrom" "I", Cond.methodLink RX2 55 Lib.Math.max.name, Cond.static Lib.Math.max.name, Cond.code Lib.Math.max.name Lib.Math.max.code 2 (some .int)]
def wsL_abroadPart : List Cond := .codeWith yL_abroadPart cL_abroadPart 5 (some .int) [(0, 10, 13, 38)] :: ((wsL_abroadPart_r1 ++ (wsL_abroadPart_r2 ++ wsL_abroadPart_r3)) ++ wsX20 ++ wsX30 ++ wsJx4a65c0 ++ wsX00 ++ (vx_atS RX3 118 "java/lang/IndexOutOfBoundsException" ["java/lang/RuntimeException", "java/lang/Exception"]).filter goodWord)
def wsL_held_r1 : List Cond := [Cond.classLink RL 38 "java/lang/IndexOutOfBoundsException", Cond.classLink RL 13 "java/lang/IllegalArgumentException", Cond.methodLink RL 53 yX3_held, Cond.instanceMethod yX3_held, Cond.selects RX3 yX3_held yX3_held, Cond.initialized RX3, Cond.code yX3_held cX3_held 4 (some .int), Cond.methodLink RX3 77 yX3_personAt, Cond.instanceMethod yX3_personAt, Cond.selects RX3 yX3_personAt yX3_personAt, Cond.code yX3_personAt cX3_personAt 2 (some (.object "TaxEqualiser$Person")), Cond.classLink RX3 114 "java/lang/IndexOutOfBoundsException", Cond.initialized "java/lang/IndexOutOfBoundsException", Cond.fieldLink RX3 16 "TaxEqualiser" "staff" "Ljava/util/List;", Cond.classLink RX3 72 "TaxEqualiser$Person", Cond.methodLink RX3 63 ⟨"java/util/List", "size", "()I"⟩, Cond.selects RJx4a65c ⟨"java/util/List", "size", "()I"⟩ yJx4a65c_size_8abf5, Cond.instanceMethod yJx4a65c_size_8abf5, Cond.initialized RJx4a65c, Cond.code yJx4a65c_size_8abf5 cJx4a65c_size_8abf5 1 (some .int), Cond.fieldLink RJx4a65c 48 "java/util/ArrayList" "size" "I", Cond.methodLink RX3 119 ⟨"java/util/List", "get", "(I)Ljava/lang/Object;"⟩, Cond.selects RJx4a65c ⟨"java/util/List", "get", "(I)Ljava/lang/Object;"⟩ yJx4a65c_get_915e3, Cond.instanceMethod yJx4a65c_get_915e3]
def wsL_held_r2 : List Cond := [Cond.code yJx4a65c_get_915e3 cJx4a65c_get_915e3 2 (some (.object "java/lang/Object")), Cond.methodLink RJx4a65c 118 yJ15_checkIndex_7cf53, Cond.static yJ15_checkIndex_7cf53, Cond.initialized RJ15, Cond.code yJ15_checkIndex_7cf53 cJ15_checkIndex_7cf53 2 (some .int), Cond.methodLink RJ15 105 yJ3_checkIndex_8e157, Cond.static yJ3_checkIndex_8e157, Cond.initialized RJ3, Cond.code yJ3_checkIndex_8e157 cJ3_checkIndex_8e157 3 (some .int), Cond.methodLink RJx4a65c 123 yJx4a65c_elementData_915e3, Cond.instanceMethod yJx4a65c_elementData_915e3, Cond.selects RJx4a65c yJx4a65c_elementData_915e3 yJx4a65c_elementData_915e3, Cond.code yJx4a65c_elementData_915e3 cJx4a65c_elementData_915e3 2 (some (.object "java/lang/Object")), Cond.fieldLink RJx4a65c 9 "java/util/ArrayList" "elementData" "[Ljava/lang/Object;", Cond.methodLink RX3 33 yX3_requireRange, Cond.static yX3_requireRange, Cond.code yX3_requireRange cX3_requireRange 3 none, Cond.classLink RX3 55 "java/lang/IllegalArgumentException", Cond.initialized "java/lang/IllegalArgumentException", Cond.methodLink RX3 127 yX2_isAbroadIn, Cond.instanceMethod yX2_isAbroadIn, Cond.selects RX2 yX2_isAbroadIn yX2_isAbroadIn, Cond.initialized RX2, Cond.code yX2_isAbroadIn cX2_isAbroadIn 2 (some .boolean)]
def wsL_held_r3 : List Cond := [Cond.fieldLink RX2 18 "TaxEqualiser$Person" "abroadFrom" "I", Cond.fieldLink RX2 22 "TaxEqualiser$Person" "abroadTo" "I", Cond.methodLink RX3 131 yX2_heldEachMonth, Cond.instanceMethod yX2_heldEachMonth, Cond.selects RX2 yX2_heldEachMonth yX2_heldEachMonth, Cond.code yX2_heldEachMonth cX2_heldEachMonth 1 (some .int), Cond.fieldLink RX2 31 "TaxEqualiser$Person" "home" "LTaxEqualiser$Land;", Cond.fieldLink RX2 38 "TaxEqualiser$Person" "pay" "I", Cond.methodLink RX2 71 yX1_taxOf, Cond.instanceMethod yX1_taxOf, Cond.selects RX1 yX1_taxOf yX1_taxOf, Cond.initialized RX1, Cond.code yX1_taxOf cX1_taxOf 8 (some .int), Cond.fieldLink RX1 9 "TaxEqualiser$Land" "lower" "I", Cond.methodLink RX1 28 Lib.Math.min.name, Cond.static Lib.Math.min.name, Cond.initialized "java/lang/Math", Cond.code Lib.Math.min.name Lib.Math.min.code 2 (some .int), Cond.fieldLink RX1 16 "TaxEqualiser$Land" "upper" "I", Cond.methodLink RX1 34 Lib.Math.max.name, Cond.static Lib.Math.max.name, Cond.code Lib.Math.max.name Lib.Math.max.code 2 (some .int), Cond.fieldLink RX1 19 "TaxEqualiser$Land" "first" "I", Cond.fieldLink RX1 22 "TaxEqualiser$Land" "second" "I"]
def wsL_held_r4 : List Cond := [Cond.fieldLink RX1 25 "TaxEqualiser$Land" "third" "I", Cond.constantLong RX1 37 (100)]
def wsL_held : List Cond := .codeWith yL_held cL_held 5 (some .int) [(0, 10, 13, 38), (0, 10, 17, 13)] :: ((wsL_held_r1 ++ (wsL_held_r2 ++ (wsL_held_r3 ++ wsL_held_r4))) ++ wsX30 ++ wsJx4a65c0 ++ wsX20 ++ wsX10 ++ (vx_atS RX3 118 "java/lang/IndexOutOfBoundsException" ["java/lang/RuntimeException", "java/lang/Exception"]).filter goodWord ++ (vx_atS RX3 59 "java/lang/IllegalArgumentException" ["java/lang/RuntimeException", "java/lang/Exception"]).filter goodWord)
def wsL_supposedTax_r1 : List Cond := [Cond.classLink RL 38 "java/lang/IndexOutOfBoundsException", Cond.methodLink RL 56 yX3_supposedTax, Cond.instanceMethod yX3_supposedTax, Cond.selects RX3 yX3_supposedTax yX3_supposedTax, Cond.initialized RX3, Cond.code yX3_supposedTax cX3_supposedTax 2 (some .int), Cond.methodLink RX3 77 yX3_personAt, Cond.instanceMethod yX3_personAt, Cond.selects RX3 yX3_personAt yX3_personAt, Cond.code yX3_personAt cX3_personAt 2 (some (.object "TaxEqualiser$Person")), Cond.classLink RX3 114 "java/lang/IndexOutOfBoundsException", Cond.initialized "java/lang/IndexOutOfBoundsException", Cond.fieldLink RX3 16 "TaxEqualiser" "staff" "Ljava/util/List;", Cond.classLink RX3 72 "TaxEqualiser$Person", Cond.methodLink RX3 63 ⟨"java/util/List", "size", "()I"⟩, Cond.selects RJx4a65c ⟨"java/util/List", "size", "()I"⟩ yJx4a65c_size_8abf5, Cond.instanceMethod yJx4a65c_size_8abf5, Cond.initialized RJx4a65c, Cond.code yJx4a65c_size_8abf5 cJx4a65c_size_8abf5 1 (some .int), Cond.fieldLink RJx4a65c 48 "java/util/ArrayList" "size" "I", Cond.methodLink RX3 119 ⟨"java/util/List", "get", "(I)Ljava/lang/Object;"⟩, Cond.selects RJx4a65c ⟨"java/util/List", "get", "(I)Ljava/lang/Object;"⟩ yJx4a65c_get_915e3, Cond.instanceMethod yJx4a65c_get_915e3, Cond.code yJx4a65c_get_915e3 cJx4a65c_get_915e3 2 (some (.object "java/lang/Object"))]
def wsL_supposedTax_r2 : List Cond := [Cond.methodLink RJx4a65c 118 yJ15_checkIndex_7cf53, Cond.static yJ15_checkIndex_7cf53, Cond.initialized RJ15, Cond.code yJ15_checkIndex_7cf53 cJ15_checkIndex_7cf53 2 (some .int), Cond.methodLink RJ15 105 yJ3_checkIndex_8e157, Cond.static yJ3_checkIndex_8e157, Cond.initialized RJ3, Cond.code yJ3_checkIndex_8e157 cJ3_checkIndex_8e157 3 (some .int), Cond.methodLink RJx4a65c 123 yJx4a65c_elementData_915e3, Cond.instanceMethod yJx4a65c_elementData_915e3, Cond.selects RJx4a65c yJx4a65c_elementData_915e3 yJx4a65c_elementData_915e3, Cond.code yJx4a65c_elementData_915e3 cJx4a65c_elementData_915e3 2 (some (.object "java/lang/Object")), Cond.fieldLink RJx4a65c 9 "java/util/ArrayList" "elementData" "[Ljava/lang/Object;", Cond.methodLink RX3 134 yX2_supposedTaxOfYear, Cond.instanceMethod yX2_supposedTaxOfYear, Cond.selects RX2 yX2_supposedTaxOfYear yX2_supposedTaxOfYear, Cond.initialized RX2, Cond.code yX2_supposedTaxOfYear cX2_supposedTaxOfYear 1 (some .int), Cond.fieldLink RX2 31 "TaxEqualiser$Person" "home" "LTaxEqualiser$Land;", Cond.methodLink RX2 86 yX2_wholeIncome, Cond.instanceMethod yX2_wholeIncome, Cond.selects RX2 yX2_wholeIncome yX2_wholeIncome, Cond.code yX2_wholeIncome cX2_wholeIncome 3 (some .int), Cond.fieldLink RX2 38 "TaxEqualiser$Person" "pay" "I"]
def wsL_supposedTax_r3 : List Cond := [Cond.fieldLink RX2 12 "TaxEqualiser$Person" "bonuses" "Ljava/util/List;", Cond.classLink RX2 48 "TaxEqualiser$Bonus", Cond.methodLink RX2 61 ⟨"java/util/List", "size", "()I"⟩, Cond.methodLink RX2 67 ⟨"java/util/List", "get", "(I)Ljava/lang/Object;"⟩, Cond.methodLink RX2 71 yX1_taxOf, Cond.instanceMethod yX1_taxOf, Cond.selects RX1 yX1_taxOf yX1_taxOf, Cond.initialized RX1, Cond.code yX1_taxOf cX1_taxOf 8 (some .int), Cond.fieldLink RX1 9 "TaxEqualiser$Land" "lower" "I", Cond.methodLink RX1 28 Lib.Math.min.name, Cond.static Lib.Math.min.name, Cond.initialized "java/lang/Math", Cond.code Lib.Math.min.name Lib.Math.min.code 2 (some .int), Cond.fieldLink RX1 16 "TaxEqualiser$Land" "upper" "I", Cond.methodLink RX1 34 Lib.Math.max.name, Cond.static Lib.Math.max.name, Cond.code Lib.Math.max.name Lib.Math.max.code 2 (some .int), Cond.fieldLink RX1 19 "TaxEqualiser$Land" "first" "I", Cond.fieldLink RX1 22 "TaxEqualiser$Land" "second" "I", Cond.fieldLink RX1 25 "TaxEqualiser$Land" "third" "I", Cond.constantLong RX1 37 (100)]
def wsL_supposedTax : List Cond := .codeWith yL_supposedTax cL_supposedTax 4 (some .int) [(0, 9, 12, 38)] :: ((wsL_supposedTax_r1 ++ (wsL_supposedTax_r2 ++ wsL_supposedTax_r3)) ++ wsX30 ++ wsJx4a65c0 ++ wsX20 ++ wsX00 ++ wsX10 ++ (vx_atS RX3 118 "java/lang/IndexOutOfBoundsException" ["java/lang/RuntimeException", "java/lang/Exception"]).filter goodWord)
def wsL_homeIncome_r1 : List Cond := [Cond.classLink RL 38 "java/lang/IndexOutOfBoundsException", Cond.methodLink RL 60 yX3_homeIncome, Cond.instanceMethod yX3_homeIncome, Cond.selects RX3 yX3_homeIncome yX3_homeIncome, Cond.initialized RX3, Cond.code yX3_homeIncome cX3_homeIncome 2 (some .int), Cond.methodLink RX3 77 yX3_personAt, Cond.instanceMethod yX3_personAt, Cond.selects RX3 yX3_personAt yX3_personAt, Cond.code yX3_personAt cX3_personAt 2 (some (.object "TaxEqualiser$Person")), Cond.classLink RX3 114 "java/lang/IndexOutOfBoundsException", Cond.initialized "java/lang/IndexOutOfBoundsException", Cond.fieldLink RX3 16 "TaxEqualiser" "staff" "Ljava/util/List;", Cond.classLink RX3 72 "TaxEqualiser$Person", Cond.methodLink RX3 63 ⟨"java/util/List", "size", "()I"⟩, Cond.selects RJx4a65c ⟨"java/util/List", "size", "()I"⟩ yJx4a65c_size_8abf5, Cond.instanceMethod yJx4a65c_size_8abf5, Cond.initialized RJx4a65c, Cond.code yJx4a65c_size_8abf5 cJx4a65c_size_8abf5 1 (some .int), Cond.fieldLink RJx4a65c 48 "java/util/ArrayList" "size" "I", Cond.methodLink RX3 119 ⟨"java/util/List", "get", "(I)Ljava/lang/Object;"⟩, Cond.selects RJx4a65c ⟨"java/util/List", "get", "(I)Ljava/lang/Object;"⟩ yJx4a65c_get_915e3, Cond.instanceMethod yJx4a65c_get_915e3, Cond.code yJx4a65c_get_915e3 cJx4a65c_get_915e3 2 (some (.object "java/lang/Object"))]
def wsL_homeIncome_r2 : List Cond := [Cond.methodLink RJx4a65c 118 yJ15_checkIndex_7cf53, Cond.static yJ15_checkIndex_7cf53, Cond.initialized RJ15, Cond.code yJ15_checkIndex_7cf53 cJ15_checkIndex_7cf53 2 (some .int), Cond.methodLink RJ15 105 yJ3_checkIndex_8e157, Cond.static yJ3_checkIndex_8e157, Cond.initialized RJ3, Cond.code yJ3_checkIndex_8e157 cJ3_checkIndex_8e157 3 (some .int), Cond.methodLink RJx4a65c 123 yJx4a65c_elementData_915e3, Cond.instanceMethod yJx4a65c_elementData_915e3, Cond.selects RJx4a65c yJx4a65c_elementData_915e3 yJx4a65c_elementData_915e3, Cond.code yJx4a65c_elementData_915e3 cJx4a65c_elementData_915e3 2 (some (.object "java/lang/Object")), Cond.fieldLink RJx4a65c 9 "java/util/ArrayList" "elementData" "[Ljava/lang/Object;", Cond.methodLink RX3 137 yX2_incomeAtHome, Cond.instanceMethod yX2_incomeAtHome, Cond.selects RX2 yX2_incomeAtHome yX2_incomeAtHome, Cond.initialized RX2, Cond.code yX2_incomeAtHome cX2_incomeAtHome 4 (some .int), Cond.fieldLink RX2 38 "TaxEqualiser$Person" "pay" "I", Cond.fieldLink RX2 12 "TaxEqualiser$Person" "bonuses" "Ljava/util/List;", Cond.classLink RX2 48 "TaxEqualiser$Bonus", Cond.methodLink RX2 77 yX2_monthsAbroad, Cond.instanceMethod yX2_monthsAbroad, Cond.selects RX2 yX2_monthsAbroad yX2_monthsAbroad]
def wsL_homeIncome_r3 : List Cond := [Cond.code yX2_monthsAbroad cX2_monthsAbroad 1 (some .int), Cond.fieldLink RX2 22 "TaxEqualiser$Person" "abroadTo" "I", Cond.fieldLink RX2 18 "TaxEqualiser$Person" "abroadFrom" "I", Cond.methodLink RX2 61 ⟨"java/util/List", "size", "()I"⟩, Cond.methodLink RX2 67 ⟨"java/util/List", "get", "(I)Ljava/lang/Object;"⟩, Cond.methodLink RX2 89 yX2_partAbroad, Cond.instanceMethod yX2_partAbroad, Cond.selects RX2 yX2_partAbroad yX2_partAbroad, Cond.code yX2_partAbroad cX2_partAbroad 4 (some .int), Cond.methodLink RX2 41 Lib.Math.min.name, Cond.static Lib.Math.min.name, Cond.initialized "java/lang/Math", Cond.code Lib.Math.min.name Lib.Math.min.code 2 (some .int), Cond.methodLink RX2 55 Lib.Math.max.name, Cond.static Lib.Math.max.name, Cond.code Lib.Math.max.name Lib.Math.max.code 2 (some .int)]
def wsL_homeIncome : List Cond := .codeWith yL_homeIncome cL_homeIncome 4 (some .int) [(0, 9, 12, 38)] :: ((wsL_homeIncome_r1 ++ (wsL_homeIncome_r2 ++ wsL_homeIncome_r3)) ++ wsX30 ++ wsJx4a65c0 ++ wsX20 ++ wsX00 ++ (vx_atS RX3 118 "java/lang/IndexOutOfBoundsException" ["java/lang/RuntimeException", "java/lang/Exception"]).filter goodWord)
def wsL_homeTax_r1 : List Cond := [Cond.classLink RL 38 "java/lang/IndexOutOfBoundsException", Cond.methodLink RL 63 yX3_homeTax, Cond.instanceMethod yX3_homeTax, Cond.selects RX3 yX3_homeTax yX3_homeTax, Cond.initialized RX3, Cond.code yX3_homeTax cX3_homeTax 2 (some .int), Cond.methodLink RX3 77 yX3_personAt, Cond.instanceMethod yX3_personAt, Cond.selects RX3 yX3_personAt yX3_personAt, Cond.code yX3_personAt cX3_personAt 2 (some (.object "TaxEqualiser$Person")), Cond.classLink RX3 114 "java/lang/IndexOutOfBoundsException", Cond.initialized "java/lang/IndexOutOfBoundsException", Cond.fieldLink RX3 16 "TaxEqualiser" "staff" "Ljava/util/List;", Cond.classLink RX3 72 "TaxEqualiser$Person", Cond.methodLink RX3 63 ⟨"java/util/List", "size", "()I"⟩, Cond.selects RJx4a65c ⟨"java/util/List", "size", "()I"⟩ yJx4a65c_size_8abf5, Cond.instanceMethod yJx4a65c_size_8abf5, Cond.initialized RJx4a65c, Cond.code yJx4a65c_size_8abf5 cJx4a65c_size_8abf5 1 (some .int), Cond.fieldLink RJx4a65c 48 "java/util/ArrayList" "size" "I", Cond.methodLink RX3 119 ⟨"java/util/List", "get", "(I)Ljava/lang/Object;"⟩, Cond.selects RJx4a65c ⟨"java/util/List", "get", "(I)Ljava/lang/Object;"⟩ yJx4a65c_get_915e3, Cond.instanceMethod yJx4a65c_get_915e3, Cond.code yJx4a65c_get_915e3 cJx4a65c_get_915e3 2 (some (.object "java/lang/Object"))]
def wsL_homeTax_r2 : List Cond := [Cond.methodLink RJx4a65c 118 yJ15_checkIndex_7cf53, Cond.static yJ15_checkIndex_7cf53, Cond.initialized RJ15, Cond.code yJ15_checkIndex_7cf53 cJ15_checkIndex_7cf53 2 (some .int), Cond.methodLink RJ15 105 yJ3_checkIndex_8e157, Cond.static yJ3_checkIndex_8e157, Cond.initialized RJ3, Cond.code yJ3_checkIndex_8e157 cJ3_checkIndex_8e157 3 (some .int), Cond.methodLink RJx4a65c 123 yJx4a65c_elementData_915e3, Cond.instanceMethod yJx4a65c_elementData_915e3, Cond.selects RJx4a65c yJx4a65c_elementData_915e3 yJx4a65c_elementData_915e3, Cond.code yJx4a65c_elementData_915e3 cJx4a65c_elementData_915e3 2 (some (.object "java/lang/Object")), Cond.fieldLink RJx4a65c 9 "java/util/ArrayList" "elementData" "[Ljava/lang/Object;", Cond.methodLink RX3 140 yX2_taxAtHome, Cond.instanceMethod yX2_taxAtHome, Cond.selects RX2 yX2_taxAtHome yX2_taxAtHome, Cond.initialized RX2, Cond.code yX2_taxAtHome cX2_taxAtHome 2 (some .int), Cond.fieldLink RX2 31 "TaxEqualiser$Person" "home" "LTaxEqualiser$Land;", Cond.methodLink RX2 86 yX2_wholeIncome, Cond.instanceMethod yX2_wholeIncome, Cond.selects RX2 yX2_wholeIncome yX2_wholeIncome, Cond.code yX2_wholeIncome cX2_wholeIncome 3 (some .int), Cond.fieldLink RX2 38 "TaxEqualiser$Person" "pay" "I"]
def wsL_homeTax_r3 : List Cond := [Cond.fieldLink RX2 12 "TaxEqualiser$Person" "bonuses" "Ljava/util/List;", Cond.classLink RX2 48 "TaxEqualiser$Bonus", Cond.methodLink RX2 61 ⟨"java/util/List", "size", "()I"⟩, Cond.methodLink RX2 67 ⟨"java/util/List", "get", "(I)Ljava/lang/Object;"⟩, Cond.methodLink RX2 71 yX1_taxOf, Cond.instanceMethod yX1_taxOf, Cond.selects RX1 yX1_taxOf yX1_taxOf, Cond.initialized RX1, Cond.code yX1_taxOf cX1_taxOf 8 (some .int), Cond.fieldLink RX1 9 "TaxEqualiser$Land" "lower" "I", Cond.methodLink RX1 28 Lib.Math.min.name, Cond.static Lib.Math.min.name, Cond.initialized "java/lang/Math", Cond.code Lib.Math.min.name Lib.Math.min.code 2 (some .int), Cond.fieldLink RX1 16 "TaxEqualiser$Land" "upper" "I", Cond.methodLink RX1 34 Lib.Math.max.name, Cond.static Lib.Math.max.name, Cond.code Lib.Math.max.name Lib.Math.max.code 2 (some .int), Cond.fieldLink RX1 19 "TaxEqualiser$Land" "first" "I", Cond.fieldLink RX1 22 "TaxEqualiser$Land" "second" "I", Cond.fieldLink RX1 25 "TaxEqualiser$Land" "third" "I", Cond.constantLong RX1 37 (100), Cond.methodLink RX2 93 yX2_incomeAtHome, Cond.instanceMethod yX2_incomeAtHome]
def wsL_homeTax_r4 : List Cond := [Cond.selects RX2 yX2_incomeAtHome yX2_incomeAtHome, Cond.code yX2_incomeAtHome cX2_incomeAtHome 4 (some .int), Cond.methodLink RX2 77 yX2_monthsAbroad, Cond.instanceMethod yX2_monthsAbroad, Cond.selects RX2 yX2_monthsAbroad yX2_monthsAbroad, Cond.code yX2_monthsAbroad cX2_monthsAbroad 1 (some .int), Cond.fieldLink RX2 22 "TaxEqualiser$Person" "abroadTo" "I", Cond.fieldLink RX2 18 "TaxEqualiser$Person" "abroadFrom" "I", Cond.methodLink RX2 89 yX2_partAbroad, Cond.instanceMethod yX2_partAbroad, Cond.selects RX2 yX2_partAbroad yX2_partAbroad, Cond.code yX2_partAbroad cX2_partAbroad 4 (some .int), Cond.methodLink RX2 41 Lib.Math.min.name, Cond.methodLink RX2 55 Lib.Math.max.name]
def wsL_homeTax : List Cond := .codeWith yL_homeTax cL_homeTax 4 (some .int) [(0, 9, 12, 38)] :: ((wsL_homeTax_r1 ++ (wsL_homeTax_r2 ++ (wsL_homeTax_r3 ++ wsL_homeTax_r4))) ++ wsX30 ++ wsJx4a65c0 ++ wsX20 ++ wsX00 ++ wsX10 ++ (vx_atS RX3 118 "java/lang/IndexOutOfBoundsException" ["java/lang/RuntimeException", "java/lang/Exception"]).filter goodWord)
def wsL_hostIncome_r1 : List Cond := [Cond.classLink RL 38 "java/lang/IndexOutOfBoundsException", Cond.methodLink RL 66 yX3_hostIncome, Cond.instanceMethod yX3_hostIncome, Cond.selects RX3 yX3_hostIncome yX3_hostIncome, Cond.initialized RX3, Cond.code yX3_hostIncome cX3_hostIncome 2 (some .int), Cond.methodLink RX3 77 yX3_personAt, Cond.instanceMethod yX3_personAt, Cond.selects RX3 yX3_personAt yX3_personAt, Cond.code yX3_personAt cX3_personAt 2 (some (.object "TaxEqualiser$Person")), Cond.classLink RX3 114 "java/lang/IndexOutOfBoundsException", Cond.initialized "java/lang/IndexOutOfBoundsException", Cond.fieldLink RX3 16 "TaxEqualiser" "staff" "Ljava/util/List;", Cond.classLink RX3 72 "TaxEqualiser$Person", Cond.methodLink RX3 63 ⟨"java/util/List", "size", "()I"⟩, Cond.selects RJx4a65c ⟨"java/util/List", "size", "()I"⟩ yJx4a65c_size_8abf5, Cond.instanceMethod yJx4a65c_size_8abf5, Cond.initialized RJx4a65c, Cond.code yJx4a65c_size_8abf5 cJx4a65c_size_8abf5 1 (some .int), Cond.fieldLink RJx4a65c 48 "java/util/ArrayList" "size" "I", Cond.methodLink RX3 119 ⟨"java/util/List", "get", "(I)Ljava/lang/Object;"⟩, Cond.selects RJx4a65c ⟨"java/util/List", "get", "(I)Ljava/lang/Object;"⟩ yJx4a65c_get_915e3, Cond.instanceMethod yJx4a65c_get_915e3, Cond.code yJx4a65c_get_915e3 cJx4a65c_get_915e3 2 (some (.object "java/lang/Object"))]
def wsL_hostIncome_r2 : List Cond := [Cond.methodLink RJx4a65c 118 yJ15_checkIndex_7cf53, Cond.static yJ15_checkIndex_7cf53, Cond.initialized RJ15, Cond.code yJ15_checkIndex_7cf53 cJ15_checkIndex_7cf53 2 (some .int), Cond.methodLink RJ15 105 yJ3_checkIndex_8e157, Cond.static yJ3_checkIndex_8e157, Cond.initialized RJ3, Cond.code yJ3_checkIndex_8e157 cJ3_checkIndex_8e157 3 (some .int), Cond.methodLink RJx4a65c 123 yJx4a65c_elementData_915e3, Cond.instanceMethod yJx4a65c_elementData_915e3, Cond.selects RJx4a65c yJx4a65c_elementData_915e3 yJx4a65c_elementData_915e3, Cond.code yJx4a65c_elementData_915e3 cJx4a65c_elementData_915e3 2 (some (.object "java/lang/Object")), Cond.fieldLink RJx4a65c 9 "java/util/ArrayList" "elementData" "[Ljava/lang/Object;", Cond.methodLink RX3 143 yX2_incomeAtHost, Cond.instanceMethod yX2_incomeAtHost, Cond.selects RX2 yX2_incomeAtHost yX2_incomeAtHost, Cond.initialized RX2, Cond.code yX2_incomeAtHost cX2_incomeAtHost 3 (some .int), Cond.fieldLink RX2 38 "TaxEqualiser$Person" "pay" "I", Cond.fieldLink RX2 12 "TaxEqualiser$Person" "bonuses" "Ljava/util/List;", Cond.classLink RX2 48 "TaxEqualiser$Bonus", Cond.methodLink RX2 77 yX2_monthsAbroad, Cond.instanceMethod yX2_monthsAbroad, Cond.selects RX2 yX2_monthsAbroad yX2_monthsAbroad]
def wsL_hostIncome_r3 : List Cond := [Cond.code yX2_monthsAbroad cX2_monthsAbroad 1 (some .int), Cond.fieldLink RX2 22 "TaxEqualiser$Person" "abroadTo" "I", Cond.fieldLink RX2 18 "TaxEqualiser$Person" "abroadFrom" "I", Cond.methodLink RX2 96 yX2_housingInYear, Cond.instanceMethod yX2_housingInYear, Cond.selects RX2 yX2_housingInYear yX2_housingInYear, Cond.code yX2_housingInYear cX2_housingInYear 1 (some .int), Cond.fieldLink RX2 25 "TaxEqualiser$Person" "rent" "I", Cond.methodLink RX2 83 yX2_ownShare, Cond.instanceMethod yX2_ownShare, Cond.selects RX2 yX2_ownShare yX2_ownShare, Cond.code yX2_ownShare cX2_ownShare 1 (some .int), Cond.fieldLink RX2 28 "TaxEqualiser$Person" "norm" "I", Cond.methodLink RX2 41 Lib.Math.min.name, Cond.static Lib.Math.min.name, Cond.initialized "java/lang/Math", Cond.code Lib.Math.min.name Lib.Math.min.code 2 (some .int), Cond.methodLink RX2 61 ⟨"java/util/List", "size", "()I"⟩, Cond.methodLink RX2 67 ⟨"java/util/List", "get", "(I)Ljava/lang/Object;"⟩, Cond.methodLink RX2 89 yX2_partAbroad, Cond.instanceMethod yX2_partAbroad, Cond.selects RX2 yX2_partAbroad yX2_partAbroad, Cond.code yX2_partAbroad cX2_partAbroad 4 (some .int), Cond.methodLink RX2 55 Lib.Math.max.name]
def wsL_hostIncome_r4 : List Cond := [Cond.static Lib.Math.max.name, Cond.code Lib.Math.max.name Lib.Math.max.code 2 (some .int)]
def wsL_hostIncome : List Cond := .codeWith yL_hostIncome cL_hostIncome 4 (some .int) [(0, 9, 12, 38)] :: ((wsL_hostIncome_r1 ++ (wsL_hostIncome_r2 ++ (wsL_hostIncome_r3 ++ wsL_hostIncome_r4))) ++ wsX30 ++ wsJx4a65c0 ++ wsX20 ++ wsX00 ++ (vx_atS RX3 118 "java/lang/IndexOutOfBoundsException" ["java/lang/RuntimeException", "java/lang/Exception"]).filter goodWord)
def wsL_hostTax_r1 : List Cond := [Cond.classLink RL 38 "java/lang/IndexOutOfBoundsException", Cond.methodLink RL 69 yX3_hostTax, Cond.instanceMethod yX3_hostTax, Cond.selects RX3 yX3_hostTax yX3_hostTax, Cond.initialized RX3, Cond.code yX3_hostTax cX3_hostTax 2 (some .int), Cond.methodLink RX3 77 yX3_personAt, Cond.instanceMethod yX3_personAt, Cond.selects RX3 yX3_personAt yX3_personAt, Cond.code yX3_personAt cX3_personAt 2 (some (.object "TaxEqualiser$Person")), Cond.classLink RX3 114 "java/lang/IndexOutOfBoundsException", Cond.initialized "java/lang/IndexOutOfBoundsException", Cond.fieldLink RX3 16 "TaxEqualiser" "staff" "Ljava/util/List;", Cond.classLink RX3 72 "TaxEqualiser$Person", Cond.methodLink RX3 63 ⟨"java/util/List", "size", "()I"⟩, Cond.selects RJx4a65c ⟨"java/util/List", "size", "()I"⟩ yJx4a65c_size_8abf5, Cond.instanceMethod yJx4a65c_size_8abf5, Cond.initialized RJx4a65c, Cond.code yJx4a65c_size_8abf5 cJx4a65c_size_8abf5 1 (some .int), Cond.fieldLink RJx4a65c 48 "java/util/ArrayList" "size" "I", Cond.methodLink RX3 119 ⟨"java/util/List", "get", "(I)Ljava/lang/Object;"⟩, Cond.selects RJx4a65c ⟨"java/util/List", "get", "(I)Ljava/lang/Object;"⟩ yJx4a65c_get_915e3, Cond.instanceMethod yJx4a65c_get_915e3, Cond.code yJx4a65c_get_915e3 cJx4a65c_get_915e3 2 (some (.object "java/lang/Object"))]
def wsL_hostTax_r2 : List Cond := [Cond.methodLink RJx4a65c 118 yJ15_checkIndex_7cf53, Cond.static yJ15_checkIndex_7cf53, Cond.initialized RJ15, Cond.code yJ15_checkIndex_7cf53 cJ15_checkIndex_7cf53 2 (some .int), Cond.methodLink RJ15 105 yJ3_checkIndex_8e157, Cond.static yJ3_checkIndex_8e157, Cond.initialized RJ3, Cond.code yJ3_checkIndex_8e157 cJ3_checkIndex_8e157 3 (some .int), Cond.methodLink RJx4a65c 123 yJx4a65c_elementData_915e3, Cond.instanceMethod yJx4a65c_elementData_915e3, Cond.selects RJx4a65c yJx4a65c_elementData_915e3 yJx4a65c_elementData_915e3, Cond.code yJx4a65c_elementData_915e3 cJx4a65c_elementData_915e3 2 (some (.object "java/lang/Object")), Cond.fieldLink RJx4a65c 9 "java/util/ArrayList" "elementData" "[Ljava/lang/Object;", Cond.methodLink RX3 146 yX2_taxAtHost, Cond.instanceMethod yX2_taxAtHost, Cond.selects RX2 yX2_taxAtHost yX2_taxAtHost, Cond.initialized RX2, Cond.code yX2_taxAtHost cX2_taxAtHost 1 (some .int), Cond.fieldLink RX2 35 "TaxEqualiser$Person" "host" "LTaxEqualiser$Land;", Cond.methodLink RX2 99 yX2_incomeAtHost, Cond.instanceMethod yX2_incomeAtHost, Cond.selects RX2 yX2_incomeAtHost yX2_incomeAtHost, Cond.code yX2_incomeAtHost cX2_incomeAtHost 3 (some .int), Cond.fieldLink RX2 38 "TaxEqualiser$Person" "pay" "I"]
def wsL_hostTax_r3 : List Cond := [Cond.fieldLink RX2 12 "TaxEqualiser$Person" "bonuses" "Ljava/util/List;", Cond.classLink RX2 48 "TaxEqualiser$Bonus", Cond.methodLink RX2 77 yX2_monthsAbroad, Cond.instanceMethod yX2_monthsAbroad, Cond.selects RX2 yX2_monthsAbroad yX2_monthsAbroad, Cond.code yX2_monthsAbroad cX2_monthsAbroad 1 (some .int), Cond.fieldLink RX2 22 "TaxEqualiser$Person" "abroadTo" "I", Cond.fieldLink RX2 18 "TaxEqualiser$Person" "abroadFrom" "I", Cond.methodLink RX2 96 yX2_housingInYear, Cond.instanceMethod yX2_housingInYear, Cond.selects RX2 yX2_housingInYear yX2_housingInYear, Cond.code yX2_housingInYear cX2_housingInYear 1 (some .int), Cond.fieldLink RX2 25 "TaxEqualiser$Person" "rent" "I", Cond.methodLink RX2 83 yX2_ownShare, Cond.instanceMethod yX2_ownShare, Cond.selects RX2 yX2_ownShare yX2_ownShare, Cond.code yX2_ownShare cX2_ownShare 1 (some .int), Cond.fieldLink RX2 28 "TaxEqualiser$Person" "norm" "I", Cond.methodLink RX2 41 Lib.Math.min.name, Cond.static Lib.Math.min.name, Cond.initialized "java/lang/Math", Cond.code Lib.Math.min.name Lib.Math.min.code 2 (some .int), Cond.methodLink RX2 61 ⟨"java/util/List", "size", "()I"⟩, Cond.methodLink RX2 67 ⟨"java/util/List", "get", "(I)Ljava/lang/Object;"⟩]
def wsL_hostTax_r4 : List Cond := [Cond.methodLink RX2 89 yX2_partAbroad, Cond.instanceMethod yX2_partAbroad, Cond.selects RX2 yX2_partAbroad yX2_partAbroad, Cond.code yX2_partAbroad cX2_partAbroad 4 (some .int), Cond.methodLink RX2 55 Lib.Math.max.name, Cond.static Lib.Math.max.name, Cond.code Lib.Math.max.name Lib.Math.max.code 2 (some .int), Cond.methodLink RX2 102 yX1_grossTaxOf, Cond.instanceMethod yX1_grossTaxOf, Cond.selects RX1 yX1_grossTaxOf yX1_grossTaxOf, Cond.initialized RX1, Cond.code yX1_grossTaxOf cX1_grossTaxOf 6 (some .int), Cond.methodLink RX1 39 yX1_mostGrossTax, Cond.static yX1_mostGrossTax, Cond.code yX1_mostGrossTax cX1_mostGrossTax 1 (some .int), Cond.methodLink RX1 43 yX1_taxOf, Cond.instanceMethod yX1_taxOf, Cond.selects RX1 yX1_taxOf yX1_taxOf, Cond.code yX1_taxOf cX1_taxOf 8 (some .int), Cond.fieldLink RX1 9 "TaxEqualiser$Land" "lower" "I", Cond.methodLink RX1 28 Lib.Math.min.name, Cond.fieldLink RX1 16 "TaxEqualiser$Land" "upper" "I", Cond.methodLink RX1 34 Lib.Math.max.name, Cond.fieldLink RX1 19 "TaxEqualiser$Land" "first" "I"]
def wsL_hostTax_r5 : List Cond := [Cond.fieldLink RX1 22 "TaxEqualiser$Land" "second" "I", Cond.fieldLink RX1 25 "TaxEqualiser$Land" "third" "I", Cond.constantLong RX1 37 (100)]
def wsL_hostTax : List Cond := .codeWith yL_hostTax cL_hostTax 4 (some .int) [(0, 9, 12, 38)] :: ((wsL_hostTax_r1 ++ (wsL_hostTax_r2 ++ (wsL_hostTax_r3 ++ (wsL_hostTax_r4 ++ wsL_hostTax_r5)))) ++ wsX30 ++ wsJx4a65c0 ++ wsX20 ++ wsX00 ++ wsX10 ++ (vx_atS RX3 118 "java/lang/IndexOutOfBoundsException" ["java/lang/RuntimeException", "java/lang/Exception"]).filter goodWord)
def wsL_borne_r1 : List Cond := [Cond.classLink RL 38 "java/lang/IndexOutOfBoundsException", Cond.methodLink RL 72 yX3_borne, Cond.instanceMethod yX3_borne, Cond.selects RX3 yX3_borne yX3_borne, Cond.initialized RX3, Cond.code yX3_borne cX3_borne 2 (some .int), Cond.methodLink RX3 77 yX3_personAt, Cond.instanceMethod yX3_personAt, Cond.selects RX3 yX3_personAt yX3_personAt, Cond.code yX3_personAt cX3_personAt 2 (some (.object "TaxEqualiser$Person")), Cond.classLink RX3 114 "java/lang/IndexOutOfBoundsException", Cond.initialized "java/lang/IndexOutOfBoundsException", Cond.fieldLink RX3 16 "TaxEqualiser" "staff" "Ljava/util/List;", Cond.classLink RX3 72 "TaxEqualiser$Person", Cond.methodLink RX3 63 ⟨"java/util/List", "size", "()I"⟩, Cond.selects RJx4a65c ⟨"java/util/List", "size", "()I"⟩ yJx4a65c_size_8abf5, Cond.instanceMethod yJx4a65c_size_8abf5, Cond.initialized RJx4a65c, Cond.code yJx4a65c_size_8abf5 cJx4a65c_size_8abf5 1 (some .int), Cond.fieldLink RJx4a65c 48 "java/util/ArrayList" "size" "I", Cond.methodLink RX3 119 ⟨"java/util/List", "get", "(I)Ljava/lang/Object;"⟩, Cond.selects RJx4a65c ⟨"java/util/List", "get", "(I)Ljava/lang/Object;"⟩ yJx4a65c_get_915e3, Cond.instanceMethod yJx4a65c_get_915e3, Cond.code yJx4a65c_get_915e3 cJx4a65c_get_915e3 2 (some (.object "java/lang/Object"))]
def wsL_borne_r2 : List Cond := [Cond.methodLink RJx4a65c 118 yJ15_checkIndex_7cf53, Cond.static yJ15_checkIndex_7cf53, Cond.initialized RJ15, Cond.code yJ15_checkIndex_7cf53 cJ15_checkIndex_7cf53 2 (some .int), Cond.methodLink RJ15 105 yJ3_checkIndex_8e157, Cond.static yJ3_checkIndex_8e157, Cond.initialized RJ3, Cond.code yJ3_checkIndex_8e157 cJ3_checkIndex_8e157 3 (some .int), Cond.methodLink RJx4a65c 123 yJx4a65c_elementData_915e3, Cond.instanceMethod yJx4a65c_elementData_915e3, Cond.selects RJx4a65c yJx4a65c_elementData_915e3 yJx4a65c_elementData_915e3, Cond.code yJx4a65c_elementData_915e3 cJx4a65c_elementData_915e3 2 (some (.object "java/lang/Object")), Cond.fieldLink RJx4a65c 9 "java/util/ArrayList" "elementData" "[Ljava/lang/Object;", Cond.methodLink RX3 149 yX2_borneInYear, Cond.instanceMethod yX2_borneInYear, Cond.selects RX2 yX2_borneInYear yX2_borneInYear, Cond.initialized RX2, Cond.code yX2_borneInYear cX2_borneInYear 1 (some .int), Cond.methodLink RX2 105 yX2_heldInYear, Cond.instanceMethod yX2_heldInYear, Cond.selects RX2 yX2_heldInYear yX2_heldInYear, Cond.code yX2_heldInYear cX2_heldInYear 1 (some .int), Cond.methodLink RX2 77 yX2_monthsAbroad, Cond.instanceMethod yX2_monthsAbroad]
def wsL_borne_r3 : List Cond := [Cond.selects RX2 yX2_monthsAbroad yX2_monthsAbroad, Cond.code yX2_monthsAbroad cX2_monthsAbroad 1 (some .int), Cond.fieldLink RX2 22 "TaxEqualiser$Person" "abroadTo" "I", Cond.fieldLink RX2 18 "TaxEqualiser$Person" "abroadFrom" "I", Cond.methodLink RX2 80 yX2_heldEachMonth, Cond.instanceMethod yX2_heldEachMonth, Cond.selects RX2 yX2_heldEachMonth yX2_heldEachMonth, Cond.code yX2_heldEachMonth cX2_heldEachMonth 1 (some .int), Cond.fieldLink RX2 31 "TaxEqualiser$Person" "home" "LTaxEqualiser$Land;", Cond.fieldLink RX2 38 "TaxEqualiser$Person" "pay" "I", Cond.methodLink RX2 71 yX1_taxOf, Cond.instanceMethod yX1_taxOf, Cond.selects RX1 yX1_taxOf yX1_taxOf, Cond.initialized RX1, Cond.code yX1_taxOf cX1_taxOf 8 (some .int), Cond.fieldLink RX1 9 "TaxEqualiser$Land" "lower" "I", Cond.methodLink RX1 28 Lib.Math.min.name, Cond.static Lib.Math.min.name, Cond.initialized "java/lang/Math", Cond.code Lib.Math.min.name Lib.Math.min.code 2 (some .int), Cond.fieldLink RX1 16 "TaxEqualiser$Land" "upper" "I", Cond.methodLink RX1 34 Lib.Math.max.name, Cond.static Lib.Math.max.name, Cond.code Lib.Math.max.name Lib.Math.max.code 2 (some .int)]
def wsL_borne_r4 : List Cond := [Cond.fieldLink RX1 19 "TaxEqualiser$Land" "first" "I", Cond.fieldLink RX1 22 "TaxEqualiser$Land" "second" "I", Cond.fieldLink RX1 25 "TaxEqualiser$Land" "third" "I", Cond.constantLong RX1 37 (100), Cond.methodLink RX2 108 yX2_taxAtHome, Cond.instanceMethod yX2_taxAtHome, Cond.selects RX2 yX2_taxAtHome yX2_taxAtHome, Cond.code yX2_taxAtHome cX2_taxAtHome 2 (some .int), Cond.methodLink RX2 86 yX2_wholeIncome, Cond.instanceMethod yX2_wholeIncome, Cond.selects RX2 yX2_wholeIncome yX2_wholeIncome, Cond.code yX2_wholeIncome cX2_wholeIncome 3 (some .int), Cond.fieldLink RX2 12 "TaxEqualiser$Person" "bonuses" "Ljava/util/List;", Cond.classLink RX2 48 "TaxEqualiser$Bonus", Cond.methodLink RX2 61 ⟨"java/util/List", "size", "()I"⟩, Cond.methodLink RX2 67 ⟨"java/util/List", "get", "(I)Ljava/lang/Object;"⟩, Cond.methodLink RX2 93 yX2_incomeAtHome, Cond.instanceMethod yX2_incomeAtHome, Cond.selects RX2 yX2_incomeAtHome yX2_incomeAtHome, Cond.code yX2_incomeAtHome cX2_incomeAtHome 4 (some .int), Cond.methodLink RX2 89 yX2_partAbroad, Cond.instanceMethod yX2_partAbroad, Cond.selects RX2 yX2_partAbroad yX2_partAbroad, Cond.code yX2_partAbroad cX2_partAbroad 4 (some .int)]
def wsL_borne_r5 : List Cond := [Cond.methodLink RX2 41 Lib.Math.min.name, Cond.methodLink RX2 55 Lib.Math.max.name]
def wsL_borne : List Cond := .codeWith yL_borne cL_borne 4 (some .int) [(0, 9, 12, 38)] :: ((wsL_borne_r1 ++ (wsL_borne_r2 ++ (wsL_borne_r3 ++ (wsL_borne_r4 ++ wsL_borne_r5)))) ++ wsX30 ++ wsJx4a65c0 ++ wsX20 ++ wsX10 ++ wsX00 ++ (vx_atS RX3 118 "java/lang/IndexOutOfBoundsException" ["java/lang/RuntimeException", "java/lang/Exception"]).filter goodWord)
def wsL_settlement_r1 : List Cond := [Cond.classLink RL 38 "java/lang/IndexOutOfBoundsException", Cond.methodLink RL 75 yX3_settlement, Cond.instanceMethod yX3_settlement, Cond.selects RX3 yX3_settlement yX3_settlement, Cond.initialized RX3, Cond.code yX3_settlement cX3_settlement 2 (some .int), Cond.methodLink RX3 77 yX3_personAt, Cond.instanceMethod yX3_personAt, Cond.selects RX3 yX3_personAt yX3_personAt, Cond.code yX3_personAt cX3_personAt 2 (some (.object "TaxEqualiser$Person")), Cond.classLink RX3 114 "java/lang/IndexOutOfBoundsException", Cond.initialized "java/lang/IndexOutOfBoundsException", Cond.fieldLink RX3 16 "TaxEqualiser" "staff" "Ljava/util/List;", Cond.classLink RX3 72 "TaxEqualiser$Person", Cond.methodLink RX3 63 ⟨"java/util/List", "size", "()I"⟩, Cond.selects RJx4a65c ⟨"java/util/List", "size", "()I"⟩ yJx4a65c_size_8abf5, Cond.instanceMethod yJx4a65c_size_8abf5, Cond.initialized RJx4a65c, Cond.code yJx4a65c_size_8abf5 cJx4a65c_size_8abf5 1 (some .int), Cond.fieldLink RJx4a65c 48 "java/util/ArrayList" "size" "I", Cond.methodLink RX3 119 ⟨"java/util/List", "get", "(I)Ljava/lang/Object;"⟩, Cond.selects RJx4a65c ⟨"java/util/List", "get", "(I)Ljava/lang/Object;"⟩ yJx4a65c_get_915e3, Cond.instanceMethod yJx4a65c_get_915e3, Cond.code yJx4a65c_get_915e3 cJx4a65c_get_915e3 2 (some (.object "java/lang/Object"))]
def wsL_settlement_r2 : List Cond := [Cond.methodLink RJx4a65c 118 yJ15_checkIndex_7cf53, Cond.static yJ15_checkIndex_7cf53, Cond.initialized RJ15, Cond.code yJ15_checkIndex_7cf53 cJ15_checkIndex_7cf53 2 (some .int), Cond.methodLink RJ15 105 yJ3_checkIndex_8e157, Cond.static yJ3_checkIndex_8e157, Cond.initialized RJ3, Cond.code yJ3_checkIndex_8e157 cJ3_checkIndex_8e157 3 (some .int), Cond.methodLink RJx4a65c 123 yJx4a65c_elementData_915e3, Cond.instanceMethod yJx4a65c_elementData_915e3, Cond.selects RJx4a65c yJx4a65c_elementData_915e3 yJx4a65c_elementData_915e3, Cond.code yJx4a65c_elementData_915e3 cJx4a65c_elementData_915e3 2 (some (.object "java/lang/Object")), Cond.fieldLink RJx4a65c 9 "java/util/ArrayList" "elementData" "[Ljava/lang/Object;", Cond.methodLink RX3 152 yX2_settlementOfYear, Cond.instanceMethod yX2_settlementOfYear, Cond.selects RX2 yX2_settlementOfYear yX2_settlementOfYear, Cond.initialized RX2, Cond.code yX2_settlementOfYear cX2_settlementOfYear 1 (some .int), Cond.methodLink RX2 111 yX2_supposedTaxOfYear, Cond.instanceMethod yX2_supposedTaxOfYear, Cond.selects RX2 yX2_supposedTaxOfYear yX2_supposedTaxOfYear, Cond.code yX2_supposedTaxOfYear cX2_supposedTaxOfYear 1 (some .int), Cond.fieldLink RX2 31 "TaxEqualiser$Person" "home" "LTaxEqualiser$Land;", Cond.methodLink RX2 86 yX2_wholeIncome]
def wsL_settlement_r3 : List Cond := [Cond.instanceMethod yX2_wholeIncome, Cond.selects RX2 yX2_wholeIncome yX2_wholeIncome, Cond.code yX2_wholeIncome cX2_wholeIncome 3 (some .int), Cond.fieldLink RX2 38 "TaxEqualiser$Person" "pay" "I", Cond.fieldLink RX2 12 "TaxEqualiser$Person" "bonuses" "Ljava/util/List;", Cond.classLink RX2 48 "TaxEqualiser$Bonus", Cond.methodLink RX2 61 ⟨"java/util/List", "size", "()I"⟩, Cond.methodLink RX2 67 ⟨"java/util/List", "get", "(I)Ljava/lang/Object;"⟩, Cond.methodLink RX2 71 yX1_taxOf, Cond.instanceMethod yX1_taxOf, Cond.selects RX1 yX1_taxOf yX1_taxOf, Cond.initialized RX1, Cond.code yX1_taxOf cX1_taxOf 8 (some .int), Cond.fieldLink RX1 9 "TaxEqualiser$Land" "lower" "I", Cond.methodLink RX1 28 Lib.Math.min.name, Cond.static Lib.Math.min.name, Cond.initialized "java/lang/Math", Cond.code Lib.Math.min.name Lib.Math.min.code 2 (some .int), Cond.fieldLink RX1 16 "TaxEqualiser$Land" "upper" "I", Cond.methodLink RX1 34 Lib.Math.max.name, Cond.static Lib.Math.max.name, Cond.code Lib.Math.max.name Lib.Math.max.code 2 (some .int), Cond.fieldLink RX1 19 "TaxEqualiser$Land" "first" "I", Cond.fieldLink RX1 22 "TaxEqualiser$Land" "second" "I"]
def wsL_settlement_r4 : List Cond := [Cond.fieldLink RX1 25 "TaxEqualiser$Land" "third" "I", Cond.constantLong RX1 37 (100), Cond.methodLink RX2 114 yX2_borneInYear, Cond.instanceMethod yX2_borneInYear, Cond.selects RX2 yX2_borneInYear yX2_borneInYear, Cond.code yX2_borneInYear cX2_borneInYear 1 (some .int), Cond.methodLink RX2 105 yX2_heldInYear, Cond.instanceMethod yX2_heldInYear, Cond.selects RX2 yX2_heldInYear yX2_heldInYear, Cond.code yX2_heldInYear cX2_heldInYear 1 (some .int), Cond.methodLink RX2 77 yX2_monthsAbroad, Cond.instanceMethod yX2_monthsAbroad, Cond.selects RX2 yX2_monthsAbroad yX2_monthsAbroad, Cond.code yX2_monthsAbroad cX2_monthsAbroad 1 (some .int), Cond.fieldLink RX2 22 "TaxEqualiser$Person" "abroadTo" "I", Cond.fieldLink RX2 18 "TaxEqualiser$Person" "abroadFrom" "I", Cond.methodLink RX2 80 yX2_heldEachMonth, Cond.instanceMethod yX2_heldEachMonth, Cond.selects RX2 yX2_heldEachMonth yX2_heldEachMonth, Cond.code yX2_heldEachMonth cX2_heldEachMonth 1 (some .int), Cond.methodLink RX2 108 yX2_taxAtHome, Cond.instanceMethod yX2_taxAtHome, Cond.selects RX2 yX2_taxAtHome yX2_taxAtHome, Cond.code yX2_taxAtHome cX2_taxAtHome 2 (some .int)]
def wsL_settlement_r5 : List Cond := [Cond.methodLink RX2 93 yX2_incomeAtHome, Cond.instanceMethod yX2_incomeAtHome, Cond.selects RX2 yX2_incomeAtHome yX2_incomeAtHome, Cond.code yX2_incomeAtHome cX2_incomeAtHome 4 (some .int), Cond.methodLink RX2 89 yX2_partAbroad, Cond.instanceMethod yX2_partAbroad, Cond.selects RX2 yX2_partAbroad yX2_partAbroad, Cond.code yX2_partAbroad cX2_partAbroad 4 (some .int), Cond.methodLink RX2 41 Lib.Math.min.name, Cond.methodLink RX2 55 Lib.Math.max.name]
def wsL_settlement : List Cond := .codeWith yL_settlement cL_settlement 4 (some .int) [(0, 9, 12, 38)] :: ((wsL_settlement_r1 ++ (wsL_settlement_r2 ++ (wsL_settlement_r3 ++ (wsL_settlement_r4 ++ wsL_settlement_r5)))) ++ wsX30 ++ wsJx4a65c0 ++ wsX20 ++ wsX00 ++ wsX10 ++ (vx_atS RX3 118 "java/lang/IndexOutOfBoundsException" ["java/lang/RuntimeException", "java/lang/Exception"]).filter goodWord)
def wsL_cost_r1 : List Cond := [Cond.classLink RL 38 "java/lang/IndexOutOfBoundsException", Cond.methodLink RL 78 yX3_cost, Cond.instanceMethod yX3_cost, Cond.selects RX3 yX3_cost yX3_cost, Cond.initialized RX3, Cond.code yX3_cost cX3_cost 2 (some .int), Cond.methodLink RX3 77 yX3_personAt, Cond.instanceMethod yX3_personAt, Cond.selects RX3 yX3_personAt yX3_personAt, Cond.code yX3_personAt cX3_personAt 2 (some (.object "TaxEqualiser$Person")), Cond.classLink RX3 114 "java/lang/IndexOutOfBoundsException", Cond.initialized "java/lang/IndexOutOfBoundsException", Cond.fieldLink RX3 16 "TaxEqualiser" "staff" "Ljava/util/List;", Cond.classLink RX3 72 "TaxEqualiser$Person", Cond.methodLink RX3 63 ⟨"java/util/List", "size", "()I"⟩, Cond.selects RJx4a65c ⟨"java/util/List", "size", "()I"⟩ yJx4a65c_size_8abf5, Cond.instanceMethod yJx4a65c_size_8abf5, Cond.initialized RJx4a65c, Cond.code yJx4a65c_size_8abf5 cJx4a65c_size_8abf5 1 (some .int), Cond.fieldLink RJx4a65c 48 "java/util/ArrayList" "size" "I", Cond.methodLink RX3 119 ⟨"java/util/List", "get", "(I)Ljava/lang/Object;"⟩, Cond.selects RJx4a65c ⟨"java/util/List", "get", "(I)Ljava/lang/Object;"⟩ yJx4a65c_get_915e3, Cond.instanceMethod yJx4a65c_get_915e3, Cond.code yJx4a65c_get_915e3 cJx4a65c_get_915e3 2 (some (.object "java/lang/Object"))]
def wsL_cost_r2 : List Cond := [Cond.methodLink RJx4a65c 118 yJ15_checkIndex_7cf53, Cond.static yJ15_checkIndex_7cf53, Cond.initialized RJ15, Cond.code yJ15_checkIndex_7cf53 cJ15_checkIndex_7cf53 2 (some .int), Cond.methodLink RJ15 105 yJ3_checkIndex_8e157, Cond.static yJ3_checkIndex_8e157, Cond.initialized RJ3, Cond.code yJ3_checkIndex_8e157 cJ3_checkIndex_8e157 3 (some .int), Cond.methodLink RJx4a65c 123 yJx4a65c_elementData_915e3, Cond.instanceMethod yJx4a65c_elementData_915e3, Cond.selects RJx4a65c yJx4a65c_elementData_915e3 yJx4a65c_elementData_915e3, Cond.code yJx4a65c_elementData_915e3 cJx4a65c_elementData_915e3 2 (some (.object "java/lang/Object")), Cond.fieldLink RJx4a65c 9 "java/util/ArrayList" "elementData" "[Ljava/lang/Object;", Cond.methodLink RX3 155 yX2_costOfYear, Cond.instanceMethod yX2_costOfYear, Cond.selects RX2 yX2_costOfYear yX2_costOfYear, Cond.initialized RX2, Cond.code yX2_costOfYear cX2_costOfYear 1 (some .int), Cond.methodLink RX2 117 yX2_taxAtHost, Cond.instanceMethod yX2_taxAtHost, Cond.selects RX2 yX2_taxAtHost yX2_taxAtHost, Cond.code yX2_taxAtHost cX2_taxAtHost 1 (some .int), Cond.fieldLink RX2 35 "TaxEqualiser$Person" "host" "LTaxEqualiser$Land;", Cond.methodLink RX2 99 yX2_incomeAtHost]
def wsL_cost_r3 : List Cond := [Cond.instanceMethod yX2_incomeAtHost, Cond.selects RX2 yX2_incomeAtHost yX2_incomeAtHost, Cond.code yX2_incomeAtHost cX2_incomeAtHost 3 (some .int), Cond.fieldLink RX2 38 "TaxEqualiser$Person" "pay" "I", Cond.fieldLink RX2 12 "TaxEqualiser$Person" "bonuses" "Ljava/util/List;", Cond.classLink RX2 48 "TaxEqualiser$Bonus", Cond.methodLink RX2 77 yX2_monthsAbroad, Cond.instanceMethod yX2_monthsAbroad, Cond.selects RX2 yX2_monthsAbroad yX2_monthsAbroad, Cond.code yX2_monthsAbroad cX2_monthsAbroad 1 (some .int), Cond.fieldLink RX2 22 "TaxEqualiser$Person" "abroadTo" "I", Cond.fieldLink RX2 18 "TaxEqualiser$Person" "abroadFrom" "I", Cond.methodLink RX2 96 yX2_housingInYear, Cond.instanceMethod yX2_housingInYear, Cond.selects RX2 yX2_housingInYear yX2_housingInYear, Cond.code yX2_housingInYear cX2_housingInYear 1 (some .int), Cond.fieldLink RX2 25 "TaxEqualiser$Person" "rent" "I", Cond.methodLink RX2 83 yX2_ownShare, Cond.instanceMethod yX2_ownShare, Cond.selects RX2 yX2_ownShare yX2_ownShare, Cond.code yX2_ownShare cX2_ownShare 1 (some .int), Cond.fieldLink RX2 28 "TaxEqualiser$Person" "norm" "I", Cond.methodLink RX2 41 Lib.Math.min.name, Cond.static Lib.Math.min.name]
def wsL_cost_r4 : List Cond := [Cond.initialized "java/lang/Math", Cond.code Lib.Math.min.name Lib.Math.min.code 2 (some .int), Cond.methodLink RX2 61 ⟨"java/util/List", "size", "()I"⟩, Cond.methodLink RX2 67 ⟨"java/util/List", "get", "(I)Ljava/lang/Object;"⟩, Cond.methodLink RX2 89 yX2_partAbroad, Cond.instanceMethod yX2_partAbroad, Cond.selects RX2 yX2_partAbroad yX2_partAbroad, Cond.code yX2_partAbroad cX2_partAbroad 4 (some .int), Cond.methodLink RX2 55 Lib.Math.max.name, Cond.static Lib.Math.max.name, Cond.code Lib.Math.max.name Lib.Math.max.code 2 (some .int), Cond.methodLink RX2 102 yX1_grossTaxOf, Cond.instanceMethod yX1_grossTaxOf, Cond.selects RX1 yX1_grossTaxOf yX1_grossTaxOf, Cond.initialized RX1, Cond.code yX1_grossTaxOf cX1_grossTaxOf 6 (some .int), Cond.methodLink RX1 39 yX1_mostGrossTax, Cond.static yX1_mostGrossTax, Cond.code yX1_mostGrossTax cX1_mostGrossTax 1 (some .int), Cond.methodLink RX1 43 yX1_taxOf, Cond.instanceMethod yX1_taxOf, Cond.selects RX1 yX1_taxOf yX1_taxOf, Cond.code yX1_taxOf cX1_taxOf 8 (some .int), Cond.fieldLink RX1 9 "TaxEqualiser$Land" "lower" "I"]
def wsL_cost_r5 : List Cond := [Cond.methodLink RX1 28 Lib.Math.min.name, Cond.fieldLink RX1 16 "TaxEqualiser$Land" "upper" "I", Cond.methodLink RX1 34 Lib.Math.max.name, Cond.fieldLink RX1 19 "TaxEqualiser$Land" "first" "I", Cond.fieldLink RX1 22 "TaxEqualiser$Land" "second" "I", Cond.fieldLink RX1 25 "TaxEqualiser$Land" "third" "I", Cond.constantLong RX1 37 (100), Cond.methodLink RX2 105 yX2_heldInYear, Cond.instanceMethod yX2_heldInYear, Cond.selects RX2 yX2_heldInYear yX2_heldInYear, Cond.code yX2_heldInYear cX2_heldInYear 1 (some .int), Cond.methodLink RX2 80 yX2_heldEachMonth, Cond.instanceMethod yX2_heldEachMonth, Cond.selects RX2 yX2_heldEachMonth yX2_heldEachMonth, Cond.code yX2_heldEachMonth cX2_heldEachMonth 1 (some .int), Cond.fieldLink RX2 31 "TaxEqualiser$Person" "home" "LTaxEqualiser$Land;", Cond.methodLink RX2 71 yX1_taxOf, Cond.methodLink RX2 120 yX2_settlementOfYear, Cond.instanceMethod yX2_settlementOfYear, Cond.selects RX2 yX2_settlementOfYear yX2_settlementOfYear, Cond.code yX2_settlementOfYear cX2_settlementOfYear 1 (some .int), Cond.methodLink RX2 111 yX2_supposedTaxOfYear, Cond.instanceMethod yX2_supposedTaxOfYear, Cond.selects RX2 yX2_supposedTaxOfYear yX2_supposedTaxOfYear]
def wsL_cost_r6 : List Cond := [Cond.code yX2_supposedTaxOfYear cX2_supposedTaxOfYear 1 (some .int), Cond.methodLink RX2 86 yX2_wholeIncome, Cond.instanceMethod yX2_wholeIncome, Cond.selects RX2 yX2_wholeIncome yX2_wholeIncome, Cond.code yX2_wholeIncome cX2_wholeIncome 3 (some .int), Cond.methodLink RX2 114 yX2_borneInYear, Cond.instanceMethod yX2_borneInYear, Cond.selects RX2 yX2_borneInYear yX2_borneInYear, Cond.code yX2_borneInYear cX2_borneInYear 1 (some .int), Cond.methodLink RX2 108 yX2_taxAtHome, Cond.instanceMethod yX2_taxAtHome, Cond.selects RX2 yX2_taxAtHome yX2_taxAtHome, Cond.code yX2_taxAtHome cX2_taxAtHome 2 (some .int), Cond.methodLink RX2 93 yX2_incomeAtHome, Cond.instanceMethod yX2_incomeAtHome, Cond.selects RX2 yX2_incomeAtHome yX2_incomeAtHome, Cond.code yX2_incomeAtHome cX2_incomeAtHome 4 (some .int)]
def wsL_cost : List Cond := .codeWith yL_cost cL_cost 4 (some .int) [(0, 9, 12, 38)] :: ((wsL_cost_r1 ++ (wsL_cost_r2 ++ (wsL_cost_r3 ++ (wsL_cost_r4 ++ (wsL_cost_r5 ++ wsL_cost_r6))))) ++ wsX30 ++ wsJx4a65c0 ++ wsX20 ++ wsX00 ++ wsX10 ++ (vx_atS RX3 118 "java/lang/IndexOutOfBoundsException" ["java/lang/RuntimeException", "java/lang/Exception"]).filter goodWord)
def wsL_law0_r1 : List Cond := [Cond.classLink RL 8 RX3, Cond.instantiable RX3 2, Cond.initialized RX3, Cond.classLink RL 82 RX4, Cond.instantiable RX4 16, Cond.initialized RX4, Cond.arrayClass .long, Cond.methodLink RL 81 yX3_init, Cond.instanceMethod yX3_init, Cond.code yX3_init cX3_init 2 none, Cond.methodLink RX3 1 objectInit, Cond.instanceMethod objectInit, Cond.code objectInit ⟨#[0xb1]⟩ 1 none, Cond.classLink RX3 7 RJx4a65c, Cond.instantiable RJx4a65c 3, Cond.initialized RJx4a65c, Cond.fieldLink RX3 10 "TaxEqualiser" "lands" "Ljava/util/List;", Cond.fieldLink RX3 16 "TaxEqualiser" "staff" "Ljava/util/List;", Cond.classLink RX3 19 RX1, Cond.instantiable RX1 5, Cond.initialized RX1, Cond.methodLink RX3 9 yJx4a65c_init_da8c8, Cond.instanceMethod yJx4a65c_init_da8c8, Cond.code yJx4a65c_init_da8c8 cJx4a65c_init_da8c8 1 none]
def wsL_law0_r2 : List Cond := [Cond.fieldLink RJx4a65c 39 "java/util/ArrayList" "DEFAULTCAPACITY_EMPTY_ELEMENTDATA" "[Ljava/lang/Object;", Cond.fieldLink RJx4a65c 9 "java/util/ArrayList" "elementData" "[Ljava/lang/Object;", Cond.methodLink RJx4a65c 1 yJxc12de_init_da8c8, Cond.instanceMethod yJxc12de_init_da8c8, Cond.initialized RJxc12de, Cond.code yJxc12de_init_da8c8 cJxc12de_init_da8c8 1 none, Cond.fieldLink RJxc12de 7 "java/util/AbstractList" "modCount" "I", Cond.methodLink RJxc12de 1 yJxa1e45_init_da8c8, Cond.instanceMethod yJxa1e45_init_da8c8, Cond.initialized RJxa1e45, Cond.code yJxa1e45_init_da8c8 cJxa1e45_init_da8c8 1 none, Cond.methodLink RJxa1e45 1 objectInit, Cond.instanceMethod yX1_init, Cond.code yX1_init cX1_init 1 none, Cond.methodLink RX1 3 objectInit, Cond.fieldLink RX1 9 "TaxEqualiser$Land" "lower" "I", Cond.constant RX1 15 (40000), Cond.fieldLink RX1 16 "TaxEqualiser$Land" "upper" "I", Cond.fieldLink RX1 19 "TaxEqualiser$Land" "first" "I", Cond.fieldLink RX1 22 "TaxEqualiser$Land" "second" "I", Cond.fieldLink RX1 25 "TaxEqualiser$Land" "third" "I", Cond.methodLink RX3 22 ⟨"java/util/List", "add", "(Ljava/lang/Object;)Z"⟩, Cond.selects RJx4a65c ⟨"java/util/List", "add", "(Ljava/lang/Object;)Z"⟩ yJx4a65c_add_9ea2d, Cond.instanceMethod yJx4a65c_add_9ea2d]
def wsL_law0_r3 : List Cond := [Cond.code yJx4a65c_add_9ea2d cJx4a65c_add_9ea2d 2 (some .boolean), Cond.fieldLink RJx4a65c 63 "java/util/ArrayList" "modCount" "I", Cond.sameField "java/util/ArrayList" "java/util/AbstractList" "modCount" "I", Cond.fieldLink RJx4a65c 48 "java/util/ArrayList" "size" "I", Cond.methodLink RJx4a65c 131 yJx4a65c_add_72be8, Cond.instanceMethod yJx4a65c_add_72be8, Cond.selects RJx4a65c yJx4a65c_add_72be8 yJx4a65c_add_72be8, Cond.code yJx4a65c_add_72be8 cJx4a65c_add_72be8 4 none, Cond.methodLink RJx4a65c 129 yJx4a65c_grow_d5877, Cond.instanceMethod yJx4a65c_grow_d5877, Cond.selects RJx4a65c yJx4a65c_grow_d5877 yJx4a65c_grow_d5877, Cond.code yJx4a65c_grow_d5877 cJx4a65c_grow_d5877 1 (some (.array (.object "java/lang/Object"))), Cond.methodLink RJx4a65c 69 yJx4a65c_grow_92f84, Cond.instanceMethod yJx4a65c_grow_92f84, Cond.selects RJx4a65c yJx4a65c_grow_92f84 yJx4a65c_grow_92f84, Cond.code yJx4a65c_grow_92f84 cJx4a65c_grow_92f84 4 (some (.array (.object "java/lang/Object"))), Cond.methodLink RJx4a65c 79 Lib.Math.max.name, Cond.static Lib.Math.max.name, Cond.initialized "java/lang/Math", Cond.code Lib.Math.max.name Lib.Math.max.code 2 (some .int), Cond.classLink RJx4a65c 7 "java/lang/Object", Cond.methodLink RJx4a65c 73 yJ8_newLength_cabcc, Cond.static yJ8_newLength_cabcc, Cond.initialized RJ8]
def wsL_law0_r4 : List Cond := [Cond.code yJ8_newLength_cabcc cJ8_newLength_cabcc 4 (some .int), Cond.methodLink RJ8 194 Lib.Math.max.name, Cond.constant RJ8 200 (2147483639), Cond.methodLink RJ8 201 yJ8_hugeLength_7cf53, Cond.static yJ8_hugeLength_7cf53, Cond.code yJ8_hugeLength_7cf53 cJ8_hugeLength_7cf53 3 (some .int), Cond.methodLink RJx4a65c 66 yJ7_copyOf_1904c, Cond.static yJ7_copyOf_1904c, Cond.initialized RJ7, Cond.code yJ7_copyOf_1904c cJ7_copyOf_1904c 2 (some (.array (.object "java/lang/Object"))), Cond.methodLink RJ7 86 ⟨"java/lang/Object", "getClass", "()Ljava/lang/Class;"⟩, Cond.selects "[Ljava/lang/Object;" ⟨"java/lang/Object", "getClass", "()Ljava/lang/Class;"⟩ ⟨"java/lang/Object", "getClass", "()Ljava/lang/Class;"⟩, Cond.instanceMethod ⟨"java/lang/Object", "getClass", "()Ljava/lang/Class;"⟩, Cond.native ⟨"java/lang/Object", "getClass", "()Ljava/lang/Class;"⟩, Cond.methodLink RJ7 300 yJ7_copyOf_6403c, Cond.static yJ7_copyOf_6403c, Cond.code yJ7_copyOf_6403c cJ7_copyOf_6403c 4 (some (.array (.object "java/lang/Object"))), Cond.classLink RJ7 110 "[Ljava/lang/Object;", Cond.classLink RJ7 2 "java/lang/Object", Cond.methodLink RJ7 304 Lib.Math.min.name, Cond.static Lib.Math.min.name, Cond.code Lib.Math.min.name Lib.Math.min.code 2 (some .int), Cond.methodLink RJ7 150 arraycopyName, Cond.native arraycopyName]
def wsL_law0_r5 : List Cond := [Cond.static arraycopyName, Cond.initialized "java/lang/System", Cond.methodLink RL 84 yX4_init, Cond.instanceMethod yX4_init, Cond.code yX4_init cX4_init 2 none, Cond.methodLink RX4 1 objectInit, Cond.arrayClass .int, Cond.fieldLink RX4 7 "TaxEqualiserModel" "lower" "[I", Cond.fieldLink RX4 13 "TaxEqualiserModel" "upper" "[I", Cond.fieldLink RX4 16 "TaxEqualiserModel" "rate" "[I", Cond.fieldLink RX4 19 "TaxEqualiserModel" "home" "[I", Cond.fieldLink RX4 22 "TaxEqualiserModel" "host" "[I", Cond.fieldLink RX4 25 "TaxEqualiserModel" "pay" "[I", Cond.fieldLink RX4 28 "TaxEqualiserModel" "out" "[I", Cond.fieldLink RX4 31 "TaxEqualiserModel" "back" "[I", Cond.fieldLink RX4 34 "TaxEqualiserModel" "rent" "[I", Cond.fieldLink RX4 37 "TaxEqualiserModel" "norm" "[I", Cond.fieldLink RX4 40 "TaxEqualiserModel" "bonuses" "[I", Cond.fieldLink RX4 43 "TaxEqualiserModel" "coins" "[I", Cond.fieldLink RX4 46 "TaxEqualiserModel" "first" "[I", Cond.fieldLink RX4 49 "TaxEqualiserModel" "behind" "[I", Cond.constant RX4 52 (40000), Cond.methodLink RL 85 yL_setLimits, Cond.static yL_setLimits]
def wsL_law0_r6 : List Cond := [Cond.initialized RL, Cond.codeWith yL_setLimits cL_setLimits 5 (some .int) [(0, 7, 10, 13)], Cond.classLink RL 13 "java/lang/IllegalArgumentException", Cond.methodLink RL 7 yX3_setLimits, Cond.instanceMethod yX3_setLimits, Cond.selects RX3 yX3_setLimits yX3_setLimits, Cond.code yX3_setLimits cX3_setLimits 5 none, Cond.constant RX3 32 (1000000), Cond.methodLink RX3 28 yX3_landAt, Cond.instanceMethod yX3_landAt, Cond.selects RX3 yX3_landAt yX3_landAt, Cond.code yX3_landAt cX3_landAt 2 (some (.object "TaxEqualiser$Land")), Cond.classLink RX3 55 "java/lang/IllegalArgumentException", Cond.initialized "java/lang/IllegalArgumentException", Cond.classLink RX3 19 "TaxEqualiser$Land", Cond.methodLink RX3 63 ⟨"java/util/List", "size", "()I"⟩, Cond.selects RJx4a65c ⟨"java/util/List", "size", "()I"⟩ yJx4a65c_size_8abf5, Cond.instanceMethod yJx4a65c_size_8abf5, Cond.code yJx4a65c_size_8abf5 cJx4a65c_size_8abf5 1 (some .int), Cond.methodLink RX3 119 ⟨"java/util/List", "get", "(I)Ljava/lang/Object;"⟩, Cond.selects RJx4a65c ⟨"java/util/List", "get", "(I)Ljava/lang/Object;"⟩ yJx4a65c_get_915e3, Cond.instanceMethod yJx4a65c_get_915e3, Cond.code yJx4a65c_get_915e3 cJx4a65c_get_915e3 2 (some (.object "java/lang/Object")), Cond.methodLink RJx4a65c 118 yJ15_checkIndex_7cf53]
def wsL_law0_r7 : List Cond := [Cond.static yJ15_checkIndex_7cf53, Cond.initialized RJ15, Cond.code yJ15_checkIndex_7cf53 cJ15_checkIndex_7cf53 2 (some .int), Cond.methodLink RJ15 105 yJ3_checkIndex_8e157, Cond.static yJ3_checkIndex_8e157, Cond.initialized RJ3, Cond.code yJ3_checkIndex_8e157 cJ3_checkIndex_8e157 3 (some .int), Cond.methodLink RJx4a65c 123 yJx4a65c_elementData_915e3, Cond.instanceMethod yJx4a65c_elementData_915e3, Cond.selects RJx4a65c yJx4a65c_elementData_915e3 yJx4a65c_elementData_915e3, Cond.code yJx4a65c_elementData_915e3 cJx4a65c_elementData_915e3 2 (some (.object "java/lang/Object")), Cond.methodLink RX3 33 yX3_requireRange, Cond.static yX3_requireRange, Cond.code yX3_requireRange cX3_requireRange 3 none, Cond.methodLink RX3 37 yX1_limit, Cond.instanceMethod yX1_limit, Cond.selects RX1 yX1_limit yX1_limit, Cond.code yX1_limit cX1_limit 3 none, Cond.methodLink RL 90 yX4_setLimits, Cond.instanceMethod yX4_setLimits, Cond.selects RX4 yX4_setLimits yX4_setLimits, Cond.code yX4_setLimits cX4_setLimits 4 none, Cond.constant RX4 75 (1000000), Cond.fieldLink RX4 53 "TaxEqualiserModel" "thrown" "I"]
def wsL_law0_r8 : List Cond := [Cond.methodLink RX4 71 yX4_isLand, Cond.static yX4_isLand, Cond.code yX4_isLand cX4_isLand 1 (some .boolean), Cond.methodLink RX4 57 yX4_in, Cond.static yX4_in, Cond.code yX4_in cX4_in 3 (some .boolean), Cond.methodLink RL 91 yX4_thrown, Cond.instanceMethod yX4_thrown, Cond.selects RX4 yX4_thrown yX4_thrown, Cond.code yX4_thrown cX4_thrown 1 (some .int), Cond.methodLink RL 95 yL_setRates, Cond.static yL_setRates, Cond.codeWith yL_setRates cL_setRates 6 (some .int) [(0, 9, 12, 13)], Cond.methodLink RL 15 yX3_setRates, Cond.instanceMethod yX3_setRates, Cond.selects RX3 yX3_setRates yX3_setRates, Cond.code yX3_setRates cX3_setRates 6 none, Cond.methodLink RX3 41 yX1_rate, Cond.instanceMethod yX1_rate, Cond.selects RX1 yX1_rate yX1_rate, Cond.code yX1_rate cX1_rate 4 none, Cond.methodLink RL 98 yX4_setRates, Cond.instanceMethod yX4_setRates, Cond.selects RX4 yX4_setRates yX4_setRates]
def wsL_law0_r9 : List Cond := [Cond.code yX4_setRates cX4_setRates 5 none, Cond.methodLink RL 99 yL_tax, Cond.static yL_tax, Cond.codeWith yL_tax cL_tax 5 (some .int) [(0, 10, 13, 13)], Cond.methodLink RL 19 yX3_tax, Cond.instanceMethod yX3_tax, Cond.selects RX3 yX3_tax yX3_tax, Cond.code yX3_tax cX3_tax 4 (some .int), Cond.constant RX3 44 (10000000), Cond.methodLink RX3 45 yX1_taxOf, Cond.instanceMethod yX1_taxOf, Cond.selects RX1 yX1_taxOf yX1_taxOf, Cond.code yX1_taxOf cX1_taxOf 8 (some .int), Cond.methodLink RX1 28 Lib.Math.min.name, Cond.methodLink RX1 34 Lib.Math.max.name, Cond.constantLong RX1 37 (100), Cond.methodLink RL 102 yX4_tax, Cond.instanceMethod yX4_tax, Cond.selects RX4 yX4_tax yX4_tax, Cond.code yX4_tax cX4_tax 3 (some .int), Cond.constant RX4 76 (10000000), Cond.methodLink RX4 67 yX4_taxOf, Cond.instanceMethod yX4_taxOf, Cond.selects RX4 yX4_taxOf yX4_taxOf]
def wsL_law0_r10 : List Cond := [Cond.code yX4_taxOf cX4_taxOf 10 (some .long), Cond.constantLong RX4 64 (100), Cond.methodLink RX4 77 yX4_fails, Cond.instanceMethod yX4_fails, Cond.selects RX4 yX4_fails yX4_fails, Cond.code yX4_fails cX4_fails 2 (some .int), Cond.methodLink RL 103 yL_grossTax, Cond.static yL_grossTax, Cond.codeWith yL_grossTax cL_grossTax 5 (some .int) [(0, 10, 13, 13)], Cond.methodLink RL 23 yX3_grossTax, Cond.instanceMethod yX3_grossTax, Cond.selects RX3 yX3_grossTax yX3_grossTax, Cond.code yX3_grossTax cX3_grossTax 4 (some .int), Cond.methodLink RX3 49 yX1_grossTaxOf, Cond.instanceMethod yX1_grossTaxOf, Cond.selects RX1 yX1_grossTaxOf yX1_grossTaxOf, Cond.code yX1_grossTaxOf cX1_grossTaxOf 6 (some .int), Cond.methodLink RX1 39 yX1_mostGrossTax, Cond.static yX1_mostGrossTax, Cond.code yX1_mostGrossTax cX1_mostGrossTax 1 (some .int), Cond.methodLink RX1 43 yX1_taxOf, Cond.methodLink RL 105 yX4_grossTax, Cond.instanceMethod yX4_grossTax, Cond.selects RX4 yX4_grossTax yX4_grossTax]
def wsL_law0_r11 : List Cond := [Cond.code yX4_grossTax cX4_grossTax 3 (some .int), Cond.methodLink RX4 81 yX4_gross, Cond.instanceMethod yX4_gross, Cond.selects RX4 yX4_gross yX4_gross, Cond.code yX4_gross cX4_gross 8 (some .int), Cond.constant RX4 66 (40000000), Cond.methodLink RL 106 yL_grossTaxByTrying, Cond.static yL_grossTaxByTrying, Cond.codeWith yL_grossTaxByTrying cL_grossTaxByTrying 5 (some .int) [(0, 10, 13, 13)], Cond.methodLink RL 26 yX3_grossTaxByTrying, Cond.instanceMethod yX3_grossTaxByTrying, Cond.selects RX3 yX3_grossTaxByTrying yX3_grossTaxByTrying, Cond.code yX3_grossTaxByTrying cX3_grossTaxByTrying 4 (some .int), Cond.methodLink RX3 52 yX1_grossTaxTried, Cond.instanceMethod yX1_grossTaxTried, Cond.selects RX1 yX1_grossTaxTried yX1_grossTaxTried, Cond.code yX1_grossTaxTried cX1_grossTaxTried 4 (some .int), Cond.methodLink RL 108 yX4_grossTaxByTrying, Cond.instanceMethod yX4_grossTaxByTrying, Cond.selects RX4 yX4_grossTaxByTrying yX4_grossTaxByTrying, Cond.code yX4_grossTaxByTrying cX4_grossTaxByTrying 3 (some .int), Cond.methodLink RL 109 yL_add, Cond.static yL_add, Cond.codeWith yL_add cL_add 6 (some .int) [(0, 12, 15, 13), (0, 12, 19, 33)]]
def wsL_law0_r12 : List Cond := [Cond.classLink RL 33 "java/lang/IllegalStateException", Cond.methodLink RL 29 yX3_add, Cond.instanceMethod yX3_add, Cond.selects RX3 yX3_add yX3_add, Cond.code yX3_add cX3_add 6 (some .int), Cond.classLink RX3 67 "java/lang/IllegalStateException", Cond.initialized "java/lang/IllegalStateException", Cond.constant RX3 62 (100000), Cond.classLink RX3 72 RX2, Cond.instantiable RX2 8, Cond.initialized RX2, Cond.methodLink RX3 74 yX2_init, Cond.instanceMethod yX2_init, Cond.code yX2_init cX2_init 4 none, Cond.methodLink RX2 3 objectInit, Cond.classLink RX2 9 RJx4a65c, Cond.fieldLink RX2 12 "TaxEqualiser$Person" "bonuses" "Ljava/util/List;", Cond.fieldLink RX2 18 "TaxEqualiser$Person" "abroadFrom" "I", Cond.fieldLink RX2 22 "TaxEqualiser$Person" "abroadTo" "I", Cond.fieldLink RX2 25 "TaxEqualiser$Person" "rent" "I", Cond.fieldLink RX2 28 "TaxEqualiser$Person" "norm" "I", Cond.fieldLink RX2 31 "TaxEqualiser$Person" "home" "LTaxEqualiser$Land;", Cond.fieldLink RX2 35 "TaxEqualiser$Person" "host" "LTaxEqualiser$Land;", Cond.fieldLink RX2 38 "TaxEqualiser$Person" "pay" "I"]
def wsL_law0_r13 : List Cond := [Cond.methodLink RX2 11 yJx4a65c_init_da8c8, Cond.methodLink RL 112 yX4_add, Cond.instanceMethod yX4_add, Cond.selects RX4 yX4_add yX4_add, Cond.code yX4_add cX4_add 4 (some .int), Cond.constant RX4 85 (100000), Cond.fieldLink RX4 61 "TaxEqualiserModel" "people" "I", Cond.methodLink RL 113 yL_setAbroad, Cond.static yL_setAbroad, Cond.codeWith yL_setAbroad cL_setAbroad 6 (some .int) [(0, 12, 15, 38), (0, 12, 19, 13)], Cond.classLink RL 38 "java/lang/IndexOutOfBoundsException", Cond.methodLink RL 35 yX3_setAbroad, Cond.instanceMethod yX3_setAbroad, Cond.selects RX3 yX3_setAbroad yX3_setAbroad, Cond.code yX3_setAbroad cX3_setAbroad 6 (some .int), Cond.methodLink RX3 77 yX3_personAt, Cond.instanceMethod yX3_personAt, Cond.selects RX3 yX3_personAt yX3_personAt, Cond.code yX3_personAt cX3_personAt 2 (some (.object "TaxEqualiser$Person")), Cond.classLink RX3 114 "java/lang/IndexOutOfBoundsException", Cond.initialized "java/lang/IndexOutOfBoundsException", Cond.classLink RX3 72 "TaxEqualiser$Person", Cond.methodLink RX3 81 yX2_monthsAbroad, Cond.instanceMethod yX2_monthsAbroad]
def wsL_law0_r14 : List Cond := [Cond.selects RX2 yX2_monthsAbroad yX2_monthsAbroad, Cond.code yX2_monthsAbroad cX2_monthsAbroad 1 (some .int), Cond.methodLink RL 115 yX4_setAbroad, Cond.instanceMethod yX4_setAbroad, Cond.selects RX4 yX4_setAbroad yX4_setAbroad, Cond.code yX4_setAbroad cX4_setAbroad 5 (some .int), Cond.methodLink RX4 86 yX4_isAsked, Cond.instanceMethod yX4_isAsked, Cond.selects RX4 yX4_isAsked yX4_isAsked, Cond.code yX4_isAsked cX4_isAsked 2 (some .boolean), Cond.methodLink RL 116 yL_setPay, Cond.static yL_setPay, Cond.codeWith yL_setPay cL_setPay 5 (some .int) [(0, 10, 13, 38), (0, 10, 17, 13)], Cond.methodLink RL 40 yX3_setPay, Cond.instanceMethod yX3_setPay, Cond.selects RX3 yX3_setPay yX3_setPay, Cond.code yX3_setPay cX3_setPay 5 (some .int), Cond.methodLink RL 118 yX4_setPay, Cond.instanceMethod yX4_setPay, Cond.selects RX4 yX4_setPay yX4_setPay, Cond.code yX4_setPay cX4_setPay 4 (some .int), Cond.methodLink RL 119 yL_setHousing, Cond.static yL_setHousing, Cond.codeWith yL_setHousing cL_setHousing 6 (some .int) [(0, 12, 15, 38), (0, 12, 19, 13)]]
def wsL_law0_r15 : List Cond := [Cond.methodLink RL 43 yX3_setHousing, Cond.instanceMethod yX3_setHousing, Cond.selects RX3 yX3_setHousing yX3_setHousing, Cond.code yX3_setHousing cX3_setHousing 5 (some .int), Cond.constant RX3 94 (50000), Cond.methodLink RX3 101 yX2_ownShare, Cond.instanceMethod yX2_ownShare, Cond.selects RX2 yX2_ownShare yX2_ownShare, Cond.code yX2_ownShare cX2_ownShare 1 (some .int), Cond.methodLink RX2 41 Lib.Math.min.name, Cond.methodLink RL 121 yX4_setHousing, Cond.instanceMethod yX4_setHousing, Cond.selects RX4 yX4_setHousing yX4_setHousing, Cond.code yX4_setHousing cX4_setHousing 4 (some .int), Cond.constant RX4 89 (50000), Cond.methodLink RX4 90 yX4_own, Cond.instanceMethod yX4_own, Cond.selects RX4 yX4_own yX4_own, Cond.code yX4_own cX4_own 3 (some .int), Cond.methodLink RL 122 yL_addBonus, Cond.static yL_addBonus, Cond.codeWith yL_addBonus cL_addBonus 7 (some .int) [(0, 14, 17, 38), (0, 14, 21, 13), (0, 14, 25, 33)], Cond.methodLink RL 46 yX3_addBonus, Cond.instanceMethod yX3_addBonus]
def wsL_law0_r16 : List Cond := [Cond.selects RX3 yX3_addBonus yX3_addBonus, Cond.code yX3_addBonus cX3_addBonus 6 (some .int), Cond.constant RX3 104 (500000), Cond.classLink RX3 110 RX0, Cond.instantiable RX0 3, Cond.initialized RX0, Cond.methodLink RX3 112 yX0_init, Cond.instanceMethod yX0_init, Cond.code yX0_init cX0_init 4 none, Cond.methodLink RX0 1 objectInit, Cond.fieldLink RX0 7 "TaxEqualiser$Bonus" "coins" "I", Cond.fieldLink RX0 13 "TaxEqualiser$Bonus" "from" "I", Cond.fieldLink RX0 16 "TaxEqualiser$Bonus" "to" "I", Cond.methodLink RL 125 yX4_addBonus, Cond.instanceMethod yX4_addBonus, Cond.selects RX4 yX4_addBonus yX4_addBonus, Cond.code yX4_addBonus cX4_addBonus 6 (some .int), Cond.constant RX4 93 (500000), Cond.methodLink RL 126 yX3_people, Cond.instanceMethod yX3_people, Cond.selects RX3 yX3_people yX3_people, Cond.code yX3_people cX3_people 1 (some .int), Cond.methodLink RL 129 yX4_people, Cond.instanceMethod yX4_people]
def wsL_law0_r17 : List Cond := [Cond.selects RX4 yX4_people yX4_people, Cond.code yX4_people cX4_people 1 (some .int), Cond.methodLink RL 130 yL_abroadPart, Cond.static yL_abroadPart, Cond.codeWith yL_abroadPart cL_abroadPart 5 (some .int) [(0, 10, 13, 38)], Cond.methodLink RL 50 yX3_abroadPart, Cond.instanceMethod yX3_abroadPart, Cond.selects RX3 yX3_abroadPart yX3_abroadPart, Cond.code yX3_abroadPart cX3_abroadPart 4 (some .int), Cond.classLink RX3 110 "TaxEqualiser$Bonus", Cond.methodLink RX3 123 yX2_partAbroad, Cond.instanceMethod yX2_partAbroad, Cond.selects RX2 yX2_partAbroad yX2_partAbroad, Cond.code yX2_partAbroad cX2_partAbroad 4 (some .int), Cond.methodLink RX2 55 Lib.Math.max.name, Cond.methodLink RL 132 yX4_abroadPart, Cond.instanceMethod yX4_abroadPart, Cond.selects RX4 yX4_abroadPart yX4_abroadPart, Cond.code yX4_abroadPart cX4_abroadPart 3 (some .int), Cond.methodLink RX4 94 yX4_part, Cond.instanceMethod yX4_part, Cond.selects RX4 yX4_part yX4_part, Cond.code yX4_part cX4_part 6 (some .int), Cond.methodLink RL 133 yL_held]
def wsL_law0_r18 : List Cond := [Cond.static yL_held, Cond.codeWith yL_held cL_held 5 (some .int) [(0, 10, 13, 38), (0, 10, 17, 13)], Cond.methodLink RL 53 yX3_held, Cond.instanceMethod yX3_held, Cond.selects RX3 yX3_held yX3_held, Cond.code yX3_held cX3_held 4 (some .int), Cond.methodLink RX3 127 yX2_isAbroadIn, Cond.instanceMethod yX2_isAbroadIn, Cond.selects RX2 yX2_isAbroadIn yX2_isAbroadIn, Cond.code yX2_isAbroadIn cX2_isAbroadIn 2 (some .boolean), Cond.methodLink RX3 131 yX2_heldEachMonth, Cond.instanceMethod yX2_heldEachMonth, Cond.selects RX2 yX2_heldEachMonth yX2_heldEachMonth, Cond.code yX2_heldEachMonth cX2_heldEachMonth 1 (some .int), Cond.methodLink RX2 71 yX1_taxOf, Cond.methodLink RL 135 yX4_held, Cond.instanceMethod yX4_held, Cond.selects RX4 yX4_held yX4_held, Cond.code yX4_held cX4_held 3 (some .int), Cond.methodLink RX4 112 yX4_heldOf, Cond.instanceMethod yX4_heldOf, Cond.selects RX4 yX4_heldOf yX4_heldOf, Cond.code yX4_heldOf cX4_heldOf 2 (some .int), Cond.constantLong RX4 98 (12)]
def wsL_law0_r19 : List Cond := [Cond.methodLink RL 136 yL_supposedTax, Cond.static yL_supposedTax, Cond.codeWith yL_supposedTax cL_supposedTax 4 (some .int) [(0, 9, 12, 38)], Cond.methodLink RL 56 yX3_supposedTax, Cond.instanceMethod yX3_supposedTax, Cond.selects RX3 yX3_supposedTax yX3_supposedTax, Cond.code yX3_supposedTax cX3_supposedTax 2 (some .int), Cond.methodLink RX3 134 yX2_supposedTaxOfYear, Cond.instanceMethod yX2_supposedTaxOfYear, Cond.selects RX2 yX2_supposedTaxOfYear yX2_supposedTaxOfYear, Cond.code yX2_supposedTaxOfYear cX2_supposedTaxOfYear 1 (some .int), Cond.methodLink RX2 86 yX2_wholeIncome, Cond.instanceMethod yX2_wholeIncome, Cond.selects RX2 yX2_wholeIncome yX2_wholeIncome, Cond.code yX2_wholeIncome cX2_wholeIncome 3 (some .int), Cond.classLink RX2 48 "TaxEqualiser$Bonus", Cond.methodLink RX2 61 ⟨"java/util/List", "size", "()I"⟩, Cond.methodLink RX2 67 ⟨"java/util/List", "get", "(I)Ljava/lang/Object;"⟩, Cond.methodLink RL 139 yX4_supposedTax, Cond.instanceMethod yX4_supposedTax, Cond.selects RX4 yX4_supposedTax yX4_supposedTax, Cond.code yX4_supposedTax cX4_supposedTax 2 (some .int), Cond.methodLink RX4 121 yX4_supposed, Cond.instanceMethod yX4_supposed]
def wsL_law0_r20 : List Cond := [Cond.selects RX4 yX4_supposed yX4_supposed, Cond.code yX4_supposed cX4_supposed 2 (some .int), Cond.methodLink RX4 100 yX4_whole, Cond.instanceMethod yX4_whole, Cond.selects RX4 yX4_whole yX4_whole, Cond.code yX4_whole cX4_whole 4 (some .int), Cond.methodLink RL 140 yL_homeIncome, Cond.static yL_homeIncome, Cond.codeWith yL_homeIncome cL_homeIncome 4 (some .int) [(0, 9, 12, 38)], Cond.methodLink RL 60 yX3_homeIncome, Cond.instanceMethod yX3_homeIncome, Cond.selects RX3 yX3_homeIncome yX3_homeIncome, Cond.code yX3_homeIncome cX3_homeIncome 2 (some .int), Cond.methodLink RX3 137 yX2_incomeAtHome, Cond.instanceMethod yX2_incomeAtHome, Cond.selects RX2 yX2_incomeAtHome yX2_incomeAtHome, Cond.code yX2_incomeAtHome cX2_incomeAtHome 4 (some .int), Cond.methodLink RX2 77 yX2_monthsAbroad, Cond.methodLink RX2 89 yX2_partAbroad, Cond.methodLink RL 142 yX4_homeIncome, Cond.instanceMethod yX4_homeIncome, Cond.selects RX4 yX4_homeIncome yX4_homeIncome, Cond.code yX4_homeIncome cX4_homeIncome 2 (some .int), Cond.methodLink RX4 109 yX4_atHome]
def wsL_law0_r21 : List Cond := [Cond.instanceMethod yX4_atHome, Cond.selects RX4 yX4_atHome yX4_atHome, Cond.code yX4_atHome cX4_atHome 2 (some .int), Cond.methodLink RX4 103 yX4_months, Cond.instanceMethod yX4_months, Cond.selects RX4 yX4_months yX4_months, Cond.code yX4_months cX4_months 2 (some .int), Cond.methodLink RX4 106 yX4_parts, Cond.instanceMethod yX4_parts, Cond.selects RX4 yX4_parts yX4_parts, Cond.code yX4_parts cX4_parts 4 (some .int), Cond.methodLink RL 143 yL_homeTax, Cond.static yL_homeTax, Cond.codeWith yL_homeTax cL_homeTax 4 (some .int) [(0, 9, 12, 38)], Cond.methodLink RL 63 yX3_homeTax, Cond.instanceMethod yX3_homeTax, Cond.selects RX3 yX3_homeTax yX3_homeTax, Cond.code yX3_homeTax cX3_homeTax 2 (some .int), Cond.methodLink RX3 140 yX2_taxAtHome, Cond.instanceMethod yX2_taxAtHome, Cond.selects RX2 yX2_taxAtHome yX2_taxAtHome, Cond.code yX2_taxAtHome cX2_taxAtHome 2 (some .int), Cond.methodLink RX2 93 yX2_incomeAtHome, Cond.methodLink RL 145 yX4_homeTax]
def wsL_law0_r22 : List Cond := [Cond.instanceMethod yX4_homeTax, Cond.selects RX4 yX4_homeTax yX4_homeTax, Cond.code yX4_homeTax cX4_homeTax 2 (some .int), Cond.methodLink RX4 115 yX4_taxAtHome, Cond.instanceMethod yX4_taxAtHome, Cond.selects RX4 yX4_taxAtHome yX4_taxAtHome, Cond.code yX4_taxAtHome cX4_taxAtHome 3 (some .int), Cond.methodLink RL 146 yL_hostIncome, Cond.static yL_hostIncome, Cond.codeWith yL_hostIncome cL_hostIncome 4 (some .int) [(0, 9, 12, 38)], Cond.methodLink RL 66 yX3_hostIncome, Cond.instanceMethod yX3_hostIncome, Cond.selects RX3 yX3_hostIncome yX3_hostIncome, Cond.code yX3_hostIncome cX3_hostIncome 2 (some .int), Cond.methodLink RX3 143 yX2_incomeAtHost, Cond.instanceMethod yX2_incomeAtHost, Cond.selects RX2 yX2_incomeAtHost yX2_incomeAtHost, Cond.code yX2_incomeAtHost cX2_incomeAtHost 3 (some .int), Cond.methodLink RX2 96 yX2_housingInYear, Cond.instanceMethod yX2_housingInYear, Cond.selects RX2 yX2_housingInYear yX2_housingInYear, Cond.code yX2_housingInYear cX2_housingInYear 1 (some .int), Cond.methodLink RX2 83 yX2_ownShare, Cond.methodLink RL 148 yX4_hostIncome]
def wsL_law0_r23 : List Cond := [Cond.instanceMethod yX4_hostIncome, Cond.selects RX4 yX4_hostIncome yX4_hostIncome, Cond.code yX4_hostIncome cX4_hostIncome 2 (some .int), Cond.methodLink RX4 118 yX4_abroad, Cond.instanceMethod yX4_abroad, Cond.selects RX4 yX4_abroad yX4_abroad, Cond.code yX4_abroad cX4_abroad 2 (some .int), Cond.methodLink RL 149 yL_hostTax, Cond.static yL_hostTax, Cond.codeWith yL_hostTax cL_hostTax 4 (some .int) [(0, 9, 12, 38)], Cond.methodLink RL 69 yX3_hostTax, Cond.instanceMethod yX3_hostTax, Cond.selects RX3 yX3_hostTax yX3_hostTax, Cond.code yX3_hostTax cX3_hostTax 2 (some .int), Cond.methodLink RX3 146 yX2_taxAtHost, Cond.instanceMethod yX2_taxAtHost, Cond.selects RX2 yX2_taxAtHost yX2_taxAtHost, Cond.code yX2_taxAtHost cX2_taxAtHost 1 (some .int), Cond.methodLink RX2 99 yX2_incomeAtHost, Cond.methodLink RX2 102 yX1_grossTaxOf, Cond.methodLink RL 151 yX4_hostTax, Cond.instanceMethod yX4_hostTax, Cond.selects RX4 yX4_hostTax yX4_hostTax, Cond.code yX4_hostTax cX4_hostTax 2 (some .int)]
def wsL_law0_r24 : List Cond := [Cond.methodLink RL 152 yL_borne, Cond.static yL_borne, Cond.codeWith yL_borne cL_borne 4 (some .int) [(0, 9, 12, 38)], Cond.methodLink RL 72 yX3_borne, Cond.instanceMethod yX3_borne, Cond.selects RX3 yX3_borne yX3_borne, Cond.code yX3_borne cX3_borne 2 (some .int), Cond.methodLink RX3 149 yX2_borneInYear, Cond.instanceMethod yX2_borneInYear, Cond.selects RX2 yX2_borneInYear yX2_borneInYear, Cond.code yX2_borneInYear cX2_borneInYear 1 (some .int), Cond.methodLink RX2 105 yX2_heldInYear, Cond.instanceMethod yX2_heldInYear, Cond.selects RX2 yX2_heldInYear yX2_heldInYear, Cond.code yX2_heldInYear cX2_heldInYear 1 (some .int), Cond.methodLink RX2 80 yX2_heldEachMonth, Cond.methodLink RX2 108 yX2_taxAtHome, Cond.methodLink RL 154 yX4_borne, Cond.instanceMethod yX4_borne, Cond.selects RX4 yX4_borne yX4_borne, Cond.code yX4_borne cX4_borne 2 (some .int), Cond.methodLink RX4 124 yX4_bears, Cond.instanceMethod yX4_bears, Cond.selects RX4 yX4_bears yX4_bears]
def wsL_law0_r25 : List Cond := [Cond.code yX4_bears cX4_bears 2 (some .int), Cond.methodLink RL 155 yL_settlement, Cond.static yL_settlement, Cond.codeWith yL_settlement cL_settlement 4 (some .int) [(0, 9, 12, 38)], Cond.methodLink RL 75 yX3_settlement, Cond.instanceMethod yX3_settlement, Cond.selects RX3 yX3_settlement yX3_settlement, Cond.code yX3_settlement cX3_settlement 2 (some .int), Cond.methodLink RX3 152 yX2_settlementOfYear, Cond.instanceMethod yX2_settlementOfYear, Cond.selects RX2 yX2_settlementOfYear yX2_settlementOfYear, Cond.code yX2_settlementOfYear cX2_settlementOfYear 1 (some .int), Cond.methodLink RX2 111 yX2_supposedTaxOfYear, Cond.methodLink RX2 114 yX2_borneInYear, Cond.methodLink RL 157 yX4_settlement, Cond.instanceMethod yX4_settlement, Cond.selects RX4 yX4_settlement yX4_settlement, Cond.code yX4_settlement cX4_settlement 2 (some .int), Cond.methodLink RL 158 yL_cost, Cond.static yL_cost, Cond.codeWith yL_cost cL_cost 4 (some .int) [(0, 9, 12, 38)], Cond.methodLink RL 78 yX3_cost, Cond.instanceMethod yX3_cost, Cond.selects RX3 yX3_cost yX3_cost]
def wsL_law0_r26 : List Cond := [Cond.code yX3_cost cX3_cost 2 (some .int), Cond.methodLink RX3 155 yX2_costOfYear, Cond.instanceMethod yX2_costOfYear, Cond.selects RX2 yX2_costOfYear yX2_costOfYear, Cond.code yX2_costOfYear cX2_costOfYear 1 (some .int), Cond.methodLink RX2 117 yX2_taxAtHost, Cond.methodLink RX2 120 yX2_settlementOfYear, Cond.methodLink RL 160 yX4_cost, Cond.instanceMethod yX4_cost, Cond.selects RX4 yX4_cost yX4_cost, Cond.code yX4_cost cX4_cost 2 (some .int), Cond.methodLink RX4 127 yX4_costOf, Cond.instanceMethod yX4_costOf, Cond.selects RX4 yX4_costOf yX4_costOf, Cond.code yX4_costOf cX4_costOf 2 (some .int), Cond.methodLink RL 161 yX3_dearest, Cond.instanceMethod yX3_dearest, Cond.selects RX3 yX3_dearest yX3_dearest, Cond.code yX3_dearest cX3_dearest 5 (some .int), Cond.methodLink RL 164 yX4_dearest, Cond.instanceMethod yX4_dearest, Cond.selects RX4 yX4_dearest yX4_dearest, Cond.code yX4_dearest cX4_dearest 3 (some .int)]
def wsL_law0 : List Cond := (wsL_law0_r1 ++ (wsL_law0_r2 ++ (wsL_law0_r3 ++ (wsL_law0_r4 ++ (wsL_law0_r5 ++ (wsL_law0_r6 ++ (wsL_law0_r7 ++ (wsL_law0_r8 ++ (wsL_law0_r9 ++ (wsL_law0_r10 ++ (wsL_law0_r11 ++ (wsL_law0_r12 ++ (wsL_law0_r13 ++ (wsL_law0_r14 ++ (wsL_law0_r15 ++ (wsL_law0_r16 ++ (wsL_law0_r17 ++ (wsL_law0_r18 ++ (wsL_law0_r19 ++ (wsL_law0_r20 ++ (wsL_law0_r21 ++ (wsL_law0_r22 ++ (wsL_law0_r23 ++ (wsL_law0_r24 ++ (wsL_law0_r25 ++ wsL_law0_r26))))))))))))))))))))))))) ++ wsX30 ++ wsX40 ++ wsJx4a65c0 ++ wsX10 ++ wsX20 ++ wsX00 ++ ([] : List Cond)
def wsL_law : List Cond := wsL_law0 ++ (vx_atS RX3 59 "java/lang/IllegalArgumentException" ["java/lang/RuntimeException", "java/lang/Exception"]).filter goodWord ++ (vx_atS RX3 71 "java/lang/IllegalStateException" ["java/lang/RuntimeException", "java/lang/Exception"]).filter goodWord ++ (vx_atS RX3 118 "java/lang/IndexOutOfBoundsException" ["java/lang/RuntimeException", "java/lang/Exception"]).filter goodWord
theorem aw_app {P : Cond → Prop} {a b : List Cond} (ha : ∀ w ∈ a, P w) (hb : ∀ w ∈ b, P w) : ∀ w ∈ a ++ b, P w := fun w h => (List.mem_append.mp h).elim (ha w) (hb w)
set_option maxRecDepth 20000 in
theorem wsL_law0_r1_q : ∀ w ∈ wsL_law0_r1, w ∈ lw_tbl := fun w h => (goodIn_p wsL_law0_r1 [47, 50, 55] (by decide +kernel) (by decide +kernel) w h).1
set_option maxRecDepth 20000 in
theorem wsL_law0_r2_q : ∀ w ∈ wsL_law0_r2, w ∈ lw_tbl := fun w h => (goodIn_p wsL_law0_r2 [58, 61, 81] (by decide +kernel) (by decide +kernel) w h).1
set_option maxRecDepth 20000 in
theorem wsL_law0_r3_q : ∀ w ∈ wsL_law0_r3, w ∈ lw_tbl := fun w h => (goodIn_p wsL_law0_r3 [109, 113, 117, 121, 127] (by decide +kernel) (by decide +kernel) w h).1
set_option maxRecDepth 20000 in
theorem wsL_law0_r4_q : ∀ w ∈ wsL_law0_r4, w ∈ lw_tbl := fun w h => (goodIn_p wsL_law0_r4 [124, 131, 134, 150, 156] (by decide +kernel) (by decide +kernel) w h).1
set_option maxRecDepth 20000 in
theorem wsL_law0_r5_q : ∀ w ∈ wsL_law0_r5, w ∈ lw_tbl := fun w h => (goodIn_p wsL_law0_r5 [641] (by decide +kernel) (by decide +kernel) w h).1
set_option maxRecDepth 20000 in
theorem wsL_law0_r6_q : ∀ w ∈ wsL_law0_r6, w ∈ lw_tbl := fun w h => (goodIn_p wsL_law0_r6 [295, 299, 181, 194] (by decide +kernel) (by decide +kernel) w h).1
set_option maxRecDepth 20000 in
theorem wsL_law0_r7_q : ∀ w ∈ wsL_law0_r7, w ∈ lw_tbl := fun w h => (goodIn_p wsL_law0_r7 [197, 200, 204, 371, 376, 701] (by decide +kernel) (by decide +kernel) w h).1
set_option maxRecDepth 20000 in
theorem wsL_law0_r8_q : ∀ w ∈ wsL_law0_r8, w ∈ lw_tbl := fun w h => (goodIn_p wsL_law0_r8 [704, 707, 697, 383, 387] (by decide +kernel) (by decide +kernel) w h).1
set_option maxRecDepth 20000 in
theorem wsL_law0_r9_q : ∀ w ∈ wsL_law0_r9, w ∈ lw_tbl := fun w h => (goodIn_p wsL_law0_r9 [712, 394, 251, 716] (by decide +kernel) (by decide +kernel) w h).1
set_option maxRecDepth 20000 in
theorem wsL_law0_r10_q : ∀ w ∈ wsL_law0_r10, w ∈ lw_tbl := fun w h => (goodIn_p wsL_law0_r10 [721, 726, 403, 244, 247] (by decide +kernel) (by decide +kernel) w h).1
set_option maxRecDepth 20000 in
theorem wsL_law0_r11_q : ∀ w ∈ wsL_law0_r11, w ∈ lw_tbl := fun w h => (goodIn_p wsL_law0_r11 [730, 734, 411, 415, 739] (by decide +kernel) (by decide +kernel) w h).1
set_option maxRecDepth 20000 in
theorem wsL_law0_r12_q : ∀ w ∈ wsL_law0_r12, w ∈ lw_tbl := fun w h => (goodIn_p wsL_law0_r12 [423, 445] (by decide +kernel) (by decide +kernel) w h).1
set_option maxRecDepth 20000 in
theorem wsL_law0_r13_q : ∀ w ∈ wsL_law0_r13, w ∈ lw_tbl := fun w h => (goodIn_p wsL_law0_r13 [743, 487, 491] (by decide +kernel) (by decide +kernel) w h).1
set_option maxRecDepth 20000 in
theorem wsL_law0_r14_q : ∀ w ∈ wsL_law0_r14, w ∈ lw_tbl := fun w h => (goodIn_p wsL_law0_r14 [221, 748, 752, 515, 756] (by decide +kernel) (by decide +kernel) w h).1
set_option maxRecDepth 20000 in
theorem wsL_law0_r15_q : ∀ w ∈ wsL_law0_r15, w ∈ lw_tbl := fun w h => (goodIn_p wsL_law0_r15 [522, 229, 760, 765] (by decide +kernel) (by decide +kernel) w h).1
set_option maxRecDepth 20000 in
theorem wsL_law0_r16_q : ∀ w ∈ wsL_law0_r16, w ∈ lw_tbl := fun w h => (goodIn_p wsL_law0_r16 [531, 538, 769, 172] (by decide +kernel) (by decide +kernel) w h).1
set_option maxRecDepth 20000 in
theorem wsL_law0_r17_q : ∀ w ∈ wsL_law0_r17, w ∈ lw_tbl := fun w h => (goodIn_p wsL_law0_r17 [774, 559, 239, 778, 782] (by decide +kernel) (by decide +kernel) w h).1
set_option maxRecDepth 20000 in
theorem wsL_law0_r18_q : ∀ w ∈ wsL_law0_r18, w ∈ lw_tbl := fun w h => (goodIn_p wsL_law0_r18 [568, 572, 262, 786, 790] (by decide +kernel) (by decide +kernel) w h).1
set_option maxRecDepth 20000 in
theorem wsL_law0_r19_q : ∀ w ∈ wsL_law0_r19, w ∈ lw_tbl := fun w h => (goodIn_p wsL_law0_r19 [580, 271, 275, 795] (by decide +kernel) (by decide +kernel) w h).1
set_option maxRecDepth 20000 in
theorem wsL_law0_r20_q : ∀ w ∈ wsL_law0_r20, w ∈ lw_tbl := fun w h => (goodIn_p wsL_law0_r20 [799, 803, 588, 287, 807] (by decide +kernel) (by decide +kernel) w h).1
set_option maxRecDepth 20000 in
theorem wsL_law0_r21_q : ∀ w ∈ wsL_law0_r21, w ∈ lw_tbl := fun w h => (goodIn_p wsL_law0_r21 [811, 815, 819, 596, 283] (by decide +kernel) (by decide +kernel) w h).1
set_option maxRecDepth 20000 in
theorem wsL_law0_r22_q : ∀ w ∈ wsL_law0_r22, w ∈ lw_tbl := fun w h => (goodIn_p wsL_law0_r22 [823, 827, 604, 217, 225] (by decide +kernel) (by decide +kernel) w h).1
set_option maxRecDepth 20000 in
theorem wsL_law0_r23_q : ∀ w ∈ wsL_law0_r23, w ∈ lw_tbl := fun w h => (goodIn_p wsL_law0_r23 [831, 835, 612, 213, 839] (by decide +kernel) (by decide +kernel) w h).1
set_option maxRecDepth 20000 in
theorem wsL_law0_r24_q : ∀ w ∈ wsL_law0_r24, w ∈ lw_tbl := fun w h => (goodIn_p wsL_law0_r24 [620, 279, 258, 843] (by decide +kernel) (by decide +kernel) w h).1
set_option maxRecDepth 20000 in
theorem wsL_law0_r25_q : ∀ w ∈ wsL_law0_r25, w ∈ lw_tbl := fun w h => (goodIn_p wsL_law0_r25 [847, 628, 267, 851] (by decide +kernel) (by decide +kernel) w h).1
set_option maxRecDepth 20000 in
theorem wsL_law0_r26_q : ∀ w ∈ wsL_law0_r26, w ∈ lw_tbl := fun w h => (goodIn_p wsL_law0_r26 [636, 209, 855, 859, 185, 863] (by decide +kernel) (by decide +kernel) w h).1
theorem wsX30_q : ∀ w ∈ wsX30, w ∈ lw_tbl := by decide +kernel
theorem wsX40_q : ∀ w ∈ wsX40, w ∈ lw_tbl := by decide +kernel
theorem wsJx4a65c0_q : ∀ w ∈ wsJx4a65c0, w ∈ lw_tbl := by decide +kernel
theorem wsX10_q : ∀ w ∈ wsX10, w ∈ lw_tbl := by decide +kernel
theorem wsX20_q : ∀ w ∈ wsX20, w ∈ lw_tbl := by decide +kernel
theorem wsX00_q : ∀ w ∈ wsX00, w ∈ lw_tbl := by decide +kernel
theorem wsL_law_in0 : ∀ w ∈ wsL_law0, w ∈ lw_tbl := (aw_app (aw_app (aw_app (aw_app (aw_app (aw_app (aw_app (aw_app wsL_law0_r1_q (aw_app wsL_law0_r2_q (aw_app wsL_law0_r3_q (aw_app wsL_law0_r4_q (aw_app wsL_law0_r5_q (aw_app wsL_law0_r6_q (aw_app wsL_law0_r7_q (aw_app wsL_law0_r8_q (aw_app wsL_law0_r9_q (aw_app wsL_law0_r10_q (aw_app wsL_law0_r11_q (aw_app wsL_law0_r12_q (aw_app wsL_law0_r13_q (aw_app wsL_law0_r14_q (aw_app wsL_law0_r15_q (aw_app wsL_law0_r16_q (aw_app wsL_law0_r17_q (aw_app wsL_law0_r18_q (aw_app wsL_law0_r19_q (aw_app wsL_law0_r20_q (aw_app wsL_law0_r21_q (aw_app wsL_law0_r22_q (aw_app wsL_law0_r23_q (aw_app wsL_law0_r24_q (aw_app wsL_law0_r25_q wsL_law0_r26_q))))))))))))))))))))))))) wsX30_q) wsX40_q) wsJx4a65c0_q) wsX10_q) wsX20_q) wsX00_q) (fun _ h => absurd h List.not_mem_nil))
theorem wsL_law_x0 : ∀ w ∈ (vx_atS RX3 59 "java/lang/IllegalArgumentException" ["java/lang/RuntimeException", "java/lang/Exception"]).filter goodWord, w ∈ lw_tbl := by decide +kernel
theorem wsL_law_x1 : ∀ w ∈ (vx_atS RX3 71 "java/lang/IllegalStateException" ["java/lang/RuntimeException", "java/lang/Exception"]).filter goodWord, w ∈ lw_tbl := by decide +kernel
theorem wsL_law_x2 : ∀ w ∈ (vx_atS RX3 118 "java/lang/IndexOutOfBoundsException" ["java/lang/RuntimeException", "java/lang/Exception"]).filter goodWord, w ∈ lw_tbl := by decide +kernel
theorem wsL_law_in : ∀ w ∈ wsL_law, w ∈ lw_tbl := fun w h => (List.mem_append.mp h).elim (fun h => (List.mem_append.mp h).elim (fun h => (List.mem_append.mp h).elim (fun h => wsL_law_in0 w h) (fun h => wsL_law_x0 w h)) (fun h => wsL_law_x1 w h)) (fun h => wsL_law_x2 w h)
theorem inlX0 : ∀ w ∈ wsX00, w ∈ wsL_law := fun _ h => List.mem_append_left _ (List.mem_append_left _ (List.mem_append_left _ (List.mem_append_left _ (List.mem_append_right _ h))))
theorem inX0 : ∀ w ∈ wsX00, w ∈ lw_tbl := fun w h => wsL_law_in w (inlX0 w h)
theorem inlX1 : ∀ w ∈ wsX10, w ∈ wsL_law := fun _ h => List.mem_append_left _ (List.mem_append_left _ (List.mem_append_left _ (List.mem_append_left _ (List.mem_append_left _ (List.mem_append_left _ (List.mem_append_right _ h))))))
theorem inX1 : ∀ w ∈ wsX10, w ∈ lw_tbl := fun w h => wsL_law_in w (inlX1 w h)
theorem inlX2 : ∀ w ∈ wsX20, w ∈ wsL_law := fun _ h => List.mem_append_left _ (List.mem_append_left _ (List.mem_append_left _ (List.mem_append_left _ (List.mem_append_left _ (List.mem_append_right _ h)))))
theorem inX2 : ∀ w ∈ wsX20, w ∈ lw_tbl := fun w h => wsL_law_in w (inlX2 w h)
theorem inlX3 : ∀ w ∈ wsX30, w ∈ wsL_law := fun _ h => List.mem_append_left _ (List.mem_append_left _ (List.mem_append_left _ (List.mem_append_left _ (List.mem_append_left _ (List.mem_append_left _ (List.mem_append_left _ (List.mem_append_left _ (List.mem_append_left _ (List.mem_append_right _ h)))))))))
theorem inX3 : ∀ w ∈ wsX30, w ∈ lw_tbl := fun w h => wsL_law_in w (inlX3 w h)
theorem inlX4 : ∀ w ∈ wsX40, w ∈ wsL_law := fun _ h => List.mem_append_left _ (List.mem_append_left _ (List.mem_append_left _ (List.mem_append_left _ (List.mem_append_left _ (List.mem_append_left _ (List.mem_append_left _ (List.mem_append_left _ (List.mem_append_right _ h))))))))
theorem inX4 : ∀ w ∈ wsX40, w ∈ lw_tbl := fun w h => wsL_law_in w (inlX4 w h)
theorem inJx145de : ∀ w ∈ wsJx145de0, w ∈ lw_tbl := by decide +kernel
theorem inJx8e188 : ∀ w ∈ wsJx8e1880, w ∈ lw_tbl := by decide +kernel
theorem inJxab1ab : ∀ w ∈ wsJxab1ab0, w ∈ lw_tbl := by decide +kernel
theorem inJ9 : ∀ w ∈ wsJ90, w ∈ lw_tbl := by decide +kernel
theorem inJ0 : ∀ w ∈ wsJ00, w ∈ lw_tbl := by decide +kernel
theorem inJ10 : ∀ w ∈ wsJ100, w ∈ lw_tbl := by decide +kernel
theorem inJxa1e45 : ∀ w ∈ wsJxa1e450, w ∈ lw_tbl := by decide +kernel
theorem inJxc12de : ∀ w ∈ wsJxc12de0, w ∈ lw_tbl := by decide +kernel
theorem inlJx4a65c : ∀ w ∈ wsJx4a65c0, w ∈ wsL_law := fun _ h => List.mem_append_left _ (List.mem_append_left _ (List.mem_append_left _ (List.mem_append_left _ (List.mem_append_left _ (List.mem_append_left _ (List.mem_append_left _ (List.mem_append_right _ h)))))))
theorem inJx4a65c : ∀ w ∈ wsJx4a65c0, w ∈ lw_tbl := fun w h => wsL_law_in w (inlJx4a65c w h)
theorem inJ7 : ∀ w ∈ wsJ70, w ∈ lw_tbl := by decide +kernel
theorem inJx5ef63 : ∀ w ∈ wsJx5ef630, w ∈ lw_tbl := by decide +kernel
theorem inJxbd725 : ∀ w ∈ wsJxbd7250, w ∈ lw_tbl := by decide +kernel
theorem inJ15 : ∀ w ∈ wsJ150, w ∈ lw_tbl := by decide +kernel
theorem inJxf0a74 : ∀ w ∈ wsJxf0a740, w ∈ lw_tbl := by decide +kernel
theorem inJxa66e6 : ∀ w ∈ wsJxa66e60, w ∈ lw_tbl := by decide +kernel
theorem inJ8 : ∀ w ∈ wsJ80, w ∈ lw_tbl := by decide +kernel
theorem inJ3 : ∀ w ∈ wsJ30, w ∈ lw_tbl := by decide +kernel
end
section
theorem dX0_init_0 : decode cX0_init 0 = .ok (.aload_n 0, 1) := by decide +kernel
theorem dX0_init_1 : decode cX0_init 1 = .ok (.invokespecial 1, 3) := by decide +kernel
theorem dX0_init_4 : decode cX0_init 4 = .ok (.aload_n 0, 1) := by decide +kernel
theorem dX0_init_5 : decode cX0_init 5 = .ok (.iload_n 1, 1) := by decide +kernel
theorem dX0_init_6 : decode cX0_init 6 = .ok (.putfield 7, 3) := by decide +kernel
theorem dX0_init_9 : decode cX0_init 9 = .ok (.aload_n 0, 1) := by decide +kernel
theorem dX0_init_10 : decode cX0_init 10 = .ok (.iload_n 2, 1) := by decide +kernel
theorem dX0_init_11 : decode cX0_init 11 = .ok (.putfield 13, 3) := by decide +kernel
theorem dX0_init_14 : decode cX0_init 14 = .ok (.aload_n 0, 1) := by decide +kernel
theorem dX0_init_15 : decode cX0_init 15 = .ok (.iload_n 3, 1) := by decide +kernel
theorem dX0_init_16 : decode cX0_init 16 = .ok (.putfield 16, 3) := by decide +kernel
theorem dX0_init_19 : decode cX0_init 19 = .ok (.return_, 1) := by decide +kernel
theorem dX1_init_0 : decode cX1_init 0 = .ok (.aload_n 0, 1) := by decide +kernel
theorem dX1_init_1 : decode cX1_init 1 = .ok (.invokespecial 3, 3) := by decide +kernel
theorem dX1_init_4 : decode cX1_init 4 = .ok (.aload_n 0, 1) := by decide +kernel
theorem dX1_init_5 : decode cX1_init 5 = .ok (.sipush 10000, 3) := by decide +kernel
theorem dX1_init_8 : decode cX1_init 8 = .ok (.putfield 9, 3) := by decide +kernel
theorem dX1_init_11 : decode cX1_init 11 = .ok (.aload_n 0, 1) := by decide +kernel
theorem dX1_init_12 : decode cX1_init 12 = .ok (.ldc 15, 2) := by decide +kernel
theorem dX1_init_14 : decode cX1_init 14 = .ok (.putfield 16, 3) := by decide +kernel
theorem dX1_init_17 : decode cX1_init 17 = .ok (.aload_n 0, 1) := by decide +kernel
theorem dX1_init_18 : decode cX1_init 18 = .ok (.bipush 10, 2) := by decide +kernel
theorem dX1_init_20 : decode cX1_init 20 = .ok (.putfield 19, 3) := by decide +kernel
theorem dX1_init_23 : decode cX1_init 23 = .ok (.aload_n 0, 1) := by decide +kernel
theorem dX1_init_24 : decode cX1_init 24 = .ok (.bipush 20, 2) := by decide +kernel
theorem dX1_init_26 : decode cX1_init 26 = .ok (.putfield 22, 3) := by decide +kernel
theorem dX1_init_29 : decode cX1_init 29 = .ok (.aload_n 0, 1) := by decide +kernel
theorem dX1_init_30 : decode cX1_init 30 = .ok (.bipush 40, 2) := by decide +kernel
theorem dX1_init_32 : decode cX1_init 32 = .ok (.putfield 25, 3) := by decide +kernel
theorem dX1_init_35 : decode cX1_init 35 = .ok (.return_, 1) := by decide +kernel
theorem dX1_limit_0 : decode cX1_limit 0 = .ok (.aload_n 0, 1) := by decide +kernel
theorem dX1_limit_1 : decode cX1_limit 1 = .ok (.iload_n 1, 1) := by decide +kernel
theorem dX1_limit_2 : decode cX1_limit 2 = .ok (.putfield 9, 3) := by decide +kernel
theorem dX1_limit_5 : decode cX1_limit 5 = .ok (.aload_n 0, 1) := by decide +kernel
theorem dX1_limit_6 : decode cX1_limit 6 = .ok (.iload_n 2, 1) := by decide +kernel
theorem dX1_limit_7 : decode cX1_limit 7 = .ok (.putfield 16, 3) := by decide +kernel
theorem dX1_limit_10 : decode cX1_limit 10 = .ok (.return_, 1) := by decide +kernel
theorem dX1_rate_0 : decode cX1_rate 0 = .ok (.aload_n 0, 1) := by decide +kernel
theorem dX1_rate_1 : decode cX1_rate 1 = .ok (.iload_n 1, 1) := by decide +kernel
theorem dX1_rate_2 : decode cX1_rate 2 = .ok (.putfield 19, 3) := by decide +kernel
theorem dX1_rate_5 : decode cX1_rate 5 = .ok (.aload_n 0, 1) := by decide +kernel
theorem dX1_rate_6 : decode cX1_rate 6 = .ok (.iload_n 2, 1) := by decide +kernel
theorem dX1_rate_7 : decode cX1_rate 7 = .ok (.putfield 22, 3) := by decide +kernel
theorem dX1_rate_10 : decode cX1_rate 10 = .ok (.aload_n 0, 1) := by decide +kernel
theorem dX1_rate_11 : decode cX1_rate 11 = .ok (.iload_n 3, 1) := by decide +kernel
theorem dX1_rate_12 : decode cX1_rate 12 = .ok (.putfield 25, 3) := by decide +kernel
theorem dX1_rate_15 : decode cX1_rate 15 = .ok (.return_, 1) := by decide +kernel
theorem dX1_taxOf_0 : decode cX1_taxOf 0 = .ok (.iload_n 1, 1) := by decide +kernel
theorem dX1_taxOf_1 : decode cX1_taxOf 1 = .ok (.aload_n 0, 1) := by decide +kernel
theorem dX1_taxOf_2 : decode cX1_taxOf 2 = .ok (.getfield 9, 3) := by decide +kernel
theorem dX1_taxOf_5 : decode cX1_taxOf 5 = .ok (.invokestatic 28, 3) := by decide +kernel
theorem dX1_taxOf_8 : decode cX1_taxOf 8 = .ok (.i2l, 1) := by decide +kernel
theorem dX1_taxOf_9 : decode cX1_taxOf 9 = .ok (.lstore_n 2, 1) := by decide +kernel
theorem dX1_taxOf_10 : decode cX1_taxOf 10 = .ok (.iconst 0, 1) := by decide +kernel
theorem dX1_taxOf_11 : decode cX1_taxOf 11 = .ok (.iload_n 1, 1) := by decide +kernel
theorem dX1_taxOf_12 : decode cX1_taxOf 12 = .ok (.aload_n 0, 1) := by decide +kernel
theorem dX1_taxOf_13 : decode cX1_taxOf 13 = .ok (.getfield 16, 3) := by decide +kernel
theorem dX1_taxOf_16 : decode cX1_taxOf 16 = .ok (.invokestatic 28, 3) := by decide +kernel
theorem dX1_taxOf_19 : decode cX1_taxOf 19 = .ok (.aload_n 0, 1) := by decide +kernel
theorem dX1_taxOf_20 : decode cX1_taxOf 20 = .ok (.getfield 9, 3) := by decide +kernel
theorem dX1_taxOf_23 : decode cX1_taxOf 23 = .ok (.isub, 1) := by decide +kernel
theorem dX1_taxOf_24 : decode cX1_taxOf 24 = .ok (.invokestatic 34, 3) := by decide +kernel
theorem dX1_taxOf_27 : decode cX1_taxOf 27 = .ok (.i2l, 1) := by decide +kernel
theorem dX1_taxOf_28 : decode cX1_taxOf 28 = .ok (.lstore 4, 2) := by decide +kernel
theorem dX1_taxOf_30 : decode cX1_taxOf 30 = .ok (.iconst 0, 1) := by decide +kernel
theorem dX1_taxOf_31 : decode cX1_taxOf 31 = .ok (.iload_n 1, 1) := by decide +kernel
theorem dX1_taxOf_32 : decode cX1_taxOf 32 = .ok (.aload_n 0, 1) := by decide +kernel
theorem dX1_taxOf_33 : decode cX1_taxOf 33 = .ok (.getfield 16, 3) := by decide +kernel
theorem dX1_taxOf_36 : decode cX1_taxOf 36 = .ok (.isub, 1) := by decide +kernel
theorem dX1_taxOf_37 : decode cX1_taxOf 37 = .ok (.invokestatic 34, 3) := by decide +kernel
theorem dX1_taxOf_40 : decode cX1_taxOf 40 = .ok (.i2l, 1) := by decide +kernel
theorem dX1_taxOf_41 : decode cX1_taxOf 41 = .ok (.lstore 6, 2) := by decide +kernel
theorem dX1_taxOf_43 : decode cX1_taxOf 43 = .ok (.lload_n 2, 1) := by decide +kernel
theorem dX1_taxOf_44 : decode cX1_taxOf 44 = .ok (.aload_n 0, 1) := by decide +kernel
theorem dX1_taxOf_45 : decode cX1_taxOf 45 = .ok (.getfield 19, 3) := by decide +kernel
theorem dX1_taxOf_48 : decode cX1_taxOf 48 = .ok (.i2l, 1) := by decide +kernel
theorem dX1_taxOf_49 : decode cX1_taxOf 49 = .ok (.lmul, 1) := by decide +kernel
theorem dX1_taxOf_50 : decode cX1_taxOf 50 = .ok (.lload 4, 2) := by decide +kernel
theorem dX1_taxOf_52 : decode cX1_taxOf 52 = .ok (.aload_n 0, 1) := by decide +kernel
theorem dX1_taxOf_53 : decode cX1_taxOf 53 = .ok (.getfield 22, 3) := by decide +kernel
theorem dX1_taxOf_56 : decode cX1_taxOf 56 = .ok (.i2l, 1) := by decide +kernel
theorem dX1_taxOf_57 : decode cX1_taxOf 57 = .ok (.lmul, 1) := by decide +kernel
theorem dX1_taxOf_58 : decode cX1_taxOf 58 = .ok (.ladd, 1) := by decide +kernel
theorem dX1_taxOf_59 : decode cX1_taxOf 59 = .ok (.lload 6, 2) := by decide +kernel
theorem dX1_taxOf_61 : decode cX1_taxOf 61 = .ok (.aload_n 0, 1) := by decide +kernel
theorem dX1_taxOf_62 : decode cX1_taxOf 62 = .ok (.getfield 25, 3) := by decide +kernel
theorem dX1_taxOf_65 : decode cX1_taxOf 65 = .ok (.i2l, 1) := by decide +kernel
theorem dX1_taxOf_66 : decode cX1_taxOf 66 = .ok (.lmul, 1) := by decide +kernel
theorem dX1_taxOf_67 : decode cX1_taxOf 67 = .ok (.ladd, 1) := by decide +kernel
theorem dX1_taxOf_68 : decode cX1_taxOf 68 = .ok (.ldc2_w 37, 3) := by decide +kernel
theorem dX1_taxOf_71 : decode cX1_taxOf 71 = .ok (.ldiv, 1) := by decide +kernel
theorem dX1_taxOf_72 : decode cX1_taxOf 72 = .ok (.l2i, 1) := by decide +kernel
theorem dX1_taxOf_73 : decode cX1_taxOf 73 = .ok (.ireturn, 1) := by decide +kernel
set_option maxRecDepth 20000 in
theorem ggX1_grossTaxOf_X1_mostGrossTax : GoodIn wsX1_grossTaxOf wsX1_mostGrossTax := goodIn_r _ [4] (by decide +kernel) (by decide +kernel)
set_option maxRecDepth 20000 in
theorem gX1_grossTaxOf_X1_mostGrossTax : GoodIn wsX1_grossTaxOf (va_wsS RX1 39 yX1_mostGrossTax wsX1_mostGrossTax) := goodIn_app (goodIn_of _ (by decide +kernel)) ggX1_grossTaxOf_X1_mostGrossTax
set_option maxRecDepth 20000 in
theorem ggX1_grossTaxOf_X1_taxOf : GoodIn wsX1_grossTaxOf wsX1_taxOf := goodIn_r _ [8, 9, 10, 11, 12, 13, 14, 15, 16, 17, 18, 19, 20, 21, 22, 23, 24, 25, 26] (by decide +kernel) (by decide +kernel)
set_option maxRecDepth 20000 in
theorem gX1_grossTaxOf_X1_taxOf : GoodIn wsX1_grossTaxOf (wsV RX1 43 RX1 yX1_taxOf wsX1_taxOf) := goodIn_app (goodIn_of _ (by decide +kernel)) ggX1_grossTaxOf_X1_taxOf
theorem dX1_grossTaxOf_0 : decode cX1_grossTaxOf 0 = .ok (.iconst 0, 1) := by decide +kernel
theorem dX1_grossTaxOf_1 : decode cX1_grossTaxOf 1 = .ok (.istore_n 2, 1) := by decide +kernel
theorem dX1_grossTaxOf_2 : decode cX1_grossTaxOf 2 = .ok (.iload_n 1, 1) := by decide +kernel
theorem dX1_grossTaxOf_3 : decode cX1_grossTaxOf 3 = .ok (.invokestatic 39, 3) := by decide +kernel
theorem dX1_grossTaxOf_6 : decode cX1_grossTaxOf 6 = .ok (.istore_n 3, 1) := by decide +kernel
theorem dX1_grossTaxOf_7 : decode cX1_grossTaxOf 7 = .ok (.iconst 0, 1) := by decide +kernel
theorem dX1_grossTaxOf_8 : decode cX1_grossTaxOf 8 = .ok (.istore 4, 2) := by decide +kernel
theorem dX1_grossTaxOf_10 : decode cX1_grossTaxOf 10 = .ok (.iload 4, 2) := by decide +kernel
theorem dX1_grossTaxOf_12 : decode cX1_grossTaxOf 12 = .ok (.bipush 32, 2) := by decide +kernel
theorem dX1_grossTaxOf_14 : decode cX1_grossTaxOf 14 = .ok (.if_icmp .ge 47, 3) := by decide +kernel
theorem dX1_grossTaxOf_17 : decode cX1_grossTaxOf 17 = .ok (.iload_n 2, 1) := by decide +kernel
theorem dX1_grossTaxOf_18 : decode cX1_grossTaxOf 18 = .ok (.iload_n 3, 1) := by decide +kernel
theorem dX1_grossTaxOf_19 : decode cX1_grossTaxOf 19 = .ok (.if_icmp .ge 42, 3) := by decide +kernel
theorem dX1_grossTaxOf_22 : decode cX1_grossTaxOf 22 = .ok (.iload_n 2, 1) := by decide +kernel
theorem dX1_grossTaxOf_23 : decode cX1_grossTaxOf 23 = .ok (.iload_n 3, 1) := by decide +kernel
theorem dX1_grossTaxOf_24 : decode cX1_grossTaxOf 24 = .ok (.iload_n 2, 1) := by decide +kernel
theorem dX1_grossTaxOf_25 : decode cX1_grossTaxOf 25 = .ok (.isub, 1) := by decide +kernel
theorem dX1_grossTaxOf_26 : decode cX1_grossTaxOf 26 = .ok (.iconst 2, 1) := by decide +kernel
theorem dX1_grossTaxOf_27 : decode cX1_grossTaxOf 27 = .ok (.idiv, 1) := by decide +kernel
theorem dX1_grossTaxOf_28 : decode cX1_grossTaxOf 28 = .ok (.iadd, 1) := by decide +kernel
theorem dX1_grossTaxOf_29 : decode cX1_grossTaxOf 29 = .ok (.istore 5, 2) := by decide +kernel
theorem dX1_grossTaxOf_31 : decode cX1_grossTaxOf 31 = .ok (.aload_n 0, 1) := by decide +kernel
theorem dX1_grossTaxOf_32 : decode cX1_grossTaxOf 32 = .ok (.iload_n 1, 1) := by decide +kernel
theorem dX1_grossTaxOf_33 : decode cX1_grossTaxOf 33 = .ok (.iload 5, 2) := by decide +kernel
theorem dX1_grossTaxOf_35 : decode cX1_grossTaxOf 35 = .ok (.iadd, 1) := by decide +kernel
theorem dX1_grossTaxOf_36 : decode cX1_grossTaxOf 36 = .ok (.invokevirtual 43, 3) := by decide +kernel
theorem dX1_grossTaxOf_39 : decode cX1_grossTaxOf 39 = .ok (.iload 5, 2) := by decide +kernel
theorem dX1_grossTaxOf_41 : decode cX1_grossTaxOf 41 = .ok (.if_icmp .gt 9, 3) := by decide +kernel
theorem dX1_grossTaxOf_44 : decode cX1_grossTaxOf 44 = .ok (.iload 5, 2) := by decide +kernel
theorem dX1_grossTaxOf_46 : decode cX1_grossTaxOf 46 = .ok (.istore_n 3, 1) := by decide +kernel
theorem dX1_grossTaxOf_47 : decode cX1_grossTaxOf 47 = .ok (.goto 8, 3) := by decide +kernel
theorem dX1_grossTaxOf_50 : decode cX1_grossTaxOf 50 = .ok (.iload 5, 2) := by decide +kernel
theorem dX1_grossTaxOf_52 : decode cX1_grossTaxOf 52 = .ok (.iconst 1, 1) := by decide +kernel
theorem dX1_grossTaxOf_53 : decode cX1_grossTaxOf 53 = .ok (.iadd, 1) := by decide +kernel
theorem dX1_grossTaxOf_54 : decode cX1_grossTaxOf 54 = .ok (.istore_n 2, 1) := by decide +kernel
theorem dX1_grossTaxOf_55 : decode cX1_grossTaxOf 55 = .ok (.iinc 4 1, 3) := by decide +kernel
theorem dX1_grossTaxOf_58 : decode cX1_grossTaxOf 58 = .ok (.goto (-48), 3) := by decide +kernel
theorem dX1_grossTaxOf_61 : decode cX1_grossTaxOf 61 = .ok (.iload_n 2, 1) := by decide +kernel
theorem dX1_grossTaxOf_62 : decode cX1_grossTaxOf 62 = .ok (.ireturn, 1) := by decide +kernel
set_option maxRecDepth 20000 in
theorem ggX1_grossTaxTried_X1_mostGrossTax : GoodIn wsX1_grossTaxTried wsX1_mostGrossTax := goodIn_r _ [4] (by decide +kernel) (by decide +kernel)
set_option maxRecDepth 20000 in
theorem gX1_grossTaxTried_X1_mostGrossTax : GoodIn wsX1_grossTaxTried (va_wsS RX1 39 yX1_mostGrossTax wsX1_mostGrossTax) := goodIn_app (goodIn_of _ (by decide +kernel)) ggX1_grossTaxTried_X1_mostGrossTax
set_option maxRecDepth 20000 in
theorem ggX1_grossTaxTried_X1_taxOf : GoodIn wsX1_grossTaxTried wsX1_taxOf := goodIn_r _ [8, 9, 10, 11, 12, 13, 14, 15, 16, 17, 18, 19, 20, 21, 22, 23, 24, 25, 26] (by decide +kernel) (by decide +kernel)
set_option maxRecDepth 20000 in
theorem gX1_grossTaxTried_X1_taxOf : GoodIn wsX1_grossTaxTried (wsV RX1 43 RX1 yX1_taxOf wsX1_taxOf) := goodIn_app (goodIn_of _ (by decide +kernel)) ggX1_grossTaxTried_X1_taxOf
theorem dX1_grossTaxTried_0 : decode cX1_grossTaxTried 0 = .ok (.iload_n 1, 1) := by decide +kernel
theorem dX1_grossTaxTried_1 : decode cX1_grossTaxTried 1 = .ok (.invokestatic 39, 3) := by decide +kernel
theorem dX1_grossTaxTried_4 : decode cX1_grossTaxTried 4 = .ok (.istore_n 2, 1) := by decide +kernel
theorem dX1_grossTaxTried_5 : decode cX1_grossTaxTried 5 = .ok (.iconst 0, 1) := by decide +kernel
theorem dX1_grossTaxTried_6 : decode cX1_grossTaxTried 6 = .ok (.istore_n 3, 1) := by decide +kernel
theorem dX1_grossTaxTried_7 : decode cX1_grossTaxTried 7 = .ok (.iload_n 3, 1) := by decide +kernel
theorem dX1_grossTaxTried_8 : decode cX1_grossTaxTried 8 = .ok (.iload_n 2, 1) := by decide +kernel
theorem dX1_grossTaxTried_9 : decode cX1_grossTaxTried 9 = .ok (.if_icmp .ge 22, 3) := by decide +kernel
theorem dX1_grossTaxTried_12 : decode cX1_grossTaxTried 12 = .ok (.aload_n 0, 1) := by decide +kernel
theorem dX1_grossTaxTried_13 : decode cX1_grossTaxTried 13 = .ok (.iload_n 1, 1) := by decide +kernel
theorem dX1_grossTaxTried_14 : decode cX1_grossTaxTried 14 = .ok (.iload_n 3, 1) := by decide +kernel
theorem dX1_grossTaxTried_15 : decode cX1_grossTaxTried 15 = .ok (.iadd, 1) := by decide +kernel
theorem dX1_grossTaxTried_16 : decode cX1_grossTaxTried 16 = .ok (.invokevirtual 43, 3) := by decide +kernel
theorem dX1_grossTaxTried_19 : decode cX1_grossTaxTried 19 = .ok (.iload_n 3, 1) := by decide +kernel
theorem dX1_grossTaxTried_20 : decode cX1_grossTaxTried 20 = .ok (.if_icmp .ne 5, 3) := by decide +kernel
theorem dX1_grossTaxTried_23 : decode cX1_grossTaxTried 23 = .ok (.iload_n 3, 1) := by decide +kernel
theorem dX1_grossTaxTried_24 : decode cX1_grossTaxTried 24 = .ok (.ireturn, 1) := by decide +kernel
theorem dX1_grossTaxTried_25 : decode cX1_grossTaxTried 25 = .ok (.iinc 3 1, 3) := by decide +kernel
theorem dX1_grossTaxTried_28 : decode cX1_grossTaxTried 28 = .ok (.goto (-21), 3) := by decide +kernel
theorem dX1_grossTaxTried_31 : decode cX1_grossTaxTried 31 = .ok (.iload_n 2, 1) := by decide +kernel
theorem dX1_grossTaxTried_32 : decode cX1_grossTaxTried 32 = .ok (.ireturn, 1) := by decide +kernel
theorem dX1_mostGrossTax_0 : decode cX1_mostGrossTax 0 = .ok (.iconst 2, 1) := by decide +kernel
theorem dX1_mostGrossTax_1 : decode cX1_mostGrossTax 1 = .ok (.iload_n 0, 1) := by decide +kernel
theorem dX1_mostGrossTax_2 : decode cX1_mostGrossTax 2 = .ok (.imul, 1) := by decide +kernel
theorem dX1_mostGrossTax_3 : decode cX1_mostGrossTax 3 = .ok (.ireturn, 1) := by decide +kernel
set_option maxRecDepth 20000 in
theorem ggX2_init_Jx4a65c_init_da8c8 : GoodIn wsX2_init wsJx4a65c_init_da8c8 := goodIn_r _ [17, 18, 19, 20, 21, 22, 23, 24, 25, 26, 27, 28, 29, 2, 3, 30, 31, 32] (by decide +kernel) (by decide +kernel)
set_option maxRecDepth 20000 in
theorem gX2_init_Jx4a65c_init_da8c8 : GoodIn wsX2_init (wsJx4a65c_init_da8c8) := ggX2_init_Jx4a65c_init_da8c8
theorem dX2_init_0 : decode cX2_init 0 = .ok (.aload_n 0, 1) := by decide +kernel
theorem dX2_init_1 : decode cX2_init 1 = .ok (.invokespecial 3, 3) := by decide +kernel
theorem dX2_init_4 : decode cX2_init 4 = .ok (.aload_n 0, 1) := by decide +kernel
theorem dX2_init_5 : decode cX2_init 5 = .ok (.new 9, 3) := by decide +kernel
theorem dX2_init_8 : decode cX2_init 8 = .ok (.dup, 1) := by decide +kernel
theorem dX2_init_9 : decode cX2_init 9 = .ok (.invokespecial 11, 3) := by decide +kernel
theorem dX2_init_12 : decode cX2_init 12 = .ok (.putfield 12, 3) := by decide +kernel
theorem dX2_init_15 : decode cX2_init 15 = .ok (.aload_n 0, 1) := by decide +kernel
theorem dX2_init_16 : decode cX2_init 16 = .ok (.iconst 0, 1) := by decide +kernel
theorem dX2_init_17 : decode cX2_init 17 = .ok (.putfield 18, 3) := by decide +kernel
theorem dX2_init_20 : decode cX2_init 20 = .ok (.aload_n 0, 1) := by decide +kernel
theorem dX2_init_21 : decode cX2_init 21 = .ok (.iconst 0, 1) := by decide +kernel
theorem dX2_init_22 : decode cX2_init 22 = .ok (.putfield 22, 3) := by decide +kernel
theorem dX2_init_25 : decode cX2_init 25 = .ok (.aload_n 0, 1) := by decide +kernel
theorem dX2_init_26 : decode cX2_init 26 = .ok (.iconst 0, 1) := by decide +kernel
theorem dX2_init_27 : decode cX2_init 27 = .ok (.putfield 25, 3) := by decide +kernel
theorem dX2_init_30 : decode cX2_init 30 = .ok (.aload_n 0, 1) := by decide +kernel
theorem dX2_init_31 : decode cX2_init 31 = .ok (.iconst 0, 1) := by decide +kernel
theorem dX2_init_32 : decode cX2_init 32 = .ok (.putfield 28, 3) := by decide +kernel
theorem dX2_init_35 : decode cX2_init 35 = .ok (.aload_n 0, 1) := by decide +kernel
theorem dX2_init_36 : decode cX2_init 36 = .ok (.aload_n 1, 1) := by decide +kernel
theorem dX2_init_37 : decode cX2_init 37 = .ok (.putfield 31, 3) := by decide +kernel
theorem dX2_init_40 : decode cX2_init 40 = .ok (.aload_n 0, 1) := by decide +kernel
theorem dX2_init_41 : decode cX2_init 41 = .ok (.aload_n 2, 1) := by decide +kernel
theorem dX2_init_42 : decode cX2_init 42 = .ok (.putfield 35, 3) := by decide +kernel
theorem dX2_init_45 : decode cX2_init 45 = .ok (.aload_n 0, 1) := by decide +kernel
theorem dX2_init_46 : decode cX2_init 46 = .ok (.iload_n 3, 1) := by decide +kernel
theorem dX2_init_47 : decode cX2_init 47 = .ok (.putfield 38, 3) := by decide +kernel
theorem dX2_init_50 : decode cX2_init 50 = .ok (.return_, 1) := by decide +kernel
theorem dX2_monthsAbroad_0 : decode cX2_monthsAbroad 0 = .ok (.aload_n 0, 1) := by decide +kernel
theorem dX2_monthsAbroad_1 : decode cX2_monthsAbroad 1 = .ok (.getfield 22, 3) := by decide +kernel
theorem dX2_monthsAbroad_4 : decode cX2_monthsAbroad 4 = .ok (.aload_n 0, 1) := by decide +kernel
theorem dX2_monthsAbroad_5 : decode cX2_monthsAbroad 5 = .ok (.getfield 18, 3) := by decide +kernel
theorem dX2_monthsAbroad_8 : decode cX2_monthsAbroad 8 = .ok (.isub, 1) := by decide +kernel
theorem dX2_monthsAbroad_9 : decode cX2_monthsAbroad 9 = .ok (.ireturn, 1) := by decide +kernel
theorem dX2_isAbroadIn_0 : decode cX2_isAbroadIn 0 = .ok (.iload_n 1, 1) := by decide +kernel
theorem dX2_isAbroadIn_1 : decode cX2_isAbroadIn 1 = .ok (.aload_n 0, 1) := by decide +kernel
theorem dX2_isAbroadIn_2 : decode cX2_isAbroadIn 2 = .ok (.getfield 18, 3) := by decide +kernel
theorem dX2_isAbroadIn_5 : decode cX2_isAbroadIn 5 = .ok (.if_icmp .lt 15, 3) := by decide +kernel
theorem dX2_isAbroadIn_8 : decode cX2_isAbroadIn 8 = .ok (.iload_n 1, 1) := by decide +kernel
theorem dX2_isAbroadIn_9 : decode cX2_isAbroadIn 9 = .ok (.aload_n 0, 1) := by decide +kernel
theorem dX2_isAbroadIn_10 : decode cX2_isAbroadIn 10 = .ok (.getfield 22, 3) := by decide +kernel
theorem dX2_isAbroadIn_13 : decode cX2_isAbroadIn 13 = .ok (.if_icmp .ge 7, 3) := by decide +kernel
theorem dX2_isAbroadIn_16 : decode cX2_isAbroadIn 16 = .ok (.iconst 1, 1) := by decide +kernel
theorem dX2_isAbroadIn_17 : decode cX2_isAbroadIn 17 = .ok (.goto 4, 3) := by decide +kernel
theorem dX2_isAbroadIn_20 : decode cX2_isAbroadIn 20 = .ok (.iconst 0, 1) := by decide +kernel
theorem dX2_isAbroadIn_21 : decode cX2_isAbroadIn 21 = .ok (.ireturn, 1) := by decide +kernel
theorem dX2_ownShare_0 : decode cX2_ownShare 0 = .ok (.aload_n 0, 1) := by decide +kernel
theorem dX2_ownShare_1 : decode cX2_ownShare 1 = .ok (.getfield 25, 3) := by decide +kernel
theorem dX2_ownShare_4 : decode cX2_ownShare 4 = .ok (.aload_n 0, 1) := by decide +kernel
theorem dX2_ownShare_5 : decode cX2_ownShare 5 = .ok (.getfield 38, 3) := by decide +kernel
theorem dX2_ownShare_8 : decode cX2_ownShare 8 = .ok (.aload_n 0, 1) := by decide +kernel
theorem dX2_ownShare_9 : decode cX2_ownShare 9 = .ok (.getfield 28, 3) := by decide +kernel
theorem dX2_ownShare_12 : decode cX2_ownShare 12 = .ok (.imul, 1) := by decide +kernel
theorem dX2_ownShare_13 : decode cX2_ownShare 13 = .ok (.bipush 100, 2) := by decide +kernel
theorem dX2_ownShare_15 : decode cX2_ownShare 15 = .ok (.idiv, 1) := by decide +kernel
theorem dX2_ownShare_16 : decode cX2_ownShare 16 = .ok (.invokestatic 41, 3) := by decide +kernel
theorem dX2_ownShare_19 : decode cX2_ownShare 19 = .ok (.ireturn, 1) := by decide +kernel
theorem dX2_partAbroad_0 : decode cX2_partAbroad 0 = .ok (.aload_n 1, 1) := by decide +kernel
theorem dX2_partAbroad_1 : decode cX2_partAbroad 1 = .ok (.getfield 47, 3) := by decide +kernel
theorem dX2_partAbroad_4 : decode cX2_partAbroad 4 = .ok (.aload_n 1, 1) := by decide +kernel
theorem dX2_partAbroad_5 : decode cX2_partAbroad 5 = .ok (.getfield 52, 3) := by decide +kernel
theorem dX2_partAbroad_8 : decode cX2_partAbroad 8 = .ok (.isub, 1) := by decide +kernel
theorem dX2_partAbroad_9 : decode cX2_partAbroad 9 = .ok (.istore_n 2, 1) := by decide +kernel
theorem dX2_partAbroad_10 : decode cX2_partAbroad 10 = .ok (.iload_n 2, 1) := by decide +kernel
theorem dX2_partAbroad_11 : decode cX2_partAbroad 11 = .ok (.ifCond .gt 5, 3) := by decide +kernel
theorem dX2_partAbroad_14 : decode cX2_partAbroad 14 = .ok (.iconst 0, 1) := by decide +kernel
theorem dX2_partAbroad_15 : decode cX2_partAbroad 15 = .ok (.ireturn, 1) := by decide +kernel
theorem dX2_partAbroad_16 : decode cX2_partAbroad 16 = .ok (.iconst 0, 1) := by decide +kernel
theorem dX2_partAbroad_17 : decode cX2_partAbroad 17 = .ok (.aload_n 1, 1) := by decide +kernel
theorem dX2_partAbroad_18 : decode cX2_partAbroad 18 = .ok (.getfield 47, 3) := by decide +kernel
theorem dX2_partAbroad_21 : decode cX2_partAbroad 21 = .ok (.aload_n 0, 1) := by decide +kernel
theorem dX2_partAbroad_22 : decode cX2_partAbroad 22 = .ok (.getfield 22, 3) := by decide +kernel
theorem dX2_partAbroad_25 : decode cX2_partAbroad 25 = .ok (.invokestatic 41, 3) := by decide +kernel
theorem dX2_partAbroad_28 : decode cX2_partAbroad 28 = .ok (.aload_n 1, 1) := by decide +kernel
theorem dX2_partAbroad_29 : decode cX2_partAbroad 29 = .ok (.getfield 52, 3) := by decide +kernel
theorem dX2_partAbroad_32 : decode cX2_partAbroad 32 = .ok (.aload_n 0, 1) := by decide +kernel
theorem dX2_partAbroad_33 : decode cX2_partAbroad 33 = .ok (.getfield 18, 3) := by decide +kernel
theorem dX2_partAbroad_36 : decode cX2_partAbroad 36 = .ok (.invokestatic 55, 3) := by decide +kernel
theorem dX2_partAbroad_39 : decode cX2_partAbroad 39 = .ok (.isub, 1) := by decide +kernel
theorem dX2_partAbroad_40 : decode cX2_partAbroad 40 = .ok (.invokestatic 55, 3) := by decide +kernel
theorem dX2_partAbroad_43 : decode cX2_partAbroad 43 = .ok (.istore_n 3, 1) := by decide +kernel
theorem dX2_partAbroad_44 : decode cX2_partAbroad 44 = .ok (.aload_n 1, 1) := by decide +kernel
theorem dX2_partAbroad_45 : decode cX2_partAbroad 45 = .ok (.getfield 58, 3) := by decide +kernel
theorem dX2_partAbroad_48 : decode cX2_partAbroad 48 = .ok (.iload_n 3, 1) := by decide +kernel
theorem dX2_partAbroad_49 : decode cX2_partAbroad 49 = .ok (.imul, 1) := by decide +kernel
theorem dX2_partAbroad_50 : decode cX2_partAbroad 50 = .ok (.iload_n 2, 1) := by decide +kernel
theorem dX2_partAbroad_51 : decode cX2_partAbroad 51 = .ok (.idiv, 1) := by decide +kernel
theorem dX2_partAbroad_52 : decode cX2_partAbroad 52 = .ok (.ireturn, 1) := by decide +kernel
set_option maxRecDepth 20000 in
theorem ggX2_wholeIncome_Jx4a65c_size_8abf5 : GoodIn wsX2_wholeIncome wsJx4a65c_size_8abf5 := goodIn_r _ [8, 9, 38, 39, 40] (by decide +kernel) (by decide +kernel)
set_option maxRecDepth 20000 in
theorem gX2_wholeIncome_Jx4a65c_size_8abf5_f61Jx4a65c : GoodIn wsX2_wholeIncome (va_wsF RX2 61 RJx4a65c ⟨"java/util/List", "size", "()I"⟩ yJx4a65c_size_8abf5 wsJx4a65c_size_8abf5) := goodIn_app (goodIn_of _ (by decide +kernel)) ggX2_wholeIncome_Jx4a65c_size_8abf5
set_option maxRecDepth 20000 in
theorem ggX2_wholeIncome_Jx4a65c_get_915e3 : GoodIn wsX2_wholeIncome wsJx4a65c_get_915e3 := goodIn_r _ [13, 9, 14, 15, 16, 17, 18, 19, 20, 21, 22, 23, 24, 7, 25, 26, 38, 39, 40] (by decide +kernel) (by decide +kernel)
set_option maxRecDepth 20000 in
theorem gX2_wholeIncome_Jx4a65c_get_915e3_f67Jx4a65c : GoodIn wsX2_wholeIncome (va_wsF RX2 67 RJx4a65c ⟨"java/util/List", "get", "(I)Ljava/lang/Object;"⟩ yJx4a65c_get_915e3 wsJx4a65c_get_915e3) := goodIn_app (goodIn_of _ (by decide +kernel)) ggX2_wholeIncome_Jx4a65c_get_915e3
theorem dX2_wholeIncome_0 : decode cX2_wholeIncome 0 = .ok (.bipush 12, 2) := by decide +kernel
theorem dX2_wholeIncome_2 : decode cX2_wholeIncome 2 = .ok (.aload_n 0, 1) := by decide +kernel
theorem dX2_wholeIncome_3 : decode cX2_wholeIncome 3 = .ok (.getfield 38, 3) := by decide +kernel
theorem dX2_wholeIncome_6 : decode cX2_wholeIncome 6 = .ok (.imul, 1) := by decide +kernel
theorem dX2_wholeIncome_7 : decode cX2_wholeIncome 7 = .ok (.istore_n 1, 1) := by decide +kernel
theorem dX2_wholeIncome_8 : decode cX2_wholeIncome 8 = .ok (.iconst 0, 1) := by decide +kernel
theorem dX2_wholeIncome_9 : decode cX2_wholeIncome 9 = .ok (.istore_n 2, 1) := by decide +kernel
theorem dX2_wholeIncome_10 : decode cX2_wholeIncome 10 = .ok (.iload_n 2, 1) := by decide +kernel
theorem dX2_wholeIncome_11 : decode cX2_wholeIncome 11 = .ok (.aload_n 0, 1) := by decide +kernel
theorem dX2_wholeIncome_12 : decode cX2_wholeIncome 12 = .ok (.getfield 12, 3) := by decide +kernel
theorem dX2_wholeIncome_15 : decode cX2_wholeIncome 15 = .ok (.invokeinterface 61 1, 5) := by decide +kernel
theorem dX2_wholeIncome_20 : decode cX2_wholeIncome 20 = .ok (.if_icmp .ge 28, 3) := by decide +kernel
theorem dX2_wholeIncome_23 : decode cX2_wholeIncome 23 = .ok (.iload_n 1, 1) := by decide +kernel
theorem dX2_wholeIncome_24 : decode cX2_wholeIncome 24 = .ok (.aload_n 0, 1) := by decide +kernel
theorem dX2_wholeIncome_25 : decode cX2_wholeIncome 25 = .ok (.getfield 12, 3) := by decide +kernel
theorem dX2_wholeIncome_28 : decode cX2_wholeIncome 28 = .ok (.iload_n 2, 1) := by decide +kernel
theorem dX2_wholeIncome_29 : decode cX2_wholeIncome 29 = .ok (.invokeinterface 67 2, 5) := by decide +kernel
theorem dX2_wholeIncome_34 : decode cX2_wholeIncome 34 = .ok (.checkcast 48, 3) := by decide +kernel
theorem dX2_wholeIncome_37 : decode cX2_wholeIncome 37 = .ok (.getfield 58, 3) := by decide +kernel
theorem dX2_wholeIncome_40 : decode cX2_wholeIncome 40 = .ok (.iadd, 1) := by decide +kernel
theorem dX2_wholeIncome_41 : decode cX2_wholeIncome 41 = .ok (.istore_n 1, 1) := by decide +kernel
theorem dX2_wholeIncome_42 : decode cX2_wholeIncome 42 = .ok (.iinc 2 1, 3) := by decide +kernel
theorem dX2_wholeIncome_45 : decode cX2_wholeIncome 45 = .ok (.goto (-35), 3) := by decide +kernel
theorem dX2_wholeIncome_48 : decode cX2_wholeIncome 48 = .ok (.iload_n 1, 1) := by decide +kernel
theorem dX2_wholeIncome_49 : decode cX2_wholeIncome 49 = .ok (.ireturn, 1) := by decide +kernel
set_option maxRecDepth 20000 in
theorem ggX2_heldEachMonth_X1_taxOf : GoodIn wsX2_heldEachMonth wsX1_taxOf := goodIn_r _ [7, 8, 9, 10, 11, 12, 13, 14, 15, 16, 17, 18, 19, 20, 29, 30, 31, 32, 33] (by decide +kernel) (by decide +kernel)
set_option maxRecDepth 20000 in
theorem gX2_heldEachMonth_X1_taxOf : GoodIn wsX2_heldEachMonth (wsV RX2 71 RX1 yX1_taxOf wsX1_taxOf) := goodIn_app (goodIn_of _ (by decide +kernel)) ggX2_heldEachMonth_X1_taxOf
theorem dX2_heldEachMonth_0 : decode cX2_heldEachMonth 0 = .ok (.aload_n 0, 1) := by decide +kernel
theorem dX2_heldEachMonth_1 : decode cX2_heldEachMonth 1 = .ok (.getfield 31, 3) := by decide +kernel
theorem dX2_heldEachMonth_4 : decode cX2_heldEachMonth 4 = .ok (.bipush 12, 2) := by decide +kernel
theorem dX2_heldEachMonth_6 : decode cX2_heldEachMonth 6 = .ok (.aload_n 0, 1) := by decide +kernel
theorem dX2_heldEachMonth_7 : decode cX2_heldEachMonth 7 = .ok (.getfield 38, 3) := by decide +kernel
theorem dX2_heldEachMonth_10 : decode cX2_heldEachMonth 10 = .ok (.imul, 1) := by decide +kernel
theorem dX2_heldEachMonth_11 : decode cX2_heldEachMonth 11 = .ok (.invokevirtual 71, 3) := by decide +kernel
theorem dX2_heldEachMonth_14 : decode cX2_heldEachMonth 14 = .ok (.bipush 12, 2) := by decide +kernel
theorem dX2_heldEachMonth_16 : decode cX2_heldEachMonth 16 = .ok (.idiv, 1) := by decide +kernel
theorem dX2_heldEachMonth_17 : decode cX2_heldEachMonth 17 = .ok (.ireturn, 1) := by decide +kernel
set_option maxRecDepth 20000 in
theorem ggX2_heldInYear_X2_monthsAbroad : GoodIn wsX2_heldInYear wsX2_monthsAbroad := goodIn_r _ [5, 6, 7, 32, 33, 34, 35, 36, 37, 38, 39] (by decide +kernel) (by decide +kernel)
set_option maxRecDepth 20000 in
theorem gX2_heldInYear_X2_monthsAbroad : GoodIn wsX2_heldInYear (wsV RX2 77 RX2 yX2_monthsAbroad wsX2_monthsAbroad) := goodIn_app (goodIn_of _ (by decide +kernel)) ggX2_heldInYear_X2_monthsAbroad
set_option maxRecDepth 20000 in
theorem ggX2_heldInYear_X2_heldEachMonth : GoodIn wsX2_heldInYear wsX2_heldEachMonth := goodIn_r _ [11, 12, 13, 14, 15, 16, 17, 18, 19, 20, 21, 22, 23, 24, 25, 26, 27, 28, 29, 30, 31, 32, 33, 34, 35, 36, 37, 38, 39, 40, 41, 42, 43, 44] (by decide +kernel) (by decide +kernel)
set_option maxRecDepth 20000 in
theorem gX2_heldInYear_X2_heldEachMonth : GoodIn wsX2_heldInYear (wsV RX2 80 RX2 yX2_heldEachMonth wsX2_heldEachMonth) := goodIn_app (goodIn_of _ (by decide +kernel)) ggX2_heldInYear_X2_heldEachMonth
theorem dX2_heldInYear_0 : decode cX2_heldInYear 0 = .ok (.aload_n 0, 1) := by decide +kernel
theorem dX2_heldInYear_1 : decode cX2_heldInYear 1 = .ok (.invokevirtual 77, 3) := by decide +kernel
theorem dX2_heldInYear_4 : decode cX2_heldInYear 4 = .ok (.aload_n 0, 1) := by decide +kernel
theorem dX2_heldInYear_5 : decode cX2_heldInYear 5 = .ok (.invokevirtual 80, 3) := by decide +kernel
theorem dX2_heldInYear_8 : decode cX2_heldInYear 8 = .ok (.imul, 1) := by decide +kernel
theorem dX2_heldInYear_9 : decode cX2_heldInYear 9 = .ok (.ireturn, 1) := by decide +kernel
set_option maxRecDepth 20000 in
theorem ggX2_housingInYear_X2_monthsAbroad : GoodIn wsX2_housingInYear wsX2_monthsAbroad := goodIn_r _ [6, 7, 8, 19, 20, 21, 22, 23, 24, 25, 26] (by decide +kernel) (by decide +kernel)
set_option maxRecDepth 20000 in
theorem gX2_housingInYear_X2_monthsAbroad : GoodIn wsX2_housingInYear (wsV RX2 77 RX2 yX2_monthsAbroad wsX2_monthsAbroad) := goodIn_app (goodIn_of _ (by decide +kernel)) ggX2_housingInYear_X2_monthsAbroad
set_option maxRecDepth 20000 in
theorem ggX2_housingInYear_X2_ownShare : GoodIn wsX2_housingInYear wsX2_ownShare := goodIn_r _ [12, 1, 13, 14, 15, 16, 17, 18, 19, 20, 21, 22, 23, 24, 25, 26] (by decide +kernel) (by decide +kernel)
set_option maxRecDepth 20000 in
theorem gX2_housingInYear_X2_ownShare : GoodIn wsX2_housingInYear (wsV RX2 83 RX2 yX2_ownShare wsX2_ownShare) := goodIn_app (goodIn_of _ (by decide +kernel)) ggX2_housingInYear_X2_ownShare
theorem dX2_housingInYear_0 : decode cX2_housingInYear 0 = .ok (.aload_n 0, 1) := by decide +kernel
theorem dX2_housingInYear_1 : decode cX2_housingInYear 1 = .ok (.invokevirtual 77, 3) := by decide +kernel
theorem dX2_housingInYear_4 : decode cX2_housingInYear 4 = .ok (.aload_n 0, 1) := by decide +kernel
theorem dX2_housingInYear_5 : decode cX2_housingInYear 5 = .ok (.getfield 25, 3) := by decide +kernel
theorem dX2_housingInYear_8 : decode cX2_housingInYear 8 = .ok (.aload_n 0, 1) := by decide +kernel
theorem dX2_housingInYear_9 : decode cX2_housingInYear 9 = .ok (.invokevirtual 83, 3) := by decide +kernel
theorem dX2_housingInYear_12 : decode cX2_housingInYear 12 = .ok (.isub, 1) := by decide +kernel
theorem dX2_housingInYear_13 : decode cX2_housingInYear 13 = .ok (.imul, 1) := by decide +kernel
theorem dX2_housingInYear_14 : decode cX2_housingInYear 14 = .ok (.ireturn, 1) := by decide +kernel
set_option maxRecDepth 20000 in
theorem ggX2_supposedTaxOfYear_X2_wholeIncome : GoodIn wsX2_supposedTaxOfYear wsX2_wholeIncome := goodIn_r _ [6, 7, 8, 9, 10, 11, 12, 13, 14, 15, 16, 17, 18, 19, 20, 21, 22, 23, 24, 25, 26, 27, 28, 29, 30, 31, 32, 51, 52, 53, 54, 55, 56, 57, 58, 59, 60, 61, 62, 63, 64] (by decide +kernel) (by decide +kernel)
set_option maxRecDepth 20000 in
theorem gX2_supposedTaxOfYear_X2_wholeIncome : GoodIn wsX2_supposedTaxOfYear (wsV RX2 86 RX2 yX2_wholeIncome wsX2_wholeIncome) := goodIn_app (goodIn_of _ (by decide +kernel)) ggX2_supposedTaxOfYear_X2_wholeIncome
set_option maxRecDepth 20000 in
theorem ggX2_supposedTaxOfYear_X1_taxOf : GoodIn wsX2_supposedTaxOfYear wsX1_taxOf := goodIn_r _ [37, 38, 39, 40, 41, 42, 43, 44, 45, 46, 47, 48, 49, 50, 65, 66, 67, 68, 69] (by decide +kernel) (by decide +kernel)
set_option maxRecDepth 20000 in
theorem gX2_supposedTaxOfYear_X1_taxOf : GoodIn wsX2_supposedTaxOfYear (wsV RX2 71 RX1 yX1_taxOf wsX1_taxOf) := goodIn_app (goodIn_of _ (by decide +kernel)) ggX2_supposedTaxOfYear_X1_taxOf
theorem dX2_supposedTaxOfYear_0 : decode cX2_supposedTaxOfYear 0 = .ok (.aload_n 0, 1) := by decide +kernel
theorem dX2_supposedTaxOfYear_1 : decode cX2_supposedTaxOfYear 1 = .ok (.getfield 31, 3) := by decide +kernel
theorem dX2_supposedTaxOfYear_4 : decode cX2_supposedTaxOfYear 4 = .ok (.aload_n 0, 1) := by decide +kernel
theorem dX2_supposedTaxOfYear_5 : decode cX2_supposedTaxOfYear 5 = .ok (.invokevirtual 86, 3) := by decide +kernel
theorem dX2_supposedTaxOfYear_8 : decode cX2_supposedTaxOfYear 8 = .ok (.invokevirtual 71, 3) := by decide +kernel
theorem dX2_supposedTaxOfYear_11 : decode cX2_supposedTaxOfYear 11 = .ok (.ireturn, 1) := by decide +kernel
set_option maxRecDepth 20000 in
theorem ggX2_incomeAtHome_X2_monthsAbroad : GoodIn wsX2_incomeAtHome wsX2_monthsAbroad := goodIn_r _ [8, 9, 10, 45, 46, 47, 48, 49, 50, 51, 52] (by decide +kernel) (by decide +kernel)
set_option maxRecDepth 20000 in
theorem gX2_incomeAtHome_X2_monthsAbroad : GoodIn wsX2_incomeAtHome (wsV RX2 77 RX2 yX2_monthsAbroad wsX2_monthsAbroad) := goodIn_app (goodIn_of _ (by decide +kernel)) ggX2_incomeAtHome_X2_monthsAbroad
set_option maxRecDepth 20000 in
theorem ggX2_incomeAtHome_Jx4a65c_size_8abf5 : GoodIn wsX2_incomeAtHome wsJx4a65c_size_8abf5 := goodIn_r _ [15, 16, 56, 57, 58] (by decide +kernel) (by decide +kernel)
set_option maxRecDepth 20000 in
theorem gX2_incomeAtHome_Jx4a65c_size_8abf5_f61Jx4a65c : GoodIn wsX2_incomeAtHome (va_wsF RX2 61 RJx4a65c ⟨"java/util/List", "size", "()I"⟩ yJx4a65c_size_8abf5 wsJx4a65c_size_8abf5) := goodIn_app (goodIn_of _ (by decide +kernel)) ggX2_incomeAtHome_Jx4a65c_size_8abf5
set_option maxRecDepth 20000 in
theorem ggX2_incomeAtHome_Jx4a65c_get_915e3 : GoodIn wsX2_incomeAtHome wsJx4a65c_get_915e3 := goodIn_r _ [20, 16, 21, 22, 23, 24, 25, 26, 27, 28, 29, 30, 31, 14, 32, 33, 56, 57, 58] (by decide +kernel) (by decide +kernel)
set_option maxRecDepth 20000 in
theorem gX2_incomeAtHome_Jx4a65c_get_915e3_f67Jx4a65c : GoodIn wsX2_incomeAtHome (va_wsF RX2 67 RJx4a65c ⟨"java/util/List", "get", "(I)Ljava/lang/Object;"⟩ yJx4a65c_get_915e3 wsJx4a65c_get_915e3) := goodIn_app (goodIn_of _ (by decide +kernel)) ggX2_incomeAtHome_Jx4a65c_get_915e3
set_option maxRecDepth 20000 in
theorem ggX2_incomeAtHome_X2_partAbroad : GoodIn wsX2_incomeAtHome wsX2_partAbroad := goodIn_r _ [37, 9, 38, 39, 40, 41, 10, 42, 43, 44, 53, 54, 55, 45, 46, 47, 48, 49, 50, 51, 52] (by decide +kernel) (by decide +kernel)
set_option maxRecDepth 20000 in
theorem gX2_incomeAtHome_X2_partAbroad : GoodIn wsX2_incomeAtHome (wsV RX2 89 RX2 yX2_partAbroad wsX2_partAbroad) := goodIn_app (goodIn_of _ (by decide +kernel)) ggX2_incomeAtHome_X2_partAbroad
theorem dX2_incomeAtHome_0 : decode cX2_incomeAtHome 0 = .ok (.bipush 12, 2) := by decide +kernel
theorem dX2_incomeAtHome_2 : decode cX2_incomeAtHome 2 = .ok (.aload_n 0, 1) := by decide +kernel
theorem dX2_incomeAtHome_3 : decode cX2_incomeAtHome 3 = .ok (.invokevirtual 77, 3) := by decide +kernel
theorem dX2_incomeAtHome_6 : decode cX2_incomeAtHome 6 = .ok (.isub, 1) := by decide +kernel
theorem dX2_incomeAtHome_7 : decode cX2_incomeAtHome 7 = .ok (.aload_n 0, 1) := by decide +kernel
theorem dX2_incomeAtHome_8 : decode cX2_incomeAtHome 8 = .ok (.getfield 38, 3) := by decide +kernel
theorem dX2_incomeAtHome_11 : decode cX2_incomeAtHome 11 = .ok (.imul, 1) := by decide +kernel
theorem dX2_incomeAtHome_12 : decode cX2_incomeAtHome 12 = .ok (.istore_n 1, 1) := by decide +kernel
theorem dX2_incomeAtHome_13 : decode cX2_incomeAtHome 13 = .ok (.iconst 0, 1) := by decide +kernel
theorem dX2_incomeAtHome_14 : decode cX2_incomeAtHome 14 = .ok (.istore_n 2, 1) := by decide +kernel
theorem dX2_incomeAtHome_15 : decode cX2_incomeAtHome 15 = .ok (.iload_n 2, 1) := by decide +kernel
theorem dX2_incomeAtHome_16 : decode cX2_incomeAtHome 16 = .ok (.aload_n 0, 1) := by decide +kernel
theorem dX2_incomeAtHome_17 : decode cX2_incomeAtHome 17 = .ok (.getfield 12, 3) := by decide +kernel
theorem dX2_incomeAtHome_20 : decode cX2_incomeAtHome 20 = .ok (.invokeinterface 61 1, 5) := by decide +kernel
theorem dX2_incomeAtHome_25 : decode cX2_incomeAtHome 25 = .ok (.if_icmp .ge 36, 3) := by decide +kernel
theorem dX2_incomeAtHome_28 : decode cX2_incomeAtHome 28 = .ok (.aload_n 0, 1) := by decide +kernel
theorem dX2_incomeAtHome_29 : decode cX2_incomeAtHome 29 = .ok (.getfield 12, 3) := by decide +kernel
theorem dX2_incomeAtHome_32 : decode cX2_incomeAtHome 32 = .ok (.iload_n 2, 1) := by decide +kernel
theorem dX2_incomeAtHome_33 : decode cX2_incomeAtHome 33 = .ok (.invokeinterface 67 2, 5) := by decide +kernel
theorem dX2_incomeAtHome_38 : decode cX2_incomeAtHome 38 = .ok (.checkcast 48, 3) := by decide +kernel
theorem dX2_incomeAtHome_41 : decode cX2_incomeAtHome 41 = .ok (.astore_n 3, 1) := by decide +kernel
theorem dX2_incomeAtHome_42 : decode cX2_incomeAtHome 42 = .ok (.iload_n 1, 1) := by decide +kernel
theorem dX2_incomeAtHome_43 : decode cX2_incomeAtHome 43 = .ok (.aload_n 3, 1) := by decide +kernel
theorem dX2_incomeAtHome_44 : decode cX2_incomeAtHome 44 = .ok (.getfield 58, 3) := by decide +kernel
theorem dX2_incomeAtHome_47 : decode cX2_incomeAtHome 47 = .ok (.aload_n 0, 1) := by decide +kernel
theorem dX2_incomeAtHome_48 : decode cX2_incomeAtHome 48 = .ok (.aload_n 3, 1) := by decide +kernel
theorem dX2_incomeAtHome_49 : decode cX2_incomeAtHome 49 = .ok (.invokevirtual 89, 3) := by decide +kernel
theorem dX2_incomeAtHome_52 : decode cX2_incomeAtHome 52 = .ok (.isub, 1) := by decide +kernel
theorem dX2_incomeAtHome_53 : decode cX2_incomeAtHome 53 = .ok (.iadd, 1) := by decide +kernel
theorem dX2_incomeAtHome_54 : decode cX2_incomeAtHome 54 = .ok (.istore_n 1, 1) := by decide +kernel
theorem dX2_incomeAtHome_55 : decode cX2_incomeAtHome 55 = .ok (.iinc 2 1, 3) := by decide +kernel
theorem dX2_incomeAtHome_58 : decode cX2_incomeAtHome 58 = .ok (.goto (-43), 3) := by decide +kernel
theorem dX2_incomeAtHome_61 : decode cX2_incomeAtHome 61 = .ok (.iload_n 1, 1) := by decide +kernel
theorem dX2_incomeAtHome_62 : decode cX2_incomeAtHome 62 = .ok (.ireturn, 1) := by decide +kernel
set_option maxRecDepth 20000 in
theorem ggX2_taxAtHome_X2_wholeIncome : GoodIn wsX2_taxAtHome wsX2_wholeIncome := goodIn_r _ [6, 7, 8, 9, 10, 11, 12, 13, 14, 15, 16, 17, 18, 19, 20, 21, 22, 23, 24, 25, 26, 27, 28, 29, 30, 31, 32, 67, 68, 69, 70, 71, 72, 73, 74, 75, 76, 77, 78, 79, 80] (by decide +kernel) (by decide +kernel)
set_option maxRecDepth 20000 in
theorem gX2_taxAtHome_X2_wholeIncome : GoodIn wsX2_taxAtHome (wsV RX2 86 RX2 yX2_wholeIncome wsX2_wholeIncome) := goodIn_app (goodIn_of _ (by decide +kernel)) ggX2_taxAtHome_X2_wholeIncome
set_option maxRecDepth 20000 in
theorem ggX2_taxAtHome_X1_taxOf : GoodIn wsX2_taxAtHome wsX1_taxOf := goodIn_r _ [37, 38, 39, 40, 41, 42, 43, 44, 45, 46, 47, 48, 49, 50, 81, 82, 83, 84, 85] (by decide +kernel) (by decide +kernel)
set_option maxRecDepth 20000 in
theorem gX2_taxAtHome_X1_taxOf : GoodIn wsX2_taxAtHome (wsV RX2 71 RX1 yX1_taxOf wsX1_taxOf) := goodIn_app (goodIn_of _ (by decide +kernel)) ggX2_taxAtHome_X1_taxOf
set_option maxRecDepth 20000 in
theorem ggX2_taxAtHome_X2_incomeAtHome : GoodIn wsX2_taxAtHome wsX2_incomeAtHome := goodIn_r _ [54, 7, 8, 9, 55, 56, 57, 5, 58, 59, 60, 10, 11, 12, 13, 14, 15, 16, 17, 18, 19, 20, 21, 22, 23, 24, 25, 26, 27, 28, 29, 30, 31, 32, 61, 62, 63, 64, 65, 40, 41, 42, 66, 45, 46, 67, 68, 69, 70, 71, 72, 73, 74, 75, 76, 77, 78, 79, 80] (by decide +kernel) (by decide +kernel)
set_option maxRecDepth 20000 in
theorem gX2_taxAtHome_X2_incomeAtHome : GoodIn wsX2_taxAtHome (wsV RX2 93 RX2 yX2_incomeAtHome wsX2_incomeAtHome) := goodIn_app (goodIn_of _ (by decide +kernel)) ggX2_taxAtHome_X2_incomeAtHome
theorem dX2_taxAtHome_0 : decode cX2_taxAtHome 0 = .ok (.aload_n 0, 1) := by decide +kernel
theorem dX2_taxAtHome_1 : decode cX2_taxAtHome 1 = .ok (.invokevirtual 86, 3) := by decide +kernel
theorem dX2_taxAtHome_4 : decode cX2_taxAtHome 4 = .ok (.istore_n 1, 1) := by decide +kernel
theorem dX2_taxAtHome_5 : decode cX2_taxAtHome 5 = .ok (.iload_n 1, 1) := by decide +kernel
theorem dX2_taxAtHome_6 : decode cX2_taxAtHome 6 = .ok (.ifCond .gt 5, 3) := by decide +kernel
theorem dX2_taxAtHome_9 : decode cX2_taxAtHome 9 = .ok (.iconst 0, 1) := by decide +kernel
theorem dX2_taxAtHome_10 : decode cX2_taxAtHome 10 = .ok (.ireturn, 1) := by decide +kernel
theorem dX2_taxAtHome_11 : decode cX2_taxAtHome 11 = .ok (.aload_n 0, 1) := by decide +kernel
theorem dX2_taxAtHome_12 : decode cX2_taxAtHome 12 = .ok (.getfield 31, 3) := by decide +kernel
theorem dX2_taxAtHome_15 : decode cX2_taxAtHome 15 = .ok (.iload_n 1, 1) := by decide +kernel
theorem dX2_taxAtHome_16 : decode cX2_taxAtHome 16 = .ok (.invokevirtual 71, 3) := by decide +kernel
theorem dX2_taxAtHome_19 : decode cX2_taxAtHome 19 = .ok (.i2l, 1) := by decide +kernel
theorem dX2_taxAtHome_20 : decode cX2_taxAtHome 20 = .ok (.aload_n 0, 1) := by decide +kernel
theorem dX2_taxAtHome_21 : decode cX2_taxAtHome 21 = .ok (.invokevirtual 93, 3) := by decide +kernel
theorem dX2_taxAtHome_24 : decode cX2_taxAtHome 24 = .ok (.i2l, 1) := by decide +kernel
theorem dX2_taxAtHome_25 : decode cX2_taxAtHome 25 = .ok (.lmul, 1) := by decide +kernel
theorem dX2_taxAtHome_26 : decode cX2_taxAtHome 26 = .ok (.iload_n 1, 1) := by decide +kernel
theorem dX2_taxAtHome_27 : decode cX2_taxAtHome 27 = .ok (.i2l, 1) := by decide +kernel
theorem dX2_taxAtHome_28 : decode cX2_taxAtHome 28 = .ok (.ldiv, 1) := by decide +kernel
theorem dX2_taxAtHome_29 : decode cX2_taxAtHome 29 = .ok (.l2i, 1) := by decide +kernel
theorem dX2_taxAtHome_30 : decode cX2_taxAtHome 30 = .ok (.ireturn, 1) := by decide +kernel
set_option maxRecDepth 20000 in
theorem ggX2_incomeAtHost_X2_monthsAbroad : GoodIn wsX2_incomeAtHost wsX2_monthsAbroad := goodIn_r _ [8, 9, 10, 55, 56, 57, 58, 59, 60, 61, 62] (by decide +kernel) (by decide +kernel)
set_option maxRecDepth 20000 in
theorem gX2_incomeAtHost_X2_monthsAbroad : GoodIn wsX2_incomeAtHost (wsV RX2 77 RX2 yX2_monthsAbroad wsX2_monthsAbroad) := goodIn_app (goodIn_of _ (by decide +kernel)) ggX2_incomeAtHost_X2_monthsAbroad
set_option maxRecDepth 20000 in
theorem ggX2_incomeAtHost_X2_housingInYear : GoodIn wsX2_incomeAtHost wsX2_housingInYear := goodIn_r _ [14, 15, 4, 5, 6, 7, 8, 9, 10, 16, 17, 18, 19, 1, 20, 21, 22, 23, 24, 55, 56, 57, 58, 59, 60, 61, 62] (by decide +kernel) (by decide +kernel)
set_option maxRecDepth 20000 in
theorem gX2_incomeAtHost_X2_housingInYear : GoodIn wsX2_incomeAtHost (wsV RX2 96 RX2 yX2_housingInYear wsX2_housingInYear) := goodIn_app (goodIn_of _ (by decide +kernel)) ggX2_incomeAtHost_X2_housingInYear
set_option maxRecDepth 20000 in
theorem ggX2_incomeAtHost_Jx4a65c_size_8abf5 : GoodIn wsX2_incomeAtHost wsJx4a65c_size_8abf5 := goodIn_r _ [29, 30, 63, 64, 65] (by decide +kernel) (by decide +kernel)
set_option maxRecDepth 20000 in
theorem gX2_incomeAtHost_Jx4a65c_size_8abf5_f61Jx4a65c : GoodIn wsX2_incomeAtHost (va_wsF RX2 61 RJx4a65c ⟨"java/util/List", "size", "()I"⟩ yJx4a65c_size_8abf5 wsJx4a65c_size_8abf5) := goodIn_app (goodIn_of _ (by decide +kernel)) ggX2_incomeAtHost_Jx4a65c_size_8abf5
set_option maxRecDepth 20000 in
theorem ggX2_incomeAtHost_Jx4a65c_get_915e3 : GoodIn wsX2_incomeAtHost wsJx4a65c_get_915e3 := goodIn_r _ [34, 30, 35, 36, 37, 38, 39, 40, 41, 42, 43, 44, 45, 28, 46, 47, 63, 64, 65] (by decide +kernel) (by decide +kernel)
set_option maxRecDepth 20000 in
theorem gX2_incomeAtHost_Jx4a65c_get_915e3_f67Jx4a65c : GoodIn wsX2_incomeAtHost (va_wsF RX2 67 RJx4a65c ⟨"java/util/List", "get", "(I)Ljava/lang/Object;"⟩ yJx4a65c_get_915e3 wsJx4a65c_get_915e3) := goodIn_app (goodIn_of _ (by decide +kernel)) ggX2_incomeAtHost_Jx4a65c_get_915e3
set_option maxRecDepth 20000 in
theorem ggX2_incomeAtHost_X2_partAbroad : GoodIn wsX2_incomeAtHost wsX2_partAbroad := goodIn_r _ [51, 9, 21, 22, 23, 24, 10, 52, 53, 54, 66, 67, 68, 55, 56, 57, 58, 59, 60, 61, 62] (by decide +kernel) (by decide +kernel)
set_option maxRecDepth 20000 in
theorem gX2_incomeAtHost_X2_partAbroad : GoodIn wsX2_incomeAtHost (wsV RX2 89 RX2 yX2_partAbroad wsX2_partAbroad) := goodIn_app (goodIn_of _ (by decide +kernel)) ggX2_incomeAtHost_X2_partAbroad
theorem dX2_incomeAtHost_0 : decode cX2_incomeAtHost 0 = .ok (.aload_n 0, 1) := by decide +kernel
theorem dX2_incomeAtHost_1 : decode cX2_incomeAtHost 1 = .ok (.invokevirtual 77, 3) := by decide +kernel
theorem dX2_incomeAtHost_4 : decode cX2_incomeAtHost 4 = .ok (.aload_n 0, 1) := by decide +kernel
theorem dX2_incomeAtHost_5 : decode cX2_incomeAtHost 5 = .ok (.getfield 38, 3) := by decide +kernel
theorem dX2_incomeAtHost_8 : decode cX2_incomeAtHost 8 = .ok (.imul, 1) := by decide +kernel
theorem dX2_incomeAtHost_9 : decode cX2_incomeAtHost 9 = .ok (.aload_n 0, 1) := by decide +kernel
theorem dX2_incomeAtHost_10 : decode cX2_incomeAtHost 10 = .ok (.invokevirtual 96, 3) := by decide +kernel
theorem dX2_incomeAtHost_13 : decode cX2_incomeAtHost 13 = .ok (.iadd, 1) := by decide +kernel
theorem dX2_incomeAtHost_14 : decode cX2_incomeAtHost 14 = .ok (.istore_n 1, 1) := by decide +kernel
theorem dX2_incomeAtHost_15 : decode cX2_incomeAtHost 15 = .ok (.iconst 0, 1) := by decide +kernel
theorem dX2_incomeAtHost_16 : decode cX2_incomeAtHost 16 = .ok (.istore_n 2, 1) := by decide +kernel
theorem dX2_incomeAtHost_17 : decode cX2_incomeAtHost 17 = .ok (.iload_n 2, 1) := by decide +kernel
theorem dX2_incomeAtHost_18 : decode cX2_incomeAtHost 18 = .ok (.aload_n 0, 1) := by decide +kernel
theorem dX2_incomeAtHost_19 : decode cX2_incomeAtHost 19 = .ok (.getfield 12, 3) := by decide +kernel
theorem dX2_incomeAtHost_22 : decode cX2_incomeAtHost 22 = .ok (.invokeinterface 61 1, 5) := by decide +kernel
theorem dX2_incomeAtHost_27 : decode cX2_incomeAtHost 27 = .ok (.if_icmp .ge 29, 3) := by decide +kernel
theorem dX2_incomeAtHost_30 : decode cX2_incomeAtHost 30 = .ok (.iload_n 1, 1) := by decide +kernel
theorem dX2_incomeAtHost_31 : decode cX2_incomeAtHost 31 = .ok (.aload_n 0, 1) := by decide +kernel
theorem dX2_incomeAtHost_32 : decode cX2_incomeAtHost 32 = .ok (.aload_n 0, 1) := by decide +kernel
theorem dX2_incomeAtHost_33 : decode cX2_incomeAtHost 33 = .ok (.getfield 12, 3) := by decide +kernel
theorem dX2_incomeAtHost_36 : decode cX2_incomeAtHost 36 = .ok (.iload_n 2, 1) := by decide +kernel
theorem dX2_incomeAtHost_37 : decode cX2_incomeAtHost 37 = .ok (.invokeinterface 67 2, 5) := by decide +kernel
theorem dX2_incomeAtHost_42 : decode cX2_incomeAtHost 42 = .ok (.checkcast 48, 3) := by decide +kernel
theorem dX2_incomeAtHost_45 : decode cX2_incomeAtHost 45 = .ok (.invokevirtual 89, 3) := by decide +kernel
theorem dX2_incomeAtHost_48 : decode cX2_incomeAtHost 48 = .ok (.iadd, 1) := by decide +kernel
theorem dX2_incomeAtHost_49 : decode cX2_incomeAtHost 49 = .ok (.istore_n 1, 1) := by decide +kernel
theorem dX2_incomeAtHost_50 : decode cX2_incomeAtHost 50 = .ok (.iinc 2 1, 3) := by decide +kernel
theorem dX2_incomeAtHost_53 : decode cX2_incomeAtHost 53 = .ok (.goto (-36), 3) := by decide +kernel
theorem dX2_incomeAtHost_56 : decode cX2_incomeAtHost 56 = .ok (.iload_n 1, 1) := by decide +kernel
theorem dX2_incomeAtHost_57 : decode cX2_incomeAtHost 57 = .ok (.ireturn, 1) := by decide +kernel
set_option maxRecDepth 20000 in
theorem ggX2_taxAtHost_X2_incomeAtHost : GoodIn wsX2_taxAtHost wsX2_incomeAtHost := goodIn_r _ [6, 7, 8, 9, 10, 11, 12, 5, 13, 14, 15, 16, 17, 18, 19, 20, 21, 22, 23, 24, 25, 26, 27, 28, 29, 30, 31, 32, 33, 34, 35, 36, 37, 38, 39, 40, 41, 42, 43, 44, 45, 46, 47, 48, 49, 50, 51, 52, 53, 54, 55, 56, 57, 58, 59, 80, 81, 82, 83, 84, 85, 86, 87, 88, 89, 90, 91, 92, 93] (by decide +kernel) (by decide +kernel)
set_option maxRecDepth 20000 in
theorem gX2_taxAtHost_X2_incomeAtHost : GoodIn wsX2_taxAtHost (wsV RX2 99 RX2 yX2_incomeAtHost wsX2_incomeAtHost) := goodIn_app (goodIn_of _ (by decide +kernel)) ggX2_taxAtHost_X2_incomeAtHost
set_option maxRecDepth 20000 in
theorem ggX2_taxAtHost_X1_grossTaxOf : GoodIn wsX2_taxAtHost wsX1_grossTaxOf := goodIn_r _ [64, 65, 66, 63, 67, 68, 69, 70, 71, 72, 73, 27, 28, 29, 74, 75, 58, 59, 76, 77, 78, 79, 94, 95, 96, 97, 98] (by decide +kernel) (by decide +kernel)
set_option maxRecDepth 20000 in
theorem gX2_taxAtHost_X1_grossTaxOf : GoodIn wsX2_taxAtHost (wsV RX2 102 RX1 yX1_grossTaxOf wsX1_grossTaxOf) := goodIn_app (goodIn_of _ (by decide +kernel)) ggX2_taxAtHost_X1_grossTaxOf
theorem dX2_taxAtHost_0 : decode cX2_taxAtHost 0 = .ok (.aload_n 0, 1) := by decide +kernel
theorem dX2_taxAtHost_1 : decode cX2_taxAtHost 1 = .ok (.getfield 35, 3) := by decide +kernel
theorem dX2_taxAtHost_4 : decode cX2_taxAtHost 4 = .ok (.aload_n 0, 1) := by decide +kernel
theorem dX2_taxAtHost_5 : decode cX2_taxAtHost 5 = .ok (.invokevirtual 99, 3) := by decide +kernel
theorem dX2_taxAtHost_8 : decode cX2_taxAtHost 8 = .ok (.invokevirtual 102, 3) := by decide +kernel
theorem dX2_taxAtHost_11 : decode cX2_taxAtHost 11 = .ok (.ireturn, 1) := by decide +kernel
set_option maxRecDepth 20000 in
theorem ggX2_borneInYear_X2_heldInYear : GoodIn wsX2_borneInYear wsX2_heldInYear := goodIn_r _ [5, 6, 7, 8, 4, 9, 10, 11, 12, 13, 14, 15, 16, 17, 18, 19, 20, 21, 22, 23, 24, 25, 26, 27, 28, 29, 30, 31, 32, 33, 34, 35, 79, 80, 81, 82, 83, 84, 85, 86, 87, 88, 89, 90, 91] (by decide +kernel) (by decide +kernel)
set_option maxRecDepth 20000 in
theorem gX2_borneInYear_X2_heldInYear : GoodIn wsX2_borneInYear (wsV RX2 105 RX2 yX2_heldInYear wsX2_heldInYear) := goodIn_app (goodIn_of _ (by decide +kernel)) ggX2_borneInYear_X2_heldInYear
set_option maxRecDepth 20000 in
theorem ggX2_borneInYear_X2_taxAtHome : GoodIn wsX2_borneInYear wsX2_taxAtHome := goodIn_r _ [39, 16, 40, 41, 42, 4, 43, 17, 44, 45, 46, 47, 48, 49, 50, 51, 52, 53, 54, 55, 56, 57, 58, 59, 60, 61, 62, 63, 64, 65, 66, 67, 68, 18, 19, 20, 21, 22, 23, 24, 25, 26, 27, 28, 29, 30, 31, 32, 33, 34, 35, 69, 70, 71, 72, 6, 7, 8, 9, 10, 11, 73, 74, 75, 76, 77, 78, 79, 80, 81, 82, 83, 84, 85, 86, 92, 93, 94, 95, 96, 97, 87, 88, 89, 90, 91] (by decide +kernel) (by decide +kernel)
set_option maxRecDepth 20000 in
theorem gX2_borneInYear_X2_taxAtHome : GoodIn wsX2_borneInYear (wsV RX2 108 RX2 yX2_taxAtHome wsX2_taxAtHome) := goodIn_app (goodIn_of _ (by decide +kernel)) ggX2_borneInYear_X2_taxAtHome
theorem dX2_borneInYear_0 : decode cX2_borneInYear 0 = .ok (.aload_n 0, 1) := by decide +kernel
theorem dX2_borneInYear_1 : decode cX2_borneInYear 1 = .ok (.invokevirtual 105, 3) := by decide +kernel
theorem dX2_borneInYear_4 : decode cX2_borneInYear 4 = .ok (.aload_n 0, 1) := by decide +kernel
theorem dX2_borneInYear_5 : decode cX2_borneInYear 5 = .ok (.invokevirtual 108, 3) := by decide +kernel
theorem dX2_borneInYear_8 : decode cX2_borneInYear 8 = .ok (.iadd, 1) := by decide +kernel
theorem dX2_borneInYear_9 : decode cX2_borneInYear 9 = .ok (.ireturn, 1) := by decide +kernel
set_option maxRecDepth 20000 in
theorem ggX2_settlementOfYear_X2_supposedTaxOfYear : GoodIn wsX2_settlementOfYear wsX2_supposedTaxOfYear := goodIn_r _ [5, 6, 7, 8, 9, 4, 10, 11, 12, 13, 14, 15, 16, 17, 18, 19, 20, 21, 22, 23, 24, 25, 26, 27, 28, 29, 30, 31, 32, 33, 34, 35, 36, 37, 38, 39, 40, 41, 42, 43, 44, 45, 46, 47, 48, 49, 50, 51, 52, 53, 54, 87, 88, 89, 90, 91, 92, 93, 94, 95, 96, 97, 98, 99, 100, 101, 102, 103, 104, 105] (by decide +kernel) (by decide +kernel)
set_option maxRecDepth 20000 in
theorem gX2_settlementOfYear_X2_supposedTaxOfYear : GoodIn wsX2_settlementOfYear (wsV RX2 111 RX2 yX2_supposedTaxOfYear wsX2_supposedTaxOfYear) := goodIn_app (goodIn_of _ (by decide +kernel)) ggX2_settlementOfYear_X2_supposedTaxOfYear
set_option maxRecDepth 20000 in
theorem ggX2_settlementOfYear_X2_borneInYear : GoodIn wsX2_settlementOfYear wsX2_borneInYear := goodIn_r _ [58, 59, 60, 61, 4, 62, 63, 64, 65, 66, 67, 68, 69, 70, 71, 72, 6, 11, 37, 38, 39, 40, 41, 42, 43, 44, 45, 46, 47, 48, 49, 50, 51, 52, 53, 54, 73, 74, 75, 76, 7, 8, 9, 10, 12, 13, 14, 15, 16, 17, 18, 19, 20, 21, 22, 23, 24, 25, 26, 27, 28, 29, 30, 31, 32, 33, 34, 35, 36, 77, 78, 79, 80, 81, 82, 83, 84, 85, 86, 87, 88, 89, 90, 91, 92, 93, 94, 101, 102, 103, 104, 105, 95, 96, 97, 98, 99, 100] (by decide +kernel) (by decide +kernel)
set_option maxRecDepth 20000 in
theorem gX2_settlementOfYear_X2_borneInYear : GoodIn wsX2_settlementOfYear (wsV RX2 114 RX2 yX2_borneInYear wsX2_borneInYear) := goodIn_app (goodIn_of _ (by decide +kernel)) ggX2_settlementOfYear_X2_borneInYear
theorem dX2_settlementOfYear_0 : decode cX2_settlementOfYear 0 = .ok (.aload_n 0, 1) := by decide +kernel
theorem dX2_settlementOfYear_1 : decode cX2_settlementOfYear 1 = .ok (.invokevirtual 111, 3) := by decide +kernel
theorem dX2_settlementOfYear_4 : decode cX2_settlementOfYear 4 = .ok (.aload_n 0, 1) := by decide +kernel
theorem dX2_settlementOfYear_5 : decode cX2_settlementOfYear 5 = .ok (.invokevirtual 114, 3) := by decide +kernel
theorem dX2_settlementOfYear_8 : decode cX2_settlementOfYear 8 = .ok (.isub, 1) := by decide +kernel
theorem dX2_settlementOfYear_9 : decode cX2_settlementOfYear 9 = .ok (.ireturn, 1) := by decide +kernel
set_option maxRecDepth 20000 in
theorem ggX2_costOfYear_X2_taxAtHost : GoodIn wsX2_costOfYear wsX2_taxAtHost := goodIn_r _ [5, 6, 7, 8, 9, 4, 10, 11, 12, 13, 14, 15, 16, 17, 18, 19, 20, 21, 22, 23, 24, 25, 26, 27, 28, 29, 30, 31, 32, 33, 34, 35, 36, 37, 38, 39, 40, 41, 42, 43, 44, 45, 46, 47, 48, 49, 50, 51, 52, 53, 54, 55, 56, 57, 58, 59, 60, 61, 62, 63, 64, 65, 66, 67, 68, 69, 70, 71, 72, 73, 74, 75, 76, 77, 78, 79, 80, 81, 82, 83, 118, 119, 120, 121, 122, 123, 124, 125, 126, 127, 128, 129, 130, 131, 132, 133, 134, 135, 136] (by decide +kernel) (by decide +kernel)
set_option maxRecDepth 20000 in
theorem gX2_costOfYear_X2_taxAtHost : GoodIn wsX2_costOfYear (wsV RX2 117 RX2 yX2_taxAtHost wsX2_taxAtHost) := goodIn_app (goodIn_of _ (by decide +kernel)) ggX2_costOfYear_X2_taxAtHost
set_option maxRecDepth 20000 in
theorem ggX2_costOfYear_X2_housingInYear : GoodIn wsX2_costOfYear wsX2_housingInYear := goodIn_r _ [23, 24, 14, 15, 16, 4, 17, 18, 19, 25, 26, 27, 28, 11, 29, 30, 31, 32, 33, 118, 119, 120, 121, 122, 123, 124, 125] (by decide +kernel) (by decide +kernel)
set_option maxRecDepth 20000 in
theorem gX2_costOfYear_X2_housingInYear : GoodIn wsX2_costOfYear (wsV RX2 96 RX2 yX2_housingInYear wsX2_housingInYear) := goodIn_app (goodIn_of _ (by decide +kernel)) ggX2_costOfYear_X2_housingInYear
set_option maxRecDepth 20000 in
theorem ggX2_costOfYear_X2_heldInYear : GoodIn wsX2_costOfYear wsX2_heldInYear := goodIn_r _ [87, 14, 15, 16, 4, 17, 18, 19, 88, 89, 90, 91, 92, 11, 93, 73, 74, 67, 75, 76, 77, 31, 32, 33, 78, 79, 62, 63, 80, 81, 82, 83, 118, 119, 120, 121, 122, 123, 124, 125, 132, 133, 134, 135, 136] (by decide +kernel) (by decide +kernel)
set_option maxRecDepth 20000 in
theorem gX2_costOfYear_X2_heldInYear : GoodIn wsX2_costOfYear (wsV RX2 105 RX2 yX2_heldInYear wsX2_heldInYear) := goodIn_app (goodIn_of _ (by decide +kernel)) ggX2_costOfYear_X2_heldInYear
set_option maxRecDepth 20000 in
theorem ggX2_costOfYear_X2_settlementOfYear : GoodIn wsX2_costOfYear wsX2_settlementOfYear := goodIn_r _ [97, 98, 99, 100, 4, 101, 92, 102, 103, 104, 105, 11, 12, 13, 34, 35, 36, 37, 38, 39, 40, 41, 42, 43, 44, 45, 46, 47, 48, 49, 50, 51, 52, 53, 54, 55, 56, 93, 73, 74, 67, 75, 76, 77, 31, 32, 33, 78, 79, 62, 63, 80, 81, 82, 83, 106, 107, 108, 109, 84, 85, 86, 87, 14, 15, 16, 17, 18, 19, 88, 89, 90, 91, 110, 111, 112, 113, 114, 115, 116, 117, 57, 58, 59, 60, 30, 61, 118, 119, 120, 121, 122, 123, 124, 125, 129, 130, 131, 126, 127, 128, 132, 133, 134, 135, 136] (by decide +kernel) (by decide +kernel)
set_option maxRecDepth 20000 in
theorem gX2_costOfYear_X2_settlementOfYear : GoodIn wsX2_costOfYear (wsV RX2 120 RX2 yX2_settlementOfYear wsX2_settlementOfYear) := goodIn_app (goodIn_of _ (by decide +kernel)) ggX2_costOfYear_X2_settlementOfYear
theorem dX2_costOfYear_0 : decode cX2_costOfYear 0 = .ok (.aload_n 0, 1) := by decide +kernel
theorem dX2_costOfYear_1 : decode cX2_costOfYear 1 = .ok (.invokevirtual 117, 3) := by decide +kernel
theorem dX2_costOfYear_4 : decode cX2_costOfYear 4 = .ok (.aload_n 0, 1) := by decide +kernel
theorem dX2_costOfYear_5 : decode cX2_costOfYear 5 = .ok (.invokevirtual 96, 3) := by decide +kernel
theorem dX2_costOfYear_8 : decode cX2_costOfYear 8 = .ok (.iadd, 1) := by decide +kernel
theorem dX2_costOfYear_9 : decode cX2_costOfYear 9 = .ok (.aload_n 0, 1) := by decide +kernel
theorem dX2_costOfYear_10 : decode cX2_costOfYear 10 = .ok (.invokevirtual 105, 3) := by decide +kernel
theorem dX2_costOfYear_13 : decode cX2_costOfYear 13 = .ok (.isub, 1) := by decide +kernel
theorem dX2_costOfYear_14 : decode cX2_costOfYear 14 = .ok (.aload_n 0, 1) := by decide +kernel
theorem dX2_costOfYear_15 : decode cX2_costOfYear 15 = .ok (.invokevirtual 120, 3) := by decide +kernel
theorem dX2_costOfYear_18 : decode cX2_costOfYear 18 = .ok (.isub, 1) := by decide +kernel
theorem dX2_costOfYear_19 : decode cX2_costOfYear 19 = .ok (.ireturn, 1) := by decide +kernel
set_option maxRecDepth 20000 in
theorem ggX3_init_Jx4a65c_init_da8c8 : GoodIn wsX3_init wsJx4a65c_init_da8c8 := goodIn_r _ [14, 15, 16, 17, 18, 19, 20, 21, 22, 23, 24, 25, 26, 2, 3, 89, 90, 91] (by decide +kernel) (by decide +kernel)
set_option maxRecDepth 20000 in
theorem gX3_init_Jx4a65c_init_da8c8 : GoodIn wsX3_init (wsJx4a65c_init_da8c8) := ggX3_init_Jx4a65c_init_da8c8
set_option maxRecDepth 20000 in
theorem ggX3_init_X1_init : GoodIn wsX3_init wsX1_init := goodIn_r _ [28, 29, 2, 3, 30, 31, 32, 33, 34, 35, 94, 95, 96, 97, 98] (by decide +kernel) (by decide +kernel)
set_option maxRecDepth 20000 in
theorem gX3_init_X1_init_n21 : GoodIn wsX3_init (wsX1_init) := ggX3_init_X1_init
set_option maxRecDepth 20000 in
theorem ggX3_init_Jx4a65c_add_9ea2d : GoodIn wsX3_init wsJx4a65c_add_9ea2d := goodIn_r _ [39, 40, 41, 16, 42, 43, 44, 45, 6, 46, 47, 48, 49, 50, 51, 52, 53, 54, 15, 55, 56, 57, 58, 59, 60, 61, 62, 63, 64, 65, 66, 67, 68, 69, 70, 71, 72, 73, 74, 75, 76, 77, 78, 79, 80, 81, 82, 83, 84, 85, 86, 87, 88, 89, 90, 91] (by decide +kernel) (by decide +kernel)
set_option maxRecDepth 20000 in
theorem gX3_init_Jx4a65c_add_9ea2d_f22Jx4a65c : GoodIn wsX3_init (va_wsF RX3 22 RJx4a65c ⟨"java/util/List", "add", "(Ljava/lang/Object;)Z"⟩ yJx4a65c_add_9ea2d wsJx4a65c_add_9ea2d) := goodIn_app (goodIn_of _ (by decide +kernel)) ggX3_init_Jx4a65c_add_9ea2d
theorem dX3_init_0 : decode cX3_init 0 = .ok (.aload_n 0, 1) := by decide +kernel
theorem dX3_init_1 : decode cX3_init 1 = .ok (.invokespecial 1, 3) := by decide +kernel
theorem dX3_init_4 : decode cX3_init 4 = .ok (.aload_n 0, 1) := by decide +kernel
theorem dX3_init_5 : decode cX3_init 5 = .ok (.new 7, 3) := by decide +kernel
theorem dX3_init_8 : decode cX3_init 8 = .ok (.dup, 1) := by decide +kernel
theorem dX3_init_9 : decode cX3_init 9 = .ok (.invokespecial 9, 3) := by decide +kernel
theorem dX3_init_12 : decode cX3_init 12 = .ok (.putfield 10, 3) := by decide +kernel
theorem dX3_init_15 : decode cX3_init 15 = .ok (.aload_n 0, 1) := by decide +kernel
theorem dX3_init_16 : decode cX3_init 16 = .ok (.new 7, 3) := by decide +kernel
theorem dX3_init_19 : decode cX3_init 19 = .ok (.dup, 1) := by decide +kernel
theorem dX3_init_20 : decode cX3_init 20 = .ok (.invokespecial 9, 3) := by decide +kernel
theorem dX3_init_23 : decode cX3_init 23 = .ok (.putfield 16, 3) := by decide +kernel
theorem dX3_init_26 : decode cX3_init 26 = .ok (.iconst 0, 1) := by decide +kernel
theorem dX3_init_27 : decode cX3_init 27 = .ok (.istore_n 1, 1) := by decide +kernel
theorem dX3_init_28 : decode cX3_init 28 = .ok (.iload_n 1, 1) := by decide +kernel
theorem dX3_init_29 : decode cX3_init 29 = .ok (.iconst 4, 1) := by decide +kernel
theorem dX3_init_30 : decode cX3_init 30 = .ok (.if_icmp .ge 26, 3) := by decide +kernel
theorem dX3_init_33 : decode cX3_init 33 = .ok (.aload_n 0, 1) := by decide +kernel
theorem dX3_init_34 : decode cX3_init 34 = .ok (.getfield 10, 3) := by decide +kernel
theorem dX3_init_37 : decode cX3_init 37 = .ok (.new 19, 3) := by decide +kernel
theorem dX3_init_40 : decode cX3_init 40 = .ok (.dup, 1) := by decide +kernel
theorem dX3_init_41 : decode cX3_init 41 = .ok (.invokespecial 21, 3) := by decide +kernel
theorem dX3_init_44 : decode cX3_init 44 = .ok (.invokeinterface 22 2, 5) := by decide +kernel
theorem dX3_init_49 : decode cX3_init 49 = .ok (.pop, 1) := by decide +kernel
theorem dX3_init_50 : decode cX3_init 50 = .ok (.iinc 1 1, 3) := by decide +kernel
theorem dX3_init_53 : decode cX3_init 53 = .ok (.goto (-25), 3) := by decide +kernel
theorem dX3_init_56 : decode cX3_init 56 = .ok (.return_, 1) := by decide +kernel
set_option maxRecDepth 20000 in
theorem ggX3_setLimits_X3_landAt : GoodIn wsX3_setLimits wsX3_landAt := goodIn_ca (goodIn_r _ [6, 7, 8, 9, 10, 11, 12, 13, 14, 15, 16, 17, 18, 19, 20, 21, 22, 23, 24, 25, 26, 27, 28, 29, 30, 31, 32, 33, 44, 45, 46, 47, 48] (by decide +kernel) (by decide +kernel)) (goodIn_sub (fun _ h => List.mem_cons_of_mem _ (List.mem_append_right _ h)) (by decide +kernel))
set_option maxRecDepth 20000 in
theorem gX3_setLimits_X3_landAt : GoodIn wsX3_setLimits (wsV RX3 28 RX3 yX3_landAt wsX3_landAt) := goodIn_app (goodIn_of _ (by decide +kernel)) ggX3_setLimits_X3_landAt
set_option maxRecDepth 20000 in
theorem ggX3_setLimits_X3_requireRange : GoodIn wsX3_setLimits wsX3_requireRange := goodIn_ca (goodIn_r _ [36, 7, 8] (by decide +kernel) (by decide +kernel)) (goodIn_sub (fun _ h => List.mem_cons_of_mem _ (List.mem_append_right _ h)) (by decide +kernel))
set_option maxRecDepth 20000 in
theorem gX3_setLimits_X3_requireRange : GoodIn wsX3_setLimits (va_wsS RX3 33 yX3_requireRange wsX3_requireRange) := goodIn_app (goodIn_of _ (by decide +kernel)) ggX3_setLimits_X3_requireRange
set_option maxRecDepth 20000 in
theorem ggX3_setLimits_X1_limit : GoodIn wsX3_setLimits wsX1_limit := goodIn_r _ [41, 42, 43, 49, 50, 51, 52, 53] (by decide +kernel) (by decide +kernel)
set_option maxRecDepth 20000 in
theorem gX3_setLimits_X1_limit : GoodIn wsX3_setLimits (wsV RX3 37 RX1 yX1_limit wsX1_limit) := goodIn_app (goodIn_of _ (by decide +kernel)) ggX3_setLimits_X1_limit
theorem dX3_setLimits_0 : decode cX3_setLimits 0 = .ok (.aload_n 0, 1) := by decide +kernel
theorem dX3_setLimits_1 : decode cX3_setLimits 1 = .ok (.iload_n 1, 1) := by decide +kernel
theorem dX3_setLimits_2 : decode cX3_setLimits 2 = .ok (.invokevirtual 28, 3) := by decide +kernel
theorem dX3_setLimits_5 : decode cX3_setLimits 5 = .ok (.astore 4, 2) := by decide +kernel
theorem dX3_setLimits_7 : decode cX3_setLimits 7 = .ok (.iload_n 2, 1) := by decide +kernel
theorem dX3_setLimits_8 : decode cX3_setLimits 8 = .ok (.iconst 0, 1) := by decide +kernel
theorem dX3_setLimits_9 : decode cX3_setLimits 9 = .ok (.ldc 32, 2) := by decide +kernel
theorem dX3_setLimits_11 : decode cX3_setLimits 11 = .ok (.invokestatic 33, 3) := by decide +kernel
theorem dX3_setLimits_14 : decode cX3_setLimits 14 = .ok (.iload_n 3, 1) := by decide +kernel
theorem dX3_setLimits_15 : decode cX3_setLimits 15 = .ok (.iload_n 2, 1) := by decide +kernel
theorem dX3_setLimits_16 : decode cX3_setLimits 16 = .ok (.ldc 32, 2) := by decide +kernel
theorem dX3_setLimits_18 : decode cX3_setLimits 18 = .ok (.invokestatic 33, 3) := by decide +kernel
theorem dX3_setLimits_21 : decode cX3_setLimits 21 = .ok (.aload 4, 2) := by decide +kernel
theorem dX3_setLimits_23 : decode cX3_setLimits 23 = .ok (.iload_n 2, 1) := by decide +kernel
theorem dX3_setLimits_24 : decode cX3_setLimits 24 = .ok (.iload_n 3, 1) := by decide +kernel
theorem dX3_setLimits_25 : decode cX3_setLimits 25 = .ok (.invokevirtual 37, 3) := by decide +kernel
theorem dX3_setLimits_28 : decode cX3_setLimits 28 = .ok (.return_, 1) := by decide +kernel
set_option maxRecDepth 20000 in
theorem ggX3_setRates_X3_landAt : GoodIn wsX3_setRates wsX3_landAt := goodIn_ca (goodIn_r _ [5, 6, 7, 8, 9, 10, 11, 12, 13, 14, 15, 16, 17, 18, 19, 20, 21, 22, 23, 24, 25, 26, 27, 28, 29, 30, 31, 32, 44, 45, 46, 47, 48] (by decide +kernel) (by decide +kernel)) (goodIn_sub (fun _ h => List.mem_cons_of_mem _ (List.mem_append_right _ h)) (by decide +kernel))
set_option maxRecDepth 20000 in
theorem gX3_setRates_X3_landAt : GoodIn wsX3_setRates (wsV RX3 28 RX3 yX3_landAt wsX3_landAt) := goodIn_app (goodIn_of _ (by decide +kernel)) ggX3_setRates_X3_landAt
set_option maxRecDepth 20000 in
theorem ggX3_setRates_X3_requireRange : GoodIn wsX3_setRates wsX3_requireRange := goodIn_ca (goodIn_r _ [35, 6, 7] (by decide +kernel) (by decide +kernel)) (goodIn_sub (fun _ h => List.mem_cons_of_mem _ (List.mem_append_right _ h)) (by decide +kernel))
set_option maxRecDepth 20000 in
theorem gX3_setRates_X3_requireRange : GoodIn wsX3_setRates (va_wsS RX3 33 yX3_requireRange wsX3_requireRange) := goodIn_app (goodIn_of _ (by decide +kernel)) ggX3_setRates_X3_requireRange
set_option maxRecDepth 20000 in
theorem ggX3_setRates_X1_rate : GoodIn wsX3_setRates wsX1_rate := goodIn_r _ [40, 41, 42, 43, 49, 50, 51, 52, 53] (by decide +kernel) (by decide +kernel)
set_option maxRecDepth 20000 in
theorem gX3_setRates_X1_rate : GoodIn wsX3_setRates (wsV RX3 41 RX1 yX1_rate wsX1_rate) := goodIn_app (goodIn_of _ (by decide +kernel)) ggX3_setRates_X1_rate
theorem dX3_setRates_0 : decode cX3_setRates 0 = .ok (.aload_n 0, 1) := by decide +kernel
theorem dX3_setRates_1 : decode cX3_setRates 1 = .ok (.iload_n 1, 1) := by decide +kernel
theorem dX3_setRates_2 : decode cX3_setRates 2 = .ok (.invokevirtual 28, 3) := by decide +kernel
theorem dX3_setRates_5 : decode cX3_setRates 5 = .ok (.astore 5, 2) := by decide +kernel
theorem dX3_setRates_7 : decode cX3_setRates 7 = .ok (.iload_n 2, 1) := by decide +kernel
theorem dX3_setRates_8 : decode cX3_setRates 8 = .ok (.iconst 0, 1) := by decide +kernel
theorem dX3_setRates_9 : decode cX3_setRates 9 = .ok (.bipush 60, 2) := by decide +kernel
theorem dX3_setRates_11 : decode cX3_setRates 11 = .ok (.invokestatic 33, 3) := by decide +kernel
theorem dX3_setRates_14 : decode cX3_setRates 14 = .ok (.iload_n 3, 1) := by decide +kernel
theorem dX3_setRates_15 : decode cX3_setRates 15 = .ok (.iconst 0, 1) := by decide +kernel
theorem dX3_setRates_16 : decode cX3_setRates 16 = .ok (.bipush 60, 2) := by decide +kernel
theorem dX3_setRates_18 : decode cX3_setRates 18 = .ok (.invokestatic 33, 3) := by decide +kernel
theorem dX3_setRates_21 : decode cX3_setRates 21 = .ok (.iload 4, 2) := by decide +kernel
theorem dX3_setRates_23 : decode cX3_setRates 23 = .ok (.iconst 0, 1) := by decide +kernel
theorem dX3_setRates_24 : decode cX3_setRates 24 = .ok (.bipush 60, 2) := by decide +kernel
theorem dX3_setRates_26 : decode cX3_setRates 26 = .ok (.invokestatic 33, 3) := by decide +kernel
theorem dX3_setRates_29 : decode cX3_setRates 29 = .ok (.aload 5, 2) := by decide +kernel
theorem dX3_setRates_31 : decode cX3_setRates 31 = .ok (.iload_n 2, 1) := by decide +kernel
theorem dX3_setRates_32 : decode cX3_setRates 32 = .ok (.iload_n 3, 1) := by decide +kernel
theorem dX3_setRates_33 : decode cX3_setRates 33 = .ok (.iload 4, 2) := by decide +kernel
theorem dX3_setRates_35 : decode cX3_setRates 35 = .ok (.invokevirtual 41, 3) := by decide +kernel
theorem dX3_setRates_38 : decode cX3_setRates 38 = .ok (.return_, 1) := by decide +kernel
set_option maxRecDepth 20000 in
theorem ggX3_tax_X3_landAt : GoodIn wsX3_tax wsX3_landAt := goodIn_ca (goodIn_r _ [6, 7, 8, 9, 10, 11, 12, 13, 14, 15, 16, 17, 18, 19, 20, 21, 22, 23, 24, 25, 26, 27, 28, 29, 30, 31, 32, 33, 55, 56, 57, 58, 59] (by decide +kernel) (by decide +kernel)) (goodIn_sub (fun _ h => List.mem_cons_of_mem _ (List.mem_append_right _ h)) (by decide +kernel))
set_option maxRecDepth 20000 in
theorem gX3_tax_X3_landAt : GoodIn wsX3_tax (wsV RX3 28 RX3 yX3_landAt wsX3_landAt) := goodIn_app (goodIn_of _ (by decide +kernel)) ggX3_tax_X3_landAt
set_option maxRecDepth 20000 in
theorem ggX3_tax_X3_requireRange : GoodIn wsX3_tax wsX3_requireRange := goodIn_ca (goodIn_r _ [36, 7, 8] (by decide +kernel) (by decide +kernel)) (goodIn_sub (fun _ h => List.mem_cons_of_mem _ (List.mem_append_right _ h)) (by decide +kernel))
set_option maxRecDepth 20000 in
theorem gX3_tax_X3_requireRange : GoodIn wsX3_tax (va_wsS RX3 33 yX3_requireRange wsX3_requireRange) := goodIn_app (goodIn_of _ (by decide +kernel)) ggX3_tax_X3_requireRange
set_option maxRecDepth 20000 in
theorem ggX3_tax_X1_taxOf : GoodIn wsX3_tax wsX1_taxOf := goodIn_r _ [41, 42, 43, 44, 45, 46, 47, 48, 49, 50, 51, 52, 53, 54, 60, 61, 62, 63, 64] (by decide +kernel) (by decide +kernel)
set_option maxRecDepth 20000 in
theorem gX3_tax_X1_taxOf : GoodIn wsX3_tax (wsV RX3 45 RX1 yX1_taxOf wsX1_taxOf) := goodIn_app (goodIn_of _ (by decide +kernel)) ggX3_tax_X1_taxOf
theorem dX3_tax_0 : decode cX3_tax 0 = .ok (.aload_n 0, 1) := by decide +kernel
theorem dX3_tax_1 : decode cX3_tax 1 = .ok (.iload_n 1, 1) := by decide +kernel
theorem dX3_tax_2 : decode cX3_tax 2 = .ok (.invokevirtual 28, 3) := by decide +kernel
theorem dX3_tax_5 : decode cX3_tax 5 = .ok (.astore_n 3, 1) := by decide +kernel
theorem dX3_tax_6 : decode cX3_tax 6 = .ok (.iload_n 2, 1) := by decide +kernel
theorem dX3_tax_7 : decode cX3_tax 7 = .ok (.iconst 0, 1) := by decide +kernel
theorem dX3_tax_8 : decode cX3_tax 8 = .ok (.ldc 44, 2) := by decide +kernel
theorem dX3_tax_10 : decode cX3_tax 10 = .ok (.invokestatic 33, 3) := by decide +kernel
theorem dX3_tax_13 : decode cX3_tax 13 = .ok (.aload_n 3, 1) := by decide +kernel
theorem dX3_tax_14 : decode cX3_tax 14 = .ok (.iload_n 2, 1) := by decide +kernel
theorem dX3_tax_15 : decode cX3_tax 15 = .ok (.invokevirtual 45, 3) := by decide +kernel
theorem dX3_tax_18 : decode cX3_tax 18 = .ok (.ireturn, 1) := by decide +kernel
set_option maxRecDepth 20000 in
theorem ggX3_grossTax_X3_landAt : GoodIn wsX3_grossTax wsX3_landAt := goodIn_ca (goodIn_r _ [6, 7, 8, 9, 10, 11, 12, 13, 14, 15, 16, 17, 18, 19, 20, 21, 22, 23, 24, 25, 26, 27, 28, 29, 30, 31, 32, 33, 62, 63, 64, 65, 66] (by decide +kernel) (by decide +kernel)) (goodIn_sub (fun _ h => List.mem_cons_of_mem _ (List.mem_append_right _ h)) (by decide +kernel))
set_option maxRecDepth 20000 in
theorem gX3_grossTax_X3_landAt : GoodIn wsX3_grossTax (wsV RX3 28 RX3 yX3_landAt wsX3_landAt) := goodIn_app (goodIn_of _ (by decide +kernel)) ggX3_grossTax_X3_landAt
set_option maxRecDepth 20000 in
theorem ggX3_grossTax_X3_requireRange : GoodIn wsX3_grossTax wsX3_requireRange := goodIn_ca (goodIn_r _ [36, 7, 8] (by decide +kernel) (by decide +kernel)) (goodIn_sub (fun _ h => List.mem_cons_of_mem _ (List.mem_append_right _ h)) (by decide +kernel))
set_option maxRecDepth 20000 in
theorem gX3_grossTax_X3_requireRange : GoodIn wsX3_grossTax (va_wsS RX3 33 yX3_requireRange wsX3_requireRange) := goodIn_app (goodIn_of _ (by decide +kernel)) ggX3_grossTax_X3_requireRange
set_option maxRecDepth 20000 in
theorem ggX3_grossTax_X1_grossTaxOf : GoodIn wsX3_grossTax wsX1_grossTaxOf := goodIn_r _ [41, 42, 43, 40, 44, 45, 46, 47, 48, 49, 50, 51, 52, 53, 54, 55, 56, 57, 58, 59, 60, 61, 67, 68, 69, 70, 71] (by decide +kernel) (by decide +kernel)
set_option maxRecDepth 20000 in
theorem gX3_grossTax_X1_grossTaxOf : GoodIn wsX3_grossTax (wsV RX3 49 RX1 yX1_grossTaxOf wsX1_grossTaxOf) := goodIn_app (goodIn_of _ (by decide +kernel)) ggX3_grossTax_X1_grossTaxOf
theorem dX3_grossTax_0 : decode cX3_grossTax 0 = .ok (.aload_n 0, 1) := by decide +kernel
theorem dX3_grossTax_1 : decode cX3_grossTax 1 = .ok (.iload_n 1, 1) := by decide +kernel
theorem dX3_grossTax_2 : decode cX3_grossTax 2 = .ok (.invokevirtual 28, 3) := by decide +kernel
theorem dX3_grossTax_5 : decode cX3_grossTax 5 = .ok (.astore_n 3, 1) := by decide +kernel
theorem dX3_grossTax_6 : decode cX3_grossTax 6 = .ok (.iload_n 2, 1) := by decide +kernel
theorem dX3_grossTax_7 : decode cX3_grossTax 7 = .ok (.iconst 0, 1) := by decide +kernel
theorem dX3_grossTax_8 : decode cX3_grossTax 8 = .ok (.ldc 44, 2) := by decide +kernel
theorem dX3_grossTax_10 : decode cX3_grossTax 10 = .ok (.invokestatic 33, 3) := by decide +kernel
theorem dX3_grossTax_13 : decode cX3_grossTax 13 = .ok (.aload_n 3, 1) := by decide +kernel
theorem dX3_grossTax_14 : decode cX3_grossTax 14 = .ok (.iload_n 2, 1) := by decide +kernel
theorem dX3_grossTax_15 : decode cX3_grossTax 15 = .ok (.invokevirtual 49, 3) := by decide +kernel
theorem dX3_grossTax_18 : decode cX3_grossTax 18 = .ok (.ireturn, 1) := by decide +kernel
set_option maxRecDepth 20000 in
theorem ggX3_grossTaxByTrying_X3_landAt : GoodIn wsX3_grossTaxByTrying wsX3_landAt := goodIn_ca (goodIn_r _ [5, 6, 7, 8, 9, 10, 11, 12, 13, 14, 15, 16, 17, 18, 19, 20, 21, 22, 23, 24, 25, 26, 27, 28, 29, 30, 31, 32, 61, 62, 63, 64, 65] (by decide +kernel) (by decide +kernel)) (goodIn_sub (fun _ h => List.mem_cons_of_mem _ (List.mem_append_right _ h)) (by decide +kernel))
set_option maxRecDepth 20000 in
theorem gX3_grossTaxByTrying_X3_landAt : GoodIn wsX3_grossTaxByTrying (wsV RX3 28 RX3 yX3_landAt wsX3_landAt) := goodIn_app (goodIn_of _ (by decide +kernel)) ggX3_grossTaxByTrying_X3_landAt
set_option maxRecDepth 20000 in
theorem ggX3_grossTaxByTrying_X3_requireRange : GoodIn wsX3_grossTaxByTrying wsX3_requireRange := goodIn_ca (goodIn_r _ [35, 6, 7] (by decide +kernel) (by decide +kernel)) (goodIn_sub (fun _ h => List.mem_cons_of_mem _ (List.mem_append_right _ h)) (by decide +kernel))
set_option maxRecDepth 20000 in
theorem gX3_grossTaxByTrying_X3_requireRange : GoodIn wsX3_grossTaxByTrying (va_wsS RX3 33 yX3_requireRange wsX3_requireRange) := goodIn_app (goodIn_of _ (by decide +kernel)) ggX3_grossTaxByTrying_X3_requireRange
set_option maxRecDepth 20000 in
theorem ggX3_grossTaxByTrying_X1_grossTaxTried : GoodIn wsX3_grossTaxByTrying wsX1_grossTaxTried := goodIn_r _ [40, 41, 42, 39, 43, 44, 45, 46, 47, 48, 49, 50, 51, 52, 53, 54, 55, 56, 57, 58, 59, 60, 66, 67, 68, 69, 70] (by decide +kernel) (by decide +kernel)
set_option maxRecDepth 20000 in
theorem gX3_grossTaxByTrying_X1_grossTaxTried : GoodIn wsX3_grossTaxByTrying (wsV RX3 52 RX1 yX1_grossTaxTried wsX1_grossTaxTried) := goodIn_app (goodIn_of _ (by decide +kernel)) ggX3_grossTaxByTrying_X1_grossTaxTried
theorem dX3_grossTaxByTrying_0 : decode cX3_grossTaxByTrying 0 = .ok (.aload_n 0, 1) := by decide +kernel
theorem dX3_grossTaxByTrying_1 : decode cX3_grossTaxByTrying 1 = .ok (.iload_n 1, 1) := by decide +kernel
theorem dX3_grossTaxByTrying_2 : decode cX3_grossTaxByTrying 2 = .ok (.invokevirtual 28, 3) := by decide +kernel
theorem dX3_grossTaxByTrying_5 : decode cX3_grossTaxByTrying 5 = .ok (.astore_n 3, 1) := by decide +kernel
theorem dX3_grossTaxByTrying_6 : decode cX3_grossTaxByTrying 6 = .ok (.iload_n 2, 1) := by decide +kernel
theorem dX3_grossTaxByTrying_7 : decode cX3_grossTaxByTrying 7 = .ok (.iconst 0, 1) := by decide +kernel
theorem dX3_grossTaxByTrying_8 : decode cX3_grossTaxByTrying 8 = .ok (.sipush 20000, 3) := by decide +kernel
theorem dX3_grossTaxByTrying_11 : decode cX3_grossTaxByTrying 11 = .ok (.invokestatic 33, 3) := by decide +kernel
theorem dX3_grossTaxByTrying_14 : decode cX3_grossTaxByTrying 14 = .ok (.aload_n 3, 1) := by decide +kernel
theorem dX3_grossTaxByTrying_15 : decode cX3_grossTaxByTrying 15 = .ok (.iload_n 2, 1) := by decide +kernel
theorem dX3_grossTaxByTrying_16 : decode cX3_grossTaxByTrying 16 = .ok (.invokevirtual 52, 3) := by decide +kernel
theorem dX3_grossTaxByTrying_19 : decode cX3_grossTaxByTrying 19 = .ok (.ireturn, 1) := by decide +kernel
set_option maxRecDepth 20000 in
theorem ggX3_add_X3_landAt : GoodIn wsX3_add wsX3_landAt := goodIn_ca (goodIn_r _ [14, 1, 2, 15, 16, 17, 18, 19, 20, 21, 22, 23, 24, 25, 26, 27, 28, 29, 30, 31, 32, 33, 34, 35, 36, 37, 38, 39, 125, 126, 135, 136, 137] (by decide +kernel) (by decide +kernel)) (goodIn_sub (fun _ h => List.mem_cons_of_mem _ (List.mem_append_left _ (List.mem_append_right _ h))) (by decide +kernel))
set_option maxRecDepth 20000 in
theorem gX3_add_X3_landAt : GoodIn wsX3_add (wsV RX3 28 RX3 yX3_landAt wsX3_landAt) := goodIn_app (goodIn_of _ (by decide +kernel)) ggX3_add_X3_landAt
set_option maxRecDepth 20000 in
theorem ggX3_add_X3_requireRange : GoodIn wsX3_add wsX3_requireRange := goodIn_ca (goodIn_r _ [42, 1, 2] (by decide +kernel) (by decide +kernel)) (goodIn_sub (fun _ h => List.mem_cons_of_mem _ (List.mem_append_left _ (List.mem_append_right _ h))) (by decide +kernel))
set_option maxRecDepth 20000 in
theorem gX3_add_X3_requireRange : GoodIn wsX3_add (va_wsS RX3 33 yX3_requireRange wsX3_requireRange) := goodIn_app (goodIn_of _ (by decide +kernel)) ggX3_add_X3_requireRange
set_option maxRecDepth 20000 in
theorem ggX3_add_Jx4a65c_size_8abf5 : GoodIn wsX3_add wsJx4a65c_size_8abf5 := goodIn_r _ [21, 22, 135, 136, 137] (by decide +kernel) (by decide +kernel)
set_option maxRecDepth 20000 in
theorem gX3_add_Jx4a65c_size_8abf5_f63Jx4a65c : GoodIn wsX3_add (va_wsF RX3 63 RJx4a65c ⟨"java/util/List", "size", "()I"⟩ yJx4a65c_size_8abf5 wsJx4a65c_size_8abf5) := goodIn_app (goodIn_of _ (by decide +kernel)) ggX3_add_Jx4a65c_size_8abf5
set_option maxRecDepth 20000 in
theorem ggX3_add_X2_init : GoodIn wsX3_add wsX2_init := goodIn_r _ [45, 46, 47, 48, 49, 50, 20, 51, 52, 53, 54, 55, 56, 57, 58, 59, 60, 61, 62, 39, 63, 64, 65, 66, 67, 68, 69, 70, 71, 72, 135, 136, 137, 127, 128, 129, 130, 131, 132, 133, 134] (by decide +kernel) (by decide +kernel)
set_option maxRecDepth 20000 in
theorem gX3_add_X2_init : GoodIn wsX3_add (wsX2_init) := ggX3_add_X2_init
set_option maxRecDepth 20000 in
theorem ggX3_add_Jx4a65c_add_9ea2d : GoodIn wsX3_add wsJx4a65c_add_9ea2d := goodIn_r _ [76, 77, 78, 39, 22, 79, 80, 81, 20, 82, 83, 84, 85, 86, 87, 88, 89, 90, 62, 91, 92, 93, 94, 95, 96, 97, 98, 99, 100, 101, 102, 103, 104, 105, 106, 107, 108, 109, 110, 111, 112, 113, 114, 115, 116, 117, 118, 119, 120, 121, 122, 123, 124, 135, 136, 137] (by decide +kernel) (by decide +kernel)
set_option maxRecDepth 20000 in
theorem gX3_add_Jx4a65c_add_9ea2d_f22Jx4a65c : GoodIn wsX3_add (va_wsF RX3 22 RJx4a65c ⟨"java/util/List", "add", "(Ljava/lang/Object;)Z"⟩ yJx4a65c_add_9ea2d wsJx4a65c_add_9ea2d) := goodIn_app (goodIn_of _ (by decide +kernel)) ggX3_add_Jx4a65c_add_9ea2d
theorem dX3_add_0 : decode cX3_add 0 = .ok (.aload_n 0, 1) := by decide +kernel
theorem dX3_add_1 : decode cX3_add 1 = .ok (.iload_n 1, 1) := by decide +kernel
theorem dX3_add_2 : decode cX3_add 2 = .ok (.invokevirtual 28, 3) := by decide +kernel
theorem dX3_add_5 : decode cX3_add 5 = .ok (.astore 4, 2) := by decide +kernel
theorem dX3_add_7 : decode cX3_add 7 = .ok (.aload_n 0, 1) := by decide +kernel
theorem dX3_add_8 : decode cX3_add 8 = .ok (.iload_n 2, 1) := by decide +kernel
theorem dX3_add_9 : decode cX3_add 9 = .ok (.invokevirtual 28, 3) := by decide +kernel
theorem dX3_add_12 : decode cX3_add 12 = .ok (.astore 5, 2) := by decide +kernel
theorem dX3_add_14 : decode cX3_add 14 = .ok (.iload_n 1, 1) := by decide +kernel
theorem dX3_add_15 : decode cX3_add 15 = .ok (.iload_n 2, 1) := by decide +kernel
theorem dX3_add_16 : decode cX3_add 16 = .ok (.if_icmp .ne 13, 3) := by decide +kernel
theorem dX3_add_19 : decode cX3_add 19 = .ok (.new 55, 3) := by decide +kernel
theorem dX3_add_22 : decode cX3_add 22 = .ok (.dup, 1) := by decide +kernel
theorem dX3_add_23 : decode cX3_add 23 = .ok (.ldc 57, 2) := by decide +kernel
theorem dX3_add_25 : decode cX3_add 25 = .ok (.invokespecial 59, 3) := by decide +kernel
theorem dX3_add_28 : decode cX3_add 28 = .ok (.athrow, 1) := by decide +kernel
theorem dX3_add_29 : decode cX3_add 29 = .ok (.iload_n 3, 1) := by decide +kernel
theorem dX3_add_30 : decode cX3_add 30 = .ok (.iconst 0, 1) := by decide +kernel
theorem dX3_add_31 : decode cX3_add 31 = .ok (.ldc 62, 2) := by decide +kernel
theorem dX3_add_33 : decode cX3_add 33 = .ok (.invokestatic 33, 3) := by decide +kernel
theorem dX3_add_36 : decode cX3_add 36 = .ok (.aload_n 0, 1) := by decide +kernel
theorem dX3_add_37 : decode cX3_add 37 = .ok (.getfield 16, 3) := by decide +kernel
theorem dX3_add_40 : decode cX3_add 40 = .ok (.invokeinterface 63 1, 5) := by decide +kernel
theorem dX3_add_45 : decode cX3_add 45 = .ok (.bipush 10, 2) := by decide +kernel
theorem dX3_add_47 : decode cX3_add 47 = .ok (.if_icmp .lt 13, 3) := by decide +kernel
theorem dX3_add_50 : decode cX3_add 50 = .ok (.new 67, 3) := by decide +kernel
theorem dX3_add_53 : decode cX3_add 53 = .ok (.dup, 1) := by decide +kernel
theorem dX3_add_54 : decode cX3_add 54 = .ok (.ldc 69, 2) := by decide +kernel
theorem dX3_add_56 : decode cX3_add 56 = .ok (.invokespecial 71, 3) := by decide +kernel
theorem dX3_add_59 : decode cX3_add 59 = .ok (.athrow, 1) := by decide +kernel
theorem dX3_add_60 : decode cX3_add 60 = .ok (.aload_n 0, 1) := by decide +kernel
theorem dX3_add_61 : decode cX3_add 61 = .ok (.getfield 16, 3) := by decide +kernel
theorem dX3_add_64 : decode cX3_add 64 = .ok (.new 72, 3) := by decide +kernel
theorem dX3_add_67 : decode cX3_add 67 = .ok (.dup, 1) := by decide +kernel
theorem dX3_add_68 : decode cX3_add 68 = .ok (.aload 4, 2) := by decide +kernel
theorem dX3_add_70 : decode cX3_add 70 = .ok (.aload 5, 2) := by decide +kernel
theorem dX3_add_72 : decode cX3_add 72 = .ok (.iload_n 3, 1) := by decide +kernel
theorem dX3_add_73 : decode cX3_add 73 = .ok (.invokespecial 74, 3) := by decide +kernel
theorem dX3_add_76 : decode cX3_add 76 = .ok (.invokeinterface 22 2, 5) := by decide +kernel
theorem dX3_add_81 : decode cX3_add 81 = .ok (.pop, 1) := by decide +kernel
theorem dX3_add_82 : decode cX3_add 82 = .ok (.aload_n 0, 1) := by decide +kernel
theorem dX3_add_83 : decode cX3_add 83 = .ok (.getfield 16, 3) := by decide +kernel
theorem dX3_add_86 : decode cX3_add 86 = .ok (.invokeinterface 63 1, 5) := by decide +kernel
theorem dX3_add_91 : decode cX3_add 91 = .ok (.iconst 1, 1) := by decide +kernel
theorem dX3_add_92 : decode cX3_add 92 = .ok (.isub, 1) := by decide +kernel
theorem dX3_add_93 : decode cX3_add 93 = .ok (.ireturn, 1) := by decide +kernel
set_option maxRecDepth 20000 in
theorem ggX3_setAbroad_X3_personAt : GoodIn wsX3_setAbroad wsX3_personAt := goodIn_ca (goodIn_r _ [5, 6, 7, 8, 9, 10, 11, 12, 13, 14, 15, 16, 17, 18, 19, 20, 21, 22, 23, 24, 25, 26, 27, 28, 29, 30, 31, 32, 53, 54, 55, 56, 57] (by decide +kernel) (by decide +kernel)) (goodIn_sub (fun _ h => List.mem_cons_of_mem _ (List.mem_append_left _ (List.mem_append_right _ h))) (by decide +kernel))
set_option maxRecDepth 20000 in
theorem gX3_setAbroad_X3_personAt : GoodIn wsX3_setAbroad (wsV RX3 77 RX3 yX3_personAt wsX3_personAt) := goodIn_app (goodIn_of _ (by decide +kernel)) ggX3_setAbroad_X3_personAt
set_option maxRecDepth 20000 in
theorem ggX3_setAbroad_X3_requireRange : GoodIn wsX3_setAbroad wsX3_requireRange := goodIn_ca (goodIn_r _ [35, 36, 37] (by decide +kernel) (by decide +kernel)) (goodIn_sub (fun _ h => List.mem_cons_of_mem _ (List.mem_append_right _ h)) (by decide +kernel))
set_option maxRecDepth 20000 in
theorem gX3_setAbroad_X3_requireRange : GoodIn wsX3_setAbroad (va_wsS RX3 33 yX3_requireRange wsX3_requireRange) := goodIn_app (goodIn_of _ (by decide +kernel)) ggX3_setAbroad_X3_requireRange
set_option maxRecDepth 20000 in
theorem ggX3_setAbroad_X2_monthsAbroad : GoodIn wsX3_setAbroad wsX2_monthsAbroad := goodIn_r _ [42, 43, 44, 45, 46, 47, 48, 49, 50, 51, 52] (by decide +kernel) (by decide +kernel)
set_option maxRecDepth 20000 in
theorem gX3_setAbroad_X2_monthsAbroad : GoodIn wsX3_setAbroad (wsV RX3 81 RX2 yX2_monthsAbroad wsX2_monthsAbroad) := goodIn_app (goodIn_of _ (by decide +kernel)) ggX3_setAbroad_X2_monthsAbroad
theorem dX3_setAbroad_0 : decode cX3_setAbroad 0 = .ok (.aload_n 0, 1) := by decide +kernel
theorem dX3_setAbroad_1 : decode cX3_setAbroad 1 = .ok (.iload_n 1, 1) := by decide +kernel
theorem dX3_setAbroad_2 : decode cX3_setAbroad 2 = .ok (.invokevirtual 77, 3) := by decide +kernel
theorem dX3_setAbroad_5 : decode cX3_setAbroad 5 = .ok (.astore 4, 2) := by decide +kernel
theorem dX3_setAbroad_7 : decode cX3_setAbroad 7 = .ok (.iload_n 2, 1) := by decide +kernel
theorem dX3_setAbroad_8 : decode cX3_setAbroad 8 = .ok (.iconst 0, 1) := by decide +kernel
theorem dX3_setAbroad_9 : decode cX3_setAbroad 9 = .ok (.bipush 12, 2) := by decide +kernel
theorem dX3_setAbroad_11 : decode cX3_setAbroad 11 = .ok (.invokestatic 33, 3) := by decide +kernel
theorem dX3_setAbroad_14 : decode cX3_setAbroad 14 = .ok (.iload_n 3, 1) := by decide +kernel
theorem dX3_setAbroad_15 : decode cX3_setAbroad 15 = .ok (.iload_n 2, 1) := by decide +kernel
theorem dX3_setAbroad_16 : decode cX3_setAbroad 16 = .ok (.bipush 12, 2) := by decide +kernel
theorem dX3_setAbroad_18 : decode cX3_setAbroad 18 = .ok (.invokestatic 33, 3) := by decide +kernel
theorem dX3_setAbroad_21 : decode cX3_setAbroad 21 = .ok (.aload 4, 2) := by decide +kernel
theorem dX3_setAbroad_23 : decode cX3_setAbroad 23 = .ok (.invokevirtual 81, 3) := by decide +kernel
theorem dX3_setAbroad_26 : decode cX3_setAbroad 26 = .ok (.istore 5, 2) := by decide +kernel
theorem dX3_setAbroad_28 : decode cX3_setAbroad 28 = .ok (.aload 4, 2) := by decide +kernel
theorem dX3_setAbroad_30 : decode cX3_setAbroad 30 = .ok (.iload_n 2, 1) := by decide +kernel
theorem dX3_setAbroad_31 : decode cX3_setAbroad 31 = .ok (.putfield 84, 3) := by decide +kernel
theorem dX3_setAbroad_34 : decode cX3_setAbroad 34 = .ok (.aload 4, 2) := by decide +kernel
theorem dX3_setAbroad_36 : decode cX3_setAbroad 36 = .ok (.iload_n 3, 1) := by decide +kernel
theorem dX3_setAbroad_37 : decode cX3_setAbroad 37 = .ok (.putfield 88, 3) := by decide +kernel
theorem dX3_setAbroad_40 : decode cX3_setAbroad 40 = .ok (.iload 5, 2) := by decide +kernel
theorem dX3_setAbroad_42 : decode cX3_setAbroad 42 = .ok (.ireturn, 1) := by decide +kernel
set_option maxRecDepth 20000 in
theorem ggX3_setPay_X3_personAt : GoodIn wsX3_setPay wsX3_personAt := goodIn_ca (goodIn_r _ [6, 7, 8, 9, 10, 11, 12, 13, 14, 15, 16, 17, 18, 19, 20, 21, 22, 23, 24, 25, 26, 27, 28, 29, 30, 31, 32, 33, 47, 48, 49, 50, 51] (by decide +kernel) (by decide +kernel)) (goodIn_sub (fun _ h => List.mem_cons_of_mem _ (List.mem_append_left _ (List.mem_append_right _ h))) (by decide +kernel))
set_option maxRecDepth 20000 in
theorem gX3_setPay_X3_personAt : GoodIn wsX3_setPay (wsV RX3 77 RX3 yX3_personAt wsX3_personAt) := goodIn_app (goodIn_of _ (by decide +kernel)) ggX3_setPay_X3_personAt
set_option maxRecDepth 20000 in
theorem ggX3_setPay_X3_requireRange : GoodIn wsX3_setPay wsX3_requireRange := goodIn_ca (goodIn_r _ [36, 37, 38] (by decide +kernel) (by decide +kernel)) (goodIn_sub (fun _ h => List.mem_cons_of_mem _ (List.mem_append_right _ h)) (by decide +kernel))
set_option maxRecDepth 20000 in
theorem gX3_setPay_X3_requireRange : GoodIn wsX3_setPay (va_wsS RX3 33 yX3_requireRange wsX3_requireRange) := goodIn_app (goodIn_of _ (by decide +kernel)) ggX3_setPay_X3_requireRange
theorem dX3_setPay_0 : decode cX3_setPay 0 = .ok (.aload_n 0, 1) := by decide +kernel
theorem dX3_setPay_1 : decode cX3_setPay 1 = .ok (.iload_n 1, 1) := by decide +kernel
theorem dX3_setPay_2 : decode cX3_setPay 2 = .ok (.invokevirtual 77, 3) := by decide +kernel
theorem dX3_setPay_5 : decode cX3_setPay 5 = .ok (.astore_n 3, 1) := by decide +kernel
theorem dX3_setPay_6 : decode cX3_setPay 6 = .ok (.iload_n 2, 1) := by decide +kernel
theorem dX3_setPay_7 : decode cX3_setPay 7 = .ok (.iconst 0, 1) := by decide +kernel
theorem dX3_setPay_8 : decode cX3_setPay 8 = .ok (.ldc 62, 2) := by decide +kernel
theorem dX3_setPay_10 : decode cX3_setPay 10 = .ok (.invokestatic 33, 3) := by decide +kernel
theorem dX3_setPay_13 : decode cX3_setPay 13 = .ok (.aload_n 3, 1) := by decide +kernel
theorem dX3_setPay_14 : decode cX3_setPay 14 = .ok (.getfield 91, 3) := by decide +kernel
theorem dX3_setPay_17 : decode cX3_setPay 17 = .ok (.istore 4, 2) := by decide +kernel
theorem dX3_setPay_19 : decode cX3_setPay 19 = .ok (.aload_n 3, 1) := by decide +kernel
theorem dX3_setPay_20 : decode cX3_setPay 20 = .ok (.iload_n 2, 1) := by decide +kernel
theorem dX3_setPay_21 : decode cX3_setPay 21 = .ok (.putfield 91, 3) := by decide +kernel
theorem dX3_setPay_24 : decode cX3_setPay 24 = .ok (.iload 4, 2) := by decide +kernel
theorem dX3_setPay_26 : decode cX3_setPay 26 = .ok (.ireturn, 1) := by decide +kernel
set_option maxRecDepth 20000 in
theorem ggX3_setHousing_X3_personAt : GoodIn wsX3_setHousing wsX3_personAt := goodIn_ca (goodIn_r _ [6, 7, 8, 9, 10, 11, 12, 13, 14, 15, 16, 17, 18, 19, 20, 21, 22, 23, 24, 25, 26, 27, 28, 29, 30, 31, 32, 33, 59, 60, 61, 62, 63] (by decide +kernel) (by decide +kernel)) (goodIn_sub (fun _ h => List.mem_cons_of_mem _ (List.mem_append_left _ (List.mem_append_right _ h))) (by decide +kernel))
set_option maxRecDepth 20000 in
theorem gX3_setHousing_X3_personAt : GoodIn wsX3_setHousing (wsV RX3 77 RX3 yX3_personAt wsX3_personAt) := goodIn_app (goodIn_of _ (by decide +kernel)) ggX3_setHousing_X3_personAt
set_option maxRecDepth 20000 in
theorem ggX3_setHousing_X3_requireRange : GoodIn wsX3_setHousing wsX3_requireRange := goodIn_ca (goodIn_r _ [36, 37, 38] (by decide +kernel) (by decide +kernel)) (goodIn_sub (fun _ h => List.mem_cons_of_mem _ (List.mem_append_right _ h)) (by decide +kernel))
set_option maxRecDepth 20000 in
theorem gX3_setHousing_X3_requireRange : GoodIn wsX3_setHousing (va_wsS RX3 33 yX3_requireRange wsX3_requireRange) := goodIn_app (goodIn_of _ (by decide +kernel)) ggX3_setHousing_X3_requireRange
set_option maxRecDepth 20000 in
theorem ggX3_setHousing_X2_ownShare : GoodIn wsX3_setHousing wsX2_ownShare := goodIn_r _ [43, 44, 45, 46, 47, 48, 49, 50, 51, 52, 53, 54, 55, 56, 57, 58] (by decide +kernel) (by decide +kernel)
set_option maxRecDepth 20000 in
theorem gX3_setHousing_X2_ownShare : GoodIn wsX3_setHousing (wsV RX3 101 RX2 yX2_ownShare wsX2_ownShare) := goodIn_app (goodIn_of _ (by decide +kernel)) ggX3_setHousing_X2_ownShare
theorem dX3_setHousing_0 : decode cX3_setHousing 0 = .ok (.aload_n 0, 1) := by decide +kernel
theorem dX3_setHousing_1 : decode cX3_setHousing 1 = .ok (.iload_n 1, 1) := by decide +kernel
theorem dX3_setHousing_2 : decode cX3_setHousing 2 = .ok (.invokevirtual 77, 3) := by decide +kernel
theorem dX3_setHousing_5 : decode cX3_setHousing 5 = .ok (.astore 4, 2) := by decide +kernel
theorem dX3_setHousing_7 : decode cX3_setHousing 7 = .ok (.iload_n 2, 1) := by decide +kernel
theorem dX3_setHousing_8 : decode cX3_setHousing 8 = .ok (.iconst 0, 1) := by decide +kernel
theorem dX3_setHousing_9 : decode cX3_setHousing 9 = .ok (.ldc 94, 2) := by decide +kernel
theorem dX3_setHousing_11 : decode cX3_setHousing 11 = .ok (.invokestatic 33, 3) := by decide +kernel
theorem dX3_setHousing_14 : decode cX3_setHousing 14 = .ok (.iload_n 3, 1) := by decide +kernel
theorem dX3_setHousing_15 : decode cX3_setHousing 15 = .ok (.iconst 0, 1) := by decide +kernel
theorem dX3_setHousing_16 : decode cX3_setHousing 16 = .ok (.bipush 40, 2) := by decide +kernel
theorem dX3_setHousing_18 : decode cX3_setHousing 18 = .ok (.invokestatic 33, 3) := by decide +kernel
theorem dX3_setHousing_21 : decode cX3_setHousing 21 = .ok (.aload 4, 2) := by decide +kernel
theorem dX3_setHousing_23 : decode cX3_setHousing 23 = .ok (.iload_n 2, 1) := by decide +kernel
theorem dX3_setHousing_24 : decode cX3_setHousing 24 = .ok (.putfield 95, 3) := by decide +kernel
theorem dX3_setHousing_27 : decode cX3_setHousing 27 = .ok (.aload 4, 2) := by decide +kernel
theorem dX3_setHousing_29 : decode cX3_setHousing 29 = .ok (.iload_n 3, 1) := by decide +kernel
theorem dX3_setHousing_30 : decode cX3_setHousing 30 = .ok (.putfield 98, 3) := by decide +kernel
theorem dX3_setHousing_33 : decode cX3_setHousing 33 = .ok (.aload 4, 2) := by decide +kernel
end
section
theorem dX3_setHousing_35 : decode cX3_setHousing 35 = .ok (.invokevirtual 101, 3) := by decide +kernel
theorem dX3_setHousing_38 : decode cX3_setHousing 38 = .ok (.ireturn, 1) := by decide +kernel
set_option maxRecDepth 20000 in
theorem ggX3_addBonus_X3_personAt : GoodIn wsX3_addBonus wsX3_personAt := goodIn_ca (goodIn_r _ [11, 12, 13, 14, 15, 16, 17, 18, 19, 20, 21, 22, 23, 24, 25, 26, 27, 28, 29, 30, 31, 32, 33, 34, 35, 36, 37, 38, 117, 118, 119, 120, 121] (by decide +kernel) (by decide +kernel)) (goodIn_sub (fun _ h => List.mem_cons_of_mem _ (List.mem_append_left _ (List.mem_append_right _ h))) (by decide +kernel))
set_option maxRecDepth 20000 in
theorem gX3_addBonus_X3_personAt : GoodIn wsX3_addBonus (wsV RX3 77 RX3 yX3_personAt wsX3_personAt) := goodIn_app (goodIn_of _ (by decide +kernel)) ggX3_addBonus_X3_personAt
set_option maxRecDepth 20000 in
theorem ggX3_addBonus_X3_requireRange : GoodIn wsX3_addBonus wsX3_requireRange := goodIn_ca (goodIn_r _ [41, 42, 43] (by decide +kernel) (by decide +kernel)) (goodIn_sub (fun _ h => List.mem_cons_of_mem _ (List.mem_append_right _ h)) (by decide +kernel))
set_option maxRecDepth 20000 in
theorem gX3_addBonus_X3_requireRange : GoodIn wsX3_addBonus (va_wsS RX3 33 yX3_requireRange wsX3_requireRange) := goodIn_app (goodIn_of _ (by decide +kernel)) ggX3_addBonus_X3_requireRange
set_option maxRecDepth 20000 in
theorem ggX3_addBonus_Jx4a65c_size_8abf5 : GoodIn wsX3_addBonus wsJx4a65c_size_8abf5 := goodIn_r _ [20, 21, 119, 120, 121] (by decide +kernel) (by decide +kernel)
set_option maxRecDepth 20000 in
theorem gX3_addBonus_Jx4a65c_size_8abf5_f63Jx4a65c : GoodIn wsX3_addBonus (va_wsF RX3 63 RJx4a65c ⟨"java/util/List", "size", "()I"⟩ yJx4a65c_size_8abf5 wsJx4a65c_size_8abf5) := goodIn_app (goodIn_of _ (by decide +kernel)) ggX3_addBonus_Jx4a65c_size_8abf5
set_option maxRecDepth 20000 in
theorem ggX3_addBonus_X0_init : GoodIn wsX3_addBonus wsX0_init := goodIn_r _ [46, 47, 48, 49, 50, 51, 52, 114, 115, 116] (by decide +kernel) (by decide +kernel)
set_option maxRecDepth 20000 in
theorem gX3_addBonus_X0_init : GoodIn wsX3_addBonus (wsX0_init) := ggX3_addBonus_X0_init
set_option maxRecDepth 20000 in
theorem ggX3_addBonus_Jx4a65c_add_9ea2d : GoodIn wsX3_addBonus wsJx4a65c_add_9ea2d := goodIn_r _ [56, 57, 58, 38, 21, 59, 60, 61, 19, 62, 63, 64, 65, 66, 67, 68, 69, 70, 71, 72, 73, 74, 75, 76, 77, 78, 79, 80, 81, 82, 83, 84, 85, 86, 87, 88, 89, 90, 91, 92, 93, 94, 95, 96, 97, 98, 99, 100, 101, 102, 103, 104, 105, 119, 120, 121] (by decide +kernel) (by decide +kernel)
set_option maxRecDepth 20000 in
theorem gX3_addBonus_Jx4a65c_add_9ea2d_f22Jx4a65c : GoodIn wsX3_addBonus (va_wsF RX3 22 RJx4a65c ⟨"java/util/List", "add", "(Ljava/lang/Object;)Z"⟩ yJx4a65c_add_9ea2d wsJx4a65c_add_9ea2d) := goodIn_app (goodIn_of _ (by decide +kernel)) ggX3_addBonus_Jx4a65c_add_9ea2d
theorem dX3_addBonus_0 : decode cX3_addBonus 0 = .ok (.aload_n 0, 1) := by decide +kernel
theorem dX3_addBonus_1 : decode cX3_addBonus 1 = .ok (.iload_n 1, 1) := by decide +kernel
theorem dX3_addBonus_2 : decode cX3_addBonus 2 = .ok (.invokevirtual 77, 3) := by decide +kernel
theorem dX3_addBonus_5 : decode cX3_addBonus 5 = .ok (.astore 5, 2) := by decide +kernel
theorem dX3_addBonus_7 : decode cX3_addBonus 7 = .ok (.iload_n 2, 1) := by decide +kernel
theorem dX3_addBonus_8 : decode cX3_addBonus 8 = .ok (.iconst 1, 1) := by decide +kernel
theorem dX3_addBonus_9 : decode cX3_addBonus 9 = .ok (.ldc 104, 2) := by decide +kernel
theorem dX3_addBonus_11 : decode cX3_addBonus 11 = .ok (.invokestatic 33, 3) := by decide +kernel
theorem dX3_addBonus_14 : decode cX3_addBonus 14 = .ok (.iload_n 3, 1) := by decide +kernel
theorem dX3_addBonus_15 : decode cX3_addBonus 15 = .ok (.iconst 0, 1) := by decide +kernel
theorem dX3_addBonus_16 : decode cX3_addBonus 16 = .ok (.bipush 11, 2) := by decide +kernel
theorem dX3_addBonus_18 : decode cX3_addBonus 18 = .ok (.invokestatic 33, 3) := by decide +kernel
theorem dX3_addBonus_21 : decode cX3_addBonus 21 = .ok (.iload 4, 2) := by decide +kernel
theorem dX3_addBonus_23 : decode cX3_addBonus 23 = .ok (.iload_n 3, 1) := by decide +kernel
theorem dX3_addBonus_24 : decode cX3_addBonus 24 = .ok (.iconst 1, 1) := by decide +kernel
theorem dX3_addBonus_25 : decode cX3_addBonus 25 = .ok (.iadd, 1) := by decide +kernel
theorem dX3_addBonus_26 : decode cX3_addBonus 26 = .ok (.bipush 12, 2) := by decide +kernel
theorem dX3_addBonus_28 : decode cX3_addBonus 28 = .ok (.invokestatic 33, 3) := by decide +kernel
theorem dX3_addBonus_31 : decode cX3_addBonus 31 = .ok (.aload 5, 2) := by decide +kernel
theorem dX3_addBonus_33 : decode cX3_addBonus 33 = .ok (.getfield 105, 3) := by decide +kernel
theorem dX3_addBonus_36 : decode cX3_addBonus 36 = .ok (.invokeinterface 63 1, 5) := by decide +kernel
theorem dX3_addBonus_41 : decode cX3_addBonus 41 = .ok (.bipush 6, 2) := by decide +kernel
theorem dX3_addBonus_43 : decode cX3_addBonus 43 = .ok (.if_icmp .lt 13, 3) := by decide +kernel
theorem dX3_addBonus_46 : decode cX3_addBonus 46 = .ok (.new 67, 3) := by decide +kernel
theorem dX3_addBonus_49 : decode cX3_addBonus 49 = .ok (.dup, 1) := by decide +kernel
theorem dX3_addBonus_50 : decode cX3_addBonus 50 = .ok (.ldc 108, 2) := by decide +kernel
theorem dX3_addBonus_52 : decode cX3_addBonus 52 = .ok (.invokespecial 71, 3) := by decide +kernel
theorem dX3_addBonus_55 : decode cX3_addBonus 55 = .ok (.athrow, 1) := by decide +kernel
theorem dX3_addBonus_56 : decode cX3_addBonus 56 = .ok (.aload 5, 2) := by decide +kernel
theorem dX3_addBonus_58 : decode cX3_addBonus 58 = .ok (.getfield 105, 3) := by decide +kernel
theorem dX3_addBonus_61 : decode cX3_addBonus 61 = .ok (.new 110, 3) := by decide +kernel
theorem dX3_addBonus_64 : decode cX3_addBonus 64 = .ok (.dup, 1) := by decide +kernel
theorem dX3_addBonus_65 : decode cX3_addBonus 65 = .ok (.iload_n 2, 1) := by decide +kernel
theorem dX3_addBonus_66 : decode cX3_addBonus 66 = .ok (.iload_n 3, 1) := by decide +kernel
theorem dX3_addBonus_67 : decode cX3_addBonus 67 = .ok (.iload 4, 2) := by decide +kernel
theorem dX3_addBonus_69 : decode cX3_addBonus 69 = .ok (.invokespecial 112, 3) := by decide +kernel
theorem dX3_addBonus_72 : decode cX3_addBonus 72 = .ok (.invokeinterface 22 2, 5) := by decide +kernel
theorem dX3_addBonus_77 : decode cX3_addBonus 77 = .ok (.pop, 1) := by decide +kernel
theorem dX3_addBonus_78 : decode cX3_addBonus 78 = .ok (.aload 5, 2) := by decide +kernel
theorem dX3_addBonus_80 : decode cX3_addBonus 80 = .ok (.getfield 105, 3) := by decide +kernel
theorem dX3_addBonus_83 : decode cX3_addBonus 83 = .ok (.invokeinterface 63 1, 5) := by decide +kernel
theorem dX3_addBonus_88 : decode cX3_addBonus 88 = .ok (.iconst 1, 1) := by decide +kernel
theorem dX3_addBonus_89 : decode cX3_addBonus 89 = .ok (.isub, 1) := by decide +kernel
theorem dX3_addBonus_90 : decode cX3_addBonus 90 = .ok (.ireturn, 1) := by decide +kernel
set_option maxRecDepth 20000 in
theorem ggX3_people_Jx4a65c_size_8abf5 : GoodIn wsX3_people wsJx4a65c_size_8abf5 := goodIn_r _ [6, 7, 10, 11, 12] (by decide +kernel) (by decide +kernel)
set_option maxRecDepth 20000 in
theorem gX3_people_Jx4a65c_size_8abf5_f63Jx4a65c : GoodIn wsX3_people (va_wsF RX3 63 RJx4a65c ⟨"java/util/List", "size", "()I"⟩ yJx4a65c_size_8abf5 wsJx4a65c_size_8abf5) := goodIn_app (goodIn_of _ (by decide +kernel)) ggX3_people_Jx4a65c_size_8abf5
theorem dX3_people_0 : decode cX3_people 0 = .ok (.aload_n 0, 1) := by decide +kernel
theorem dX3_people_1 : decode cX3_people 1 = .ok (.getfield 16, 3) := by decide +kernel
theorem dX3_people_4 : decode cX3_people 4 = .ok (.invokeinterface 63 1, 5) := by decide +kernel
theorem dX3_people_9 : decode cX3_people 9 = .ok (.ireturn, 1) := by decide +kernel
set_option maxRecDepth 20000 in
theorem ggX3_abroadPart_X3_personAt : GoodIn wsX3_abroadPart wsX3_personAt := goodIn_ca (goodIn_r _ [8, 1, 2, 9, 10, 11, 12, 13, 14, 15, 16, 17, 18, 19, 20, 21, 22, 23, 24, 25, 26, 27, 28, 29, 30, 31, 32, 33, 56, 57, 58, 59, 60] (by decide +kernel) (by decide +kernel)) (goodIn_sub (fun _ h => List.mem_cons_of_mem _ (List.mem_append_right _ h)) (by decide +kernel))
set_option maxRecDepth 20000 in
theorem gX3_abroadPart_X3_personAt : GoodIn wsX3_abroadPart (wsV RX3 77 RX3 yX3_personAt wsX3_personAt) := goodIn_app (goodIn_of _ (by decide +kernel)) ggX3_abroadPart_X3_personAt
set_option maxRecDepth 20000 in
theorem ggX3_abroadPart_Jx4a65c_size_8abf5 : GoodIn wsX3_abroadPart wsJx4a65c_size_8abf5 := goodIn_r _ [15, 16, 58, 59, 60] (by decide +kernel) (by decide +kernel)
set_option maxRecDepth 20000 in
theorem gX3_abroadPart_Jx4a65c_size_8abf5_f63Jx4a65c : GoodIn wsX3_abroadPart (va_wsF RX3 63 RJx4a65c ⟨"java/util/List", "size", "()I"⟩ yJx4a65c_size_8abf5 wsJx4a65c_size_8abf5) := goodIn_app (goodIn_of _ (by decide +kernel)) ggX3_abroadPart_Jx4a65c_size_8abf5
set_option maxRecDepth 20000 in
theorem ggX3_abroadPart_Jx4a65c_get_915e3 : GoodIn wsX3_abroadPart wsJx4a65c_get_915e3 := goodIn_r _ [20, 16, 21, 22, 23, 24, 25, 26, 27, 28, 29, 30, 31, 14, 32, 33, 58, 59, 60] (by decide +kernel) (by decide +kernel)
set_option maxRecDepth 20000 in
theorem gX3_abroadPart_Jx4a65c_get_915e3_f119Jx4a65c : GoodIn wsX3_abroadPart (va_wsF RX3 119 RJx4a65c ⟨"java/util/List", "get", "(I)Ljava/lang/Object;"⟩ yJx4a65c_get_915e3 wsJx4a65c_get_915e3) := goodIn_app (goodIn_of _ (by decide +kernel)) ggX3_abroadPart_Jx4a65c_get_915e3
set_option maxRecDepth 20000 in
theorem ggX3_abroadPart_X2_partAbroad : GoodIn wsX3_abroadPart wsX2_partAbroad := goodIn_r _ [38, 39, 40, 41, 42, 43, 44, 45, 46, 47, 61, 62, 63, 48, 49, 50, 51, 52, 53, 54, 55] (by decide +kernel) (by decide +kernel)
set_option maxRecDepth 20000 in
theorem gX3_abroadPart_X2_partAbroad : GoodIn wsX3_abroadPart (wsV RX3 123 RX2 yX2_partAbroad wsX2_partAbroad) := goodIn_app (goodIn_of _ (by decide +kernel)) ggX3_abroadPart_X2_partAbroad
theorem dX3_abroadPart_0 : decode cX3_abroadPart 0 = .ok (.aload_n 0, 1) := by decide +kernel
theorem dX3_abroadPart_1 : decode cX3_abroadPart 1 = .ok (.iload_n 1, 1) := by decide +kernel
theorem dX3_abroadPart_2 : decode cX3_abroadPart 2 = .ok (.invokevirtual 77, 3) := by decide +kernel
theorem dX3_abroadPart_5 : decode cX3_abroadPart 5 = .ok (.astore_n 3, 1) := by decide +kernel
theorem dX3_abroadPart_6 : decode cX3_abroadPart 6 = .ok (.iload_n 2, 1) := by decide +kernel
theorem dX3_abroadPart_7 : decode cX3_abroadPart 7 = .ok (.ifCond .lt 16, 3) := by decide +kernel
theorem dX3_abroadPart_10 : decode cX3_abroadPart 10 = .ok (.iload_n 2, 1) := by decide +kernel
theorem dX3_abroadPart_11 : decode cX3_abroadPart 11 = .ok (.aload_n 3, 1) := by decide +kernel
theorem dX3_abroadPart_12 : decode cX3_abroadPart 12 = .ok (.getfield 105, 3) := by decide +kernel
theorem dX3_abroadPart_15 : decode cX3_abroadPart 15 = .ok (.invokeinterface 63 1, 5) := by decide +kernel
theorem dX3_abroadPart_20 : decode cX3_abroadPart 20 = .ok (.if_icmp .lt 13, 3) := by decide +kernel
theorem dX3_abroadPart_23 : decode cX3_abroadPart 23 = .ok (.new 114, 3) := by decide +kernel
theorem dX3_abroadPart_26 : decode cX3_abroadPart 26 = .ok (.dup, 1) := by decide +kernel
theorem dX3_abroadPart_27 : decode cX3_abroadPart 27 = .ok (.ldc 116, 2) := by decide +kernel
theorem dX3_abroadPart_29 : decode cX3_abroadPart 29 = .ok (.invokespecial 118, 3) := by decide +kernel
theorem dX3_abroadPart_32 : decode cX3_abroadPart 32 = .ok (.athrow, 1) := by decide +kernel
theorem dX3_abroadPart_33 : decode cX3_abroadPart 33 = .ok (.aload_n 3, 1) := by decide +kernel
theorem dX3_abroadPart_34 : decode cX3_abroadPart 34 = .ok (.aload_n 3, 1) := by decide +kernel
theorem dX3_abroadPart_35 : decode cX3_abroadPart 35 = .ok (.getfield 105, 3) := by decide +kernel
theorem dX3_abroadPart_38 : decode cX3_abroadPart 38 = .ok (.iload_n 2, 1) := by decide +kernel
theorem dX3_abroadPart_39 : decode cX3_abroadPart 39 = .ok (.invokeinterface 119 2, 5) := by decide +kernel
theorem dX3_abroadPart_44 : decode cX3_abroadPart 44 = .ok (.checkcast 110, 3) := by decide +kernel
theorem dX3_abroadPart_47 : decode cX3_abroadPart 47 = .ok (.invokevirtual 123, 3) := by decide +kernel
theorem dX3_abroadPart_50 : decode cX3_abroadPart 50 = .ok (.ireturn, 1) := by decide +kernel
set_option maxRecDepth 20000 in
theorem ggX3_held_X3_personAt : GoodIn wsX3_held wsX3_personAt := goodIn_ca (goodIn_r _ [5, 6, 7, 8, 9, 10, 11, 12, 13, 14, 15, 16, 17, 18, 19, 20, 21, 22, 23, 24, 25, 26, 27, 28, 29, 30, 31, 32, 69, 70, 71, 72, 73] (by decide +kernel) (by decide +kernel)) (goodIn_sub (fun _ h => List.mem_cons_of_mem _ (List.mem_append_left _ (List.mem_append_right _ h))) (by decide +kernel))
set_option maxRecDepth 20000 in
theorem gX3_held_X3_personAt : GoodIn wsX3_held (wsV RX3 77 RX3 yX3_personAt wsX3_personAt) := goodIn_app (goodIn_of _ (by decide +kernel)) ggX3_held_X3_personAt
set_option maxRecDepth 20000 in
theorem ggX3_held_X3_requireRange : GoodIn wsX3_held wsX3_requireRange := goodIn_ca (goodIn_r _ [35, 36, 37] (by decide +kernel) (by decide +kernel)) (goodIn_sub (fun _ h => List.mem_cons_of_mem _ (List.mem_append_right _ h)) (by decide +kernel))
set_option maxRecDepth 20000 in
theorem gX3_held_X3_requireRange : GoodIn wsX3_held (va_wsS RX3 33 yX3_requireRange wsX3_requireRange) := goodIn_app (goodIn_of _ (by decide +kernel)) ggX3_held_X3_requireRange
set_option maxRecDepth 20000 in
theorem ggX3_held_X2_isAbroadIn : GoodIn wsX3_held wsX2_isAbroadIn := goodIn_r _ [42, 43, 44, 74, 75, 76, 77, 78, 79, 80, 81] (by decide +kernel) (by decide +kernel)
set_option maxRecDepth 20000 in
theorem gX3_held_X2_isAbroadIn : GoodIn wsX3_held (wsV RX3 127 RX2 yX2_isAbroadIn wsX2_isAbroadIn) := goodIn_app (goodIn_of _ (by decide +kernel)) ggX3_held_X2_isAbroadIn
set_option maxRecDepth 20000 in
theorem ggX3_held_X2_heldEachMonth : GoodIn wsX3_held wsX2_heldEachMonth := goodIn_r _ [48, 49, 50, 51, 52, 53, 54, 55, 56, 57, 58, 59, 60, 61, 62, 63, 64, 65, 66, 67, 68, 74, 75, 76, 77, 78, 79, 80, 81, 82, 83, 84, 85, 86] (by decide +kernel) (by decide +kernel)
set_option maxRecDepth 20000 in
theorem gX3_held_X2_heldEachMonth : GoodIn wsX3_held (wsV RX3 131 RX2 yX2_heldEachMonth wsX2_heldEachMonth) := goodIn_app (goodIn_of _ (by decide +kernel)) ggX3_held_X2_heldEachMonth
theorem dX3_held_0 : decode cX3_held 0 = .ok (.aload_n 0, 1) := by decide +kernel
theorem dX3_held_1 : decode cX3_held 1 = .ok (.iload_n 1, 1) := by decide +kernel
theorem dX3_held_2 : decode cX3_held 2 = .ok (.invokevirtual 77, 3) := by decide +kernel
theorem dX3_held_5 : decode cX3_held 5 = .ok (.astore_n 3, 1) := by decide +kernel
theorem dX3_held_6 : decode cX3_held 6 = .ok (.iload_n 2, 1) := by decide +kernel
theorem dX3_held_7 : decode cX3_held 7 = .ok (.iconst 0, 1) := by decide +kernel
theorem dX3_held_8 : decode cX3_held 8 = .ok (.bipush 11, 2) := by decide +kernel
theorem dX3_held_10 : decode cX3_held 10 = .ok (.invokestatic 33, 3) := by decide +kernel
theorem dX3_held_13 : decode cX3_held 13 = .ok (.aload_n 3, 1) := by decide +kernel
theorem dX3_held_14 : decode cX3_held 14 = .ok (.iload_n 2, 1) := by decide +kernel
theorem dX3_held_15 : decode cX3_held 15 = .ok (.invokevirtual 127, 3) := by decide +kernel
theorem dX3_held_18 : decode cX3_held 18 = .ok (.ifCond .eq 10, 3) := by decide +kernel
theorem dX3_held_21 : decode cX3_held 21 = .ok (.aload_n 3, 1) := by decide +kernel
theorem dX3_held_22 : decode cX3_held 22 = .ok (.invokevirtual 131, 3) := by decide +kernel
theorem dX3_held_25 : decode cX3_held 25 = .ok (.goto 4, 3) := by decide +kernel
theorem dX3_held_28 : decode cX3_held 28 = .ok (.iconst 0, 1) := by decide +kernel
theorem dX3_held_29 : decode cX3_held 29 = .ok (.ireturn, 1) := by decide +kernel
set_option maxRecDepth 20000 in
theorem ggX3_supposedTax_X3_personAt : GoodIn wsX3_supposedTax wsX3_personAt := goodIn_ca (goodIn_r _ [5, 6, 7, 8, 9, 10, 11, 12, 13, 14, 15, 16, 17, 18, 19, 20, 21, 22, 23, 24, 25, 26, 27, 28, 29, 30, 31, 32, 66, 67, 68, 69, 70] (by decide +kernel) (by decide +kernel)) (goodIn_sub (fun _ h => List.mem_cons_of_mem _ (List.mem_append_right _ h)) (by decide +kernel))
set_option maxRecDepth 20000 in
theorem gX3_supposedTax_X3_personAt : GoodIn wsX3_supposedTax (wsV RX3 77 RX3 yX3_personAt wsX3_personAt) := goodIn_app (goodIn_of _ (by decide +kernel)) ggX3_supposedTax_X3_personAt
set_option maxRecDepth 20000 in
theorem ggX3_supposedTax_X2_supposedTaxOfYear : GoodIn wsX3_supposedTax wsX2_supposedTaxOfYear := goodIn_r _ [37, 38, 39, 40, 41, 36, 42, 43, 44, 45, 46, 11, 12, 13, 14, 15, 47, 17, 18, 19, 20, 21, 22, 23, 24, 25, 26, 27, 28, 29, 30, 31, 32, 48, 49, 50, 51, 52, 53, 54, 55, 56, 57, 58, 59, 60, 61, 62, 63, 64, 65, 71, 72, 73, 74, 75, 76, 77, 78, 79, 80, 81, 68, 69, 70, 82, 83, 84, 85, 86] (by decide +kernel) (by decide +kernel)
set_option maxRecDepth 20000 in
theorem gX3_supposedTax_X2_supposedTaxOfYear : GoodIn wsX3_supposedTax (wsV RX3 134 RX2 yX2_supposedTaxOfYear wsX2_supposedTaxOfYear) := goodIn_app (goodIn_of _ (by decide +kernel)) ggX3_supposedTax_X2_supposedTaxOfYear
theorem dX3_supposedTax_0 : decode cX3_supposedTax 0 = .ok (.aload_n 0, 1) := by decide +kernel
theorem dX3_supposedTax_1 : decode cX3_supposedTax 1 = .ok (.iload_n 1, 1) := by decide +kernel
theorem dX3_supposedTax_2 : decode cX3_supposedTax 2 = .ok (.invokevirtual 77, 3) := by decide +kernel
theorem dX3_supposedTax_5 : decode cX3_supposedTax 5 = .ok (.invokevirtual 134, 3) := by decide +kernel
theorem dX3_supposedTax_8 : decode cX3_supposedTax 8 = .ok (.ireturn, 1) := by decide +kernel
set_option maxRecDepth 20000 in
theorem ggX3_homeIncome_X3_personAt : GoodIn wsX3_homeIncome wsX3_personAt := goodIn_ca (goodIn_r _ [5, 6, 7, 8, 9, 10, 11, 12, 13, 14, 15, 16, 17, 18, 19, 20, 21, 22, 23, 24, 25, 26, 27, 28, 29, 30, 31, 32, 60, 61, 62, 63, 64] (by decide +kernel) (by decide +kernel)) (goodIn_sub (fun _ h => List.mem_cons_of_mem _ (List.mem_append_right _ h)) (by decide +kernel))
set_option maxRecDepth 20000 in
theorem gX3_homeIncome_X3_personAt : GoodIn wsX3_homeIncome (wsV RX3 77 RX3 yX3_personAt wsX3_personAt) := goodIn_app (goodIn_of _ (by decide +kernel)) ggX3_homeIncome_X3_personAt
set_option maxRecDepth 20000 in
theorem ggX3_homeIncome_X2_incomeAtHome : GoodIn wsX3_homeIncome wsX2_incomeAtHome := goodIn_r _ [37, 38, 39, 40, 41, 42, 43, 36, 44, 45, 46, 47, 11, 12, 13, 14, 15, 48, 17, 18, 19, 20, 21, 22, 23, 24, 25, 26, 27, 28, 29, 30, 31, 32, 49, 50, 51, 52, 53, 54, 55, 56, 57, 58, 59, 65, 66, 67, 68, 69, 70, 71, 72, 73, 74, 75, 62, 63, 64] (by decide +kernel) (by decide +kernel)
set_option maxRecDepth 20000 in
theorem gX3_homeIncome_X2_incomeAtHome : GoodIn wsX3_homeIncome (wsV RX3 137 RX2 yX2_incomeAtHome wsX2_incomeAtHome) := goodIn_app (goodIn_of _ (by decide +kernel)) ggX3_homeIncome_X2_incomeAtHome
theorem dX3_homeIncome_0 : decode cX3_homeIncome 0 = .ok (.aload_n 0, 1) := by decide +kernel
theorem dX3_homeIncome_1 : decode cX3_homeIncome 1 = .ok (.iload_n 1, 1) := by decide +kernel
theorem dX3_homeIncome_2 : decode cX3_homeIncome 2 = .ok (.invokevirtual 77, 3) := by decide +kernel
theorem dX3_homeIncome_5 : decode cX3_homeIncome 5 = .ok (.invokevirtual 137, 3) := by decide +kernel
theorem dX3_homeIncome_8 : decode cX3_homeIncome 8 = .ok (.ireturn, 1) := by decide +kernel
set_option maxRecDepth 20000 in
theorem ggX3_homeTax_X3_personAt : GoodIn wsX3_homeTax wsX3_personAt := goodIn_ca (goodIn_r _ [5, 6, 7, 8, 9, 10, 11, 12, 13, 14, 15, 16, 17, 18, 19, 20, 21, 22, 23, 24, 25, 26, 27, 28, 29, 30, 31, 32, 82, 83, 84, 85, 86] (by decide +kernel) (by decide +kernel)) (goodIn_sub (fun _ h => List.mem_cons_of_mem _ (List.mem_append_right _ h)) (by decide +kernel))
set_option maxRecDepth 20000 in
theorem gX3_homeTax_X3_personAt : GoodIn wsX3_homeTax (wsV RX3 77 RX3 yX3_personAt wsX3_personAt) := goodIn_app (goodIn_of _ (by decide +kernel)) ggX3_homeTax_X3_personAt
set_option maxRecDepth 20000 in
theorem ggX3_homeTax_X2_taxAtHome : GoodIn wsX3_homeTax wsX2_taxAtHome := goodIn_r _ [37, 38, 39, 40, 41, 36, 42, 43, 44, 45, 46, 11, 12, 13, 14, 15, 47, 17, 18, 19, 20, 21, 22, 23, 24, 25, 26, 27, 28, 29, 30, 31, 32, 48, 49, 50, 51, 52, 53, 54, 55, 56, 57, 58, 59, 60, 61, 62, 63, 64, 65, 66, 67, 68, 69, 70, 71, 72, 73, 74, 75, 76, 77, 78, 79, 80, 81, 87, 88, 89, 90, 91, 92, 93, 94, 95, 96, 97, 84, 85, 86, 98, 99, 100, 101, 102] (by decide +kernel) (by decide +kernel)
set_option maxRecDepth 20000 in
theorem gX3_homeTax_X2_taxAtHome : GoodIn wsX3_homeTax (wsV RX3 140 RX2 yX2_taxAtHome wsX2_taxAtHome) := goodIn_app (goodIn_of _ (by decide +kernel)) ggX3_homeTax_X2_taxAtHome
theorem dX3_homeTax_0 : decode cX3_homeTax 0 = .ok (.aload_n 0, 1) := by decide +kernel
theorem dX3_homeTax_1 : decode cX3_homeTax 1 = .ok (.iload_n 1, 1) := by decide +kernel
theorem dX3_homeTax_2 : decode cX3_homeTax 2 = .ok (.invokevirtual 77, 3) := by decide +kernel
theorem dX3_homeTax_5 : decode cX3_homeTax 5 = .ok (.invokevirtual 140, 3) := by decide +kernel
theorem dX3_homeTax_8 : decode cX3_homeTax 8 = .ok (.ireturn, 1) := by decide +kernel
set_option maxRecDepth 20000 in
theorem ggX3_hostIncome_X3_personAt : GoodIn wsX3_hostIncome wsX3_personAt := goodIn_ca (goodIn_r _ [5, 6, 7, 8, 9, 10, 11, 12, 13, 14, 15, 16, 17, 18, 19, 20, 21, 22, 23, 24, 25, 26, 27, 28, 29, 30, 31, 32, 70, 71, 72, 73, 74] (by decide +kernel) (by decide +kernel)) (goodIn_sub (fun _ h => List.mem_cons_of_mem _ (List.mem_append_right _ h)) (by decide +kernel))
set_option maxRecDepth 20000 in
theorem gX3_hostIncome_X3_personAt : GoodIn wsX3_hostIncome (wsV RX3 77 RX3 yX3_personAt wsX3_personAt) := goodIn_app (goodIn_of _ (by decide +kernel)) ggX3_hostIncome_X3_personAt
set_option maxRecDepth 20000 in
theorem ggX3_hostIncome_X2_incomeAtHost : GoodIn wsX3_hostIncome wsX2_incomeAtHost := goodIn_r _ [37, 38, 39, 40, 41, 42, 43, 36, 44, 45, 46, 47, 48, 49, 50, 51, 52, 53, 54, 55, 56, 57, 58, 59, 60, 61, 11, 12, 13, 14, 15, 62, 17, 18, 19, 20, 21, 22, 23, 24, 25, 26, 27, 28, 29, 30, 31, 32, 63, 64, 65, 66, 67, 68, 69, 75, 76, 77, 78, 79, 80, 81, 82, 72, 73, 74, 83, 84, 85] (by decide +kernel) (by decide +kernel)
set_option maxRecDepth 20000 in
theorem gX3_hostIncome_X2_incomeAtHost : GoodIn wsX3_hostIncome (wsV RX3 143 RX2 yX2_incomeAtHost wsX2_incomeAtHost) := goodIn_app (goodIn_of _ (by decide +kernel)) ggX3_hostIncome_X2_incomeAtHost
theorem dX3_hostIncome_0 : decode cX3_hostIncome 0 = .ok (.aload_n 0, 1) := by decide +kernel
theorem dX3_hostIncome_1 : decode cX3_hostIncome 1 = .ok (.iload_n 1, 1) := by decide +kernel
theorem dX3_hostIncome_2 : decode cX3_hostIncome 2 = .ok (.invokevirtual 77, 3) := by decide +kernel
theorem dX3_hostIncome_5 : decode cX3_hostIncome 5 = .ok (.invokevirtual 143, 3) := by decide +kernel
theorem dX3_hostIncome_8 : decode cX3_hostIncome 8 = .ok (.ireturn, 1) := by decide +kernel
set_option maxRecDepth 20000 in
theorem ggX3_hostTax_X3_personAt : GoodIn wsX3_hostTax wsX3_personAt := goodIn_ca (goodIn_r _ [5, 6, 7, 8, 9, 10, 11, 12, 13, 14, 15, 16, 17, 18, 19, 20, 21, 22, 23, 24, 25, 26, 27, 28, 29, 30, 31, 32, 95, 96, 97, 98, 99] (by decide +kernel) (by decide +kernel)) (goodIn_sub (fun _ h => List.mem_cons_of_mem _ (List.mem_append_right _ h)) (by decide +kernel))
set_option maxRecDepth 20000 in
theorem gX3_hostTax_X3_personAt : GoodIn wsX3_hostTax (wsV RX3 77 RX3 yX3_personAt wsX3_personAt) := goodIn_app (goodIn_of _ (by decide +kernel)) ggX3_hostTax_X3_personAt
set_option maxRecDepth 20000 in
theorem ggX3_hostTax_X2_taxAtHost : GoodIn wsX3_hostTax wsX2_taxAtHost := goodIn_r _ [37, 38, 39, 40, 41, 36, 42, 43, 44, 45, 46, 47, 48, 49, 50, 51, 52, 53, 54, 55, 56, 57, 58, 59, 60, 61, 62, 63, 64, 65, 66, 11, 12, 13, 14, 15, 67, 17, 18, 19, 20, 21, 22, 23, 24, 25, 26, 27, 28, 29, 30, 31, 32, 68, 69, 70, 71, 72, 73, 74, 75, 76, 77, 78, 79, 80, 81, 82, 83, 84, 85, 86, 87, 88, 89, 90, 91, 92, 93, 94, 100, 101, 102, 103, 104, 105, 106, 107, 97, 98, 99, 108, 109, 110, 111, 112, 113, 114, 115] (by decide +kernel) (by decide +kernel)
set_option maxRecDepth 20000 in
theorem gX3_hostTax_X2_taxAtHost : GoodIn wsX3_hostTax (wsV RX3 146 RX2 yX2_taxAtHost wsX2_taxAtHost) := goodIn_app (goodIn_of _ (by decide +kernel)) ggX3_hostTax_X2_taxAtHost
theorem dX3_hostTax_0 : decode cX3_hostTax 0 = .ok (.aload_n 0, 1) := by decide +kernel
theorem dX3_hostTax_1 : decode cX3_hostTax 1 = .ok (.iload_n 1, 1) := by decide +kernel
theorem dX3_hostTax_2 : decode cX3_hostTax 2 = .ok (.invokevirtual 77, 3) := by decide +kernel
theorem dX3_hostTax_5 : decode cX3_hostTax 5 = .ok (.invokevirtual 146, 3) := by decide +kernel
theorem dX3_hostTax_8 : decode cX3_hostTax 8 = .ok (.ireturn, 1) := by decide +kernel
set_option maxRecDepth 20000 in
theorem ggX3_borne_X3_personAt : GoodIn wsX3_borne wsX3_personAt := goodIn_ca (goodIn_r _ [5, 6, 7, 8, 9, 10, 11, 12, 13, 14, 15, 16, 17, 18, 19, 20, 21, 22, 23, 24, 25, 26, 27, 28, 29, 30, 31, 32, 94, 95, 96, 97, 98] (by decide +kernel) (by decide +kernel)) (goodIn_sub (fun _ h => List.mem_cons_of_mem _ (List.mem_append_right _ h)) (by decide +kernel))
set_option maxRecDepth 20000 in
theorem gX3_borne_X3_personAt : GoodIn wsX3_borne (wsV RX3 77 RX3 yX3_personAt wsX3_personAt) := goodIn_app (goodIn_of _ (by decide +kernel)) ggX3_borne_X3_personAt
set_option maxRecDepth 20000 in
theorem ggX3_borne_X2_borneInYear : GoodIn wsX3_borne wsX2_borneInYear := goodIn_r _ [37, 38, 39, 40, 36, 41, 42, 43, 44, 45, 46, 47, 48, 49, 50, 51, 52, 53, 54, 55, 56, 57, 58, 59, 60, 61, 62, 63, 64, 65, 66, 67, 68, 69, 70, 71, 72, 73, 74, 75, 76, 77, 78, 79, 80, 81, 82, 11, 12, 13, 14, 15, 83, 17, 18, 19, 20, 21, 22, 23, 24, 25, 26, 27, 28, 29, 30, 31, 32, 84, 85, 86, 87, 88, 89, 90, 91, 92, 93, 99, 100, 101, 102, 103, 104, 105, 106, 107, 108, 109, 110, 111, 112, 113, 114, 96, 97, 98] (by decide +kernel) (by decide +kernel)
set_option maxRecDepth 20000 in
theorem gX3_borne_X2_borneInYear : GoodIn wsX3_borne (wsV RX3 149 RX2 yX2_borneInYear wsX2_borneInYear) := goodIn_app (goodIn_of _ (by decide +kernel)) ggX3_borne_X2_borneInYear
theorem dX3_borne_0 : decode cX3_borne 0 = .ok (.aload_n 0, 1) := by decide +kernel
theorem dX3_borne_1 : decode cX3_borne 1 = .ok (.iload_n 1, 1) := by decide +kernel
theorem dX3_borne_2 : decode cX3_borne 2 = .ok (.invokevirtual 77, 3) := by decide +kernel
theorem dX3_borne_5 : decode cX3_borne 5 = .ok (.invokevirtual 149, 3) := by decide +kernel
theorem dX3_borne_8 : decode cX3_borne 8 = .ok (.ireturn, 1) := by decide +kernel
set_option maxRecDepth 20000 in
theorem ggX3_settlement_X3_personAt : GoodIn wsX3_settlement wsX3_personAt := goodIn_ca (goodIn_r _ [5, 6, 7, 8, 9, 10, 11, 12, 13, 14, 15, 16, 17, 18, 19, 20, 21, 22, 23, 24, 25, 26, 27, 28, 29, 30, 31, 32, 102, 103, 104, 105, 106] (by decide +kernel) (by decide +kernel)) (goodIn_sub (fun _ h => List.mem_cons_of_mem _ (List.mem_append_right _ h)) (by decide +kernel))
set_option maxRecDepth 20000 in
theorem gX3_settlement_X3_personAt : GoodIn wsX3_settlement (wsV RX3 77 RX3 yX3_personAt wsX3_personAt) := goodIn_app (goodIn_of _ (by decide +kernel)) ggX3_settlement_X3_personAt
set_option maxRecDepth 20000 in
theorem ggX3_settlement_X2_settlementOfYear : GoodIn wsX3_settlement wsX2_settlementOfYear := goodIn_r _ [37, 38, 39, 40, 36, 41, 42, 43, 44, 45, 46, 47, 48, 49, 50, 11, 12, 13, 14, 15, 51, 17, 18, 19, 20, 21, 22, 23, 24, 25, 26, 27, 28, 29, 30, 31, 32, 52, 53, 54, 55, 56, 57, 58, 59, 60, 61, 62, 63, 64, 65, 66, 67, 68, 69, 70, 71, 72, 73, 74, 75, 76, 77, 78, 79, 80, 81, 82, 83, 84, 85, 86, 87, 88, 89, 90, 91, 92, 93, 94, 95, 96, 97, 98, 99, 100, 101, 107, 108, 109, 110, 111, 112, 113, 114, 115, 116, 117, 104, 105, 106, 118, 119, 120, 121, 122] (by decide +kernel) (by decide +kernel)
set_option maxRecDepth 20000 in
theorem gX3_settlement_X2_settlementOfYear : GoodIn wsX3_settlement (wsV RX3 152 RX2 yX2_settlementOfYear wsX2_settlementOfYear) := goodIn_app (goodIn_of _ (by decide +kernel)) ggX3_settlement_X2_settlementOfYear
theorem dX3_settlement_0 : decode cX3_settlement 0 = .ok (.aload_n 0, 1) := by decide +kernel
theorem dX3_settlement_1 : decode cX3_settlement 1 = .ok (.iload_n 1, 1) := by decide +kernel
theorem dX3_settlement_2 : decode cX3_settlement 2 = .ok (.invokevirtual 77, 3) := by decide +kernel
theorem dX3_settlement_5 : decode cX3_settlement 5 = .ok (.invokevirtual 152, 3) := by decide +kernel
theorem dX3_settlement_8 : decode cX3_settlement 8 = .ok (.ireturn, 1) := by decide +kernel
set_option maxRecDepth 20000 in
theorem ggX3_cost_X3_personAt : GoodIn wsX3_cost wsX3_personAt := goodIn_ca (goodIn_r _ [5, 6, 7, 8, 9, 10, 11, 12, 13, 14, 15, 16, 17, 18, 19, 20, 21, 22, 23, 24, 25, 26, 27, 28, 29, 30, 31, 32, 133, 134, 135, 136, 137] (by decide +kernel) (by decide +kernel)) (goodIn_sub (fun _ h => List.mem_cons_of_mem _ (List.mem_append_right _ h)) (by decide +kernel))
set_option maxRecDepth 20000 in
theorem gX3_cost_X3_personAt : GoodIn wsX3_cost (wsV RX3 77 RX3 yX3_personAt wsX3_personAt) := goodIn_app (goodIn_of _ (by decide +kernel)) ggX3_cost_X3_personAt
set_option maxRecDepth 20000 in
theorem ggX3_cost_X2_costOfYear : GoodIn wsX3_cost wsX2_costOfYear := goodIn_r _ [37, 38, 39, 40, 36, 41, 42, 43, 44, 45, 46, 47, 48, 49, 50, 51, 52, 53, 54, 55, 56, 57, 58, 59, 60, 61, 62, 63, 64, 65, 66, 67, 68, 69, 70, 11, 12, 13, 14, 15, 71, 17, 18, 19, 20, 21, 22, 23, 24, 25, 26, 27, 28, 29, 30, 31, 32, 72, 73, 74, 75, 76, 77, 78, 79, 80, 81, 82, 83, 84, 85, 86, 87, 88, 89, 90, 91, 92, 93, 94, 95, 96, 97, 98, 99, 100, 101, 102, 103, 104, 105, 106, 107, 108, 109, 110, 111, 112, 113, 114, 115, 116, 117, 118, 119, 120, 121, 122, 123, 124, 125, 126, 127, 128, 129, 130, 131, 132, 138, 139, 140, 141, 142, 143, 144, 145, 135, 136, 137, 146, 147, 148, 149, 150, 151, 152, 153] (by decide +kernel) (by decide +kernel)
set_option maxRecDepth 20000 in
theorem gX3_cost_X2_costOfYear : GoodIn wsX3_cost (wsV RX3 155 RX2 yX2_costOfYear wsX2_costOfYear) := goodIn_app (goodIn_of _ (by decide +kernel)) ggX3_cost_X2_costOfYear
theorem dX3_cost_0 : decode cX3_cost 0 = .ok (.aload_n 0, 1) := by decide +kernel
theorem dX3_cost_1 : decode cX3_cost 1 = .ok (.iload_n 1, 1) := by decide +kernel
theorem dX3_cost_2 : decode cX3_cost 2 = .ok (.invokevirtual 77, 3) := by decide +kernel
theorem dX3_cost_5 : decode cX3_cost 5 = .ok (.invokevirtual 155, 3) := by decide +kernel
theorem dX3_cost_8 : decode cX3_cost 8 = .ok (.ireturn, 1) := by decide +kernel
set_option maxRecDepth 20000 in
theorem ggX3_dearest_Jx4a65c_size_8abf5 : GoodIn wsX3_dearest wsJx4a65c_size_8abf5 := goodIn_r _ [7, 8, 128, 129, 130] (by decide +kernel) (by decide +kernel)
set_option maxRecDepth 20000 in
theorem gX3_dearest_Jx4a65c_size_8abf5_f63Jx4a65c : GoodIn wsX3_dearest (va_wsF RX3 63 RJx4a65c ⟨"java/util/List", "size", "()I"⟩ yJx4a65c_size_8abf5 wsJx4a65c_size_8abf5) := goodIn_app (goodIn_of _ (by decide +kernel)) ggX3_dearest_Jx4a65c_size_8abf5
set_option maxRecDepth 20000 in
theorem ggX3_dearest_Jx4a65c_get_915e3 : GoodIn wsX3_dearest wsJx4a65c_get_915e3 := goodIn_r _ [12, 8, 13, 14, 15, 16, 17, 18, 19, 20, 21, 22, 23, 6, 24, 25, 128, 129, 130] (by decide +kernel) (by decide +kernel)
set_option maxRecDepth 20000 in
theorem gX3_dearest_Jx4a65c_get_915e3_f119Jx4a65c : GoodIn wsX3_dearest (va_wsF RX3 119 RJx4a65c ⟨"java/util/List", "get", "(I)Ljava/lang/Object;"⟩ yJx4a65c_get_915e3 wsJx4a65c_get_915e3) := goodIn_app (goodIn_of _ (by decide +kernel)) ggX3_dearest_Jx4a65c_get_915e3
set_option maxRecDepth 20000 in
theorem ggX3_dearest_X2_costOfYear : GoodIn wsX3_dearest wsX2_costOfYear := goodIn_r _ [30, 31, 32, 33, 29, 34, 35, 36, 37, 38, 39, 40, 41, 42, 43, 44, 45, 46, 47, 48, 49, 50, 51, 52, 53, 54, 55, 56, 57, 58, 59, 60, 61, 62, 63, 4, 5, 6, 7, 8, 64, 10, 11, 12, 13, 14, 15, 16, 17, 18, 19, 20, 21, 22, 23, 24, 25, 65, 66, 67, 68, 69, 70, 71, 72, 73, 74, 75, 76, 77, 78, 79, 80, 81, 82, 83, 84, 85, 86, 87, 88, 89, 90, 91, 92, 93, 94, 95, 96, 97, 98, 99, 100, 101, 102, 103, 104, 105, 106, 107, 108, 109, 110, 111, 112, 113, 114, 115, 116, 117, 118, 119, 120, 121, 122, 123, 124, 125, 131, 132, 133, 134, 135, 136, 137, 138, 128, 129, 130, 139, 140, 141, 142, 143, 144, 145, 146] (by decide +kernel) (by decide +kernel)
set_option maxRecDepth 20000 in
theorem gX3_dearest_X2_costOfYear : GoodIn wsX3_dearest (wsV RX3 155 RX2 yX2_costOfYear wsX2_costOfYear) := goodIn_app (goodIn_of _ (by decide +kernel)) ggX3_dearest_X2_costOfYear
theorem dX3_dearest_0 : decode cX3_dearest 0 = .ok (.iconst (-1), 1) := by decide +kernel
theorem dX3_dearest_1 : decode cX3_dearest 1 = .ok (.istore_n 1, 1) := by decide +kernel
theorem dX3_dearest_2 : decode cX3_dearest 2 = .ok (.iconst 0, 1) := by decide +kernel
theorem dX3_dearest_3 : decode cX3_dearest 3 = .ok (.istore_n 2, 1) := by decide +kernel
theorem dX3_dearest_4 : decode cX3_dearest 4 = .ok (.iconst 0, 1) := by decide +kernel
theorem dX3_dearest_5 : decode cX3_dearest 5 = .ok (.istore_n 3, 1) := by decide +kernel
theorem dX3_dearest_6 : decode cX3_dearest 6 = .ok (.iload_n 3, 1) := by decide +kernel
theorem dX3_dearest_7 : decode cX3_dearest 7 = .ok (.aload_n 0, 1) := by decide +kernel
theorem dX3_dearest_8 : decode cX3_dearest 8 = .ok (.getfield 16, 3) := by decide +kernel
theorem dX3_dearest_11 : decode cX3_dearest 11 = .ok (.invokeinterface 63 1, 5) := by decide +kernel
theorem dX3_dearest_16 : decode cX3_dearest 16 = .ok (.if_icmp .ge 42, 3) := by decide +kernel
theorem dX3_dearest_19 : decode cX3_dearest 19 = .ok (.aload_n 0, 1) := by decide +kernel
theorem dX3_dearest_20 : decode cX3_dearest 20 = .ok (.getfield 16, 3) := by decide +kernel
theorem dX3_dearest_23 : decode cX3_dearest 23 = .ok (.iload_n 3, 1) := by decide +kernel
theorem dX3_dearest_24 : decode cX3_dearest 24 = .ok (.invokeinterface 119 2, 5) := by decide +kernel
theorem dX3_dearest_29 : decode cX3_dearest 29 = .ok (.checkcast 72, 3) := by decide +kernel
theorem dX3_dearest_32 : decode cX3_dearest 32 = .ok (.invokevirtual 155, 3) := by decide +kernel
theorem dX3_dearest_35 : decode cX3_dearest 35 = .ok (.istore 4, 2) := by decide +kernel
theorem dX3_dearest_37 : decode cX3_dearest 37 = .ok (.iload_n 1, 1) := by decide +kernel
theorem dX3_dearest_38 : decode cX3_dearest 38 = .ok (.ifCond .lt 9, 3) := by decide +kernel
theorem dX3_dearest_41 : decode cX3_dearest 41 = .ok (.iload 4, 2) := by decide +kernel
theorem dX3_dearest_43 : decode cX3_dearest 43 = .ok (.iload_n 2, 1) := by decide +kernel
theorem dX3_dearest_44 : decode cX3_dearest 44 = .ok (.if_icmp .le 8, 3) := by decide +kernel
theorem dX3_dearest_47 : decode cX3_dearest 47 = .ok (.iload_n 3, 1) := by decide +kernel
theorem dX3_dearest_48 : decode cX3_dearest 48 = .ok (.istore_n 1, 1) := by decide +kernel
theorem dX3_dearest_49 : decode cX3_dearest 49 = .ok (.iload 4, 2) := by decide +kernel
theorem dX3_dearest_51 : decode cX3_dearest 51 = .ok (.istore_n 2, 1) := by decide +kernel
theorem dX3_dearest_52 : decode cX3_dearest 52 = .ok (.iinc 3 1, 3) := by decide +kernel
theorem dX3_dearest_55 : decode cX3_dearest 55 = .ok (.goto (-49), 3) := by decide +kernel
theorem dX3_dearest_58 : decode cX3_dearest 58 = .ok (.iload_n 1, 1) := by decide +kernel
theorem dX3_dearest_59 : decode cX3_dearest 59 = .ok (.ireturn, 1) := by decide +kernel
set_option maxRecDepth 20000 in
theorem ggX3_landAt_Jx4a65c_size_8abf5 : GoodIn wsX3_landAt wsJx4a65c_size_8abf5 := goodIn_r _ [9, 10, 30, 31, 32] (by decide +kernel) (by decide +kernel)
set_option maxRecDepth 20000 in
theorem gX3_landAt_Jx4a65c_size_8abf5_f63Jx4a65c : GoodIn wsX3_landAt (va_wsF RX3 63 RJx4a65c ⟨"java/util/List", "size", "()I"⟩ yJx4a65c_size_8abf5 wsJx4a65c_size_8abf5) := goodIn_app (goodIn_of _ (by decide +kernel)) ggX3_landAt_Jx4a65c_size_8abf5
set_option maxRecDepth 20000 in
theorem ggX3_landAt_Jx4a65c_get_915e3 : GoodIn wsX3_landAt wsJx4a65c_get_915e3 := goodIn_r _ [14, 10, 15, 16, 17, 18, 19, 20, 21, 22, 23, 24, 25, 8, 26, 27, 30, 31, 32] (by decide +kernel) (by decide +kernel)
set_option maxRecDepth 20000 in
theorem gX3_landAt_Jx4a65c_get_915e3_f119Jx4a65c : GoodIn wsX3_landAt (va_wsF RX3 119 RJx4a65c ⟨"java/util/List", "get", "(I)Ljava/lang/Object;"⟩ yJx4a65c_get_915e3 wsJx4a65c_get_915e3) := goodIn_app (goodIn_of _ (by decide +kernel)) ggX3_landAt_Jx4a65c_get_915e3
theorem dX3_landAt_0 : decode cX3_landAt 0 = .ok (.iload_n 1, 1) := by decide +kernel
theorem dX3_landAt_1 : decode cX3_landAt 1 = .ok (.ifCond .lt 16, 3) := by decide +kernel
theorem dX3_landAt_4 : decode cX3_landAt 4 = .ok (.iload_n 1, 1) := by decide +kernel
theorem dX3_landAt_5 : decode cX3_landAt 5 = .ok (.aload_n 0, 1) := by decide +kernel
theorem dX3_landAt_6 : decode cX3_landAt 6 = .ok (.getfield 10, 3) := by decide +kernel
theorem dX3_landAt_9 : decode cX3_landAt 9 = .ok (.invokeinterface 63 1, 5) := by decide +kernel
theorem dX3_landAt_14 : decode cX3_landAt 14 = .ok (.if_icmp .lt 13, 3) := by decide +kernel
theorem dX3_landAt_17 : decode cX3_landAt 17 = .ok (.new 55, 3) := by decide +kernel
theorem dX3_landAt_20 : decode cX3_landAt 20 = .ok (.dup, 1) := by decide +kernel
theorem dX3_landAt_21 : decode cX3_landAt 21 = .ok (.ldc 158, 2) := by decide +kernel
theorem dX3_landAt_23 : decode cX3_landAt 23 = .ok (.invokespecial 59, 3) := by decide +kernel
theorem dX3_landAt_26 : decode cX3_landAt 26 = .ok (.athrow, 1) := by decide +kernel
theorem dX3_landAt_27 : decode cX3_landAt 27 = .ok (.aload_n 0, 1) := by decide +kernel
theorem dX3_landAt_28 : decode cX3_landAt 28 = .ok (.getfield 10, 3) := by decide +kernel
theorem dX3_landAt_31 : decode cX3_landAt 31 = .ok (.iload_n 1, 1) := by decide +kernel
theorem dX3_landAt_32 : decode cX3_landAt 32 = .ok (.invokeinterface 119 2, 5) := by decide +kernel
theorem dX3_landAt_37 : decode cX3_landAt 37 = .ok (.checkcast 19, 3) := by decide +kernel
theorem dX3_landAt_40 : decode cX3_landAt 40 = .ok (.areturn, 1) := by decide +kernel
set_option maxRecDepth 20000 in
theorem ggX3_personAt_Jx4a65c_size_8abf5 : GoodIn wsX3_personAt wsJx4a65c_size_8abf5 := goodIn_r _ [9, 10, 30, 31, 32] (by decide +kernel) (by decide +kernel)
set_option maxRecDepth 20000 in
theorem gX3_personAt_Jx4a65c_size_8abf5_f63Jx4a65c : GoodIn wsX3_personAt (va_wsF RX3 63 RJx4a65c ⟨"java/util/List", "size", "()I"⟩ yJx4a65c_size_8abf5 wsJx4a65c_size_8abf5) := goodIn_app (goodIn_of _ (by decide +kernel)) ggX3_personAt_Jx4a65c_size_8abf5
set_option maxRecDepth 20000 in
theorem ggX3_personAt_Jx4a65c_get_915e3 : GoodIn wsX3_personAt wsJx4a65c_get_915e3 := goodIn_r _ [14, 10, 15, 16, 17, 18, 19, 20, 21, 22, 23, 24, 25, 8, 26, 27, 30, 31, 32] (by decide +kernel) (by decide +kernel)
set_option maxRecDepth 20000 in
theorem gX3_personAt_Jx4a65c_get_915e3_f119Jx4a65c : GoodIn wsX3_personAt (va_wsF RX3 119 RJx4a65c ⟨"java/util/List", "get", "(I)Ljava/lang/Object;"⟩ yJx4a65c_get_915e3 wsJx4a65c_get_915e3) := goodIn_app (goodIn_of _ (by decide +kernel)) ggX3_personAt_Jx4a65c_get_915e3
theorem dX3_personAt_0 : decode cX3_personAt 0 = .ok (.iload_n 1, 1) := by decide +kernel
theorem dX3_personAt_1 : decode cX3_personAt 1 = .ok (.ifCond .lt 16, 3) := by decide +kernel
theorem dX3_personAt_4 : decode cX3_personAt 4 = .ok (.iload_n 1, 1) := by decide +kernel
theorem dX3_personAt_5 : decode cX3_personAt 5 = .ok (.aload_n 0, 1) := by decide +kernel
theorem dX3_personAt_6 : decode cX3_personAt 6 = .ok (.getfield 16, 3) := by decide +kernel
theorem dX3_personAt_9 : decode cX3_personAt 9 = .ok (.invokeinterface 63 1, 5) := by decide +kernel
theorem dX3_personAt_14 : decode cX3_personAt 14 = .ok (.if_icmp .lt 13, 3) := by decide +kernel
theorem dX3_personAt_17 : decode cX3_personAt 17 = .ok (.new 114, 3) := by decide +kernel
theorem dX3_personAt_20 : decode cX3_personAt 20 = .ok (.dup, 1) := by decide +kernel
theorem dX3_personAt_21 : decode cX3_personAt 21 = .ok (.ldc 160, 2) := by decide +kernel
theorem dX3_personAt_23 : decode cX3_personAt 23 = .ok (.invokespecial 118, 3) := by decide +kernel
theorem dX3_personAt_26 : decode cX3_personAt 26 = .ok (.athrow, 1) := by decide +kernel
theorem dX3_personAt_27 : decode cX3_personAt 27 = .ok (.aload_n 0, 1) := by decide +kernel
theorem dX3_personAt_28 : decode cX3_personAt 28 = .ok (.getfield 16, 3) := by decide +kernel
theorem dX3_personAt_31 : decode cX3_personAt 31 = .ok (.iload_n 1, 1) := by decide +kernel
theorem dX3_personAt_32 : decode cX3_personAt 32 = .ok (.invokeinterface 119 2, 5) := by decide +kernel
theorem dX3_personAt_37 : decode cX3_personAt 37 = .ok (.checkcast 72, 3) := by decide +kernel
theorem dX3_personAt_40 : decode cX3_personAt 40 = .ok (.areturn, 1) := by decide +kernel
theorem dX3_requireRange_0 : decode cX3_requireRange 0 = .ok (.iload_n 0, 1) := by decide +kernel
theorem dX3_requireRange_1 : decode cX3_requireRange 1 = .ok (.iload_n 1, 1) := by decide +kernel
theorem dX3_requireRange_2 : decode cX3_requireRange 2 = .ok (.if_icmp .lt 8, 3) := by decide +kernel
theorem dX3_requireRange_5 : decode cX3_requireRange 5 = .ok (.iload_n 0, 1) := by decide +kernel
theorem dX3_requireRange_6 : decode cX3_requireRange 6 = .ok (.iload_n 2, 1) := by decide +kernel
theorem dX3_requireRange_7 : decode cX3_requireRange 7 = .ok (.if_icmp .le 13, 3) := by decide +kernel
theorem dX3_requireRange_10 : decode cX3_requireRange 10 = .ok (.new 55, 3) := by decide +kernel
theorem dX3_requireRange_13 : decode cX3_requireRange 13 = .ok (.dup, 1) := by decide +kernel
theorem dX3_requireRange_14 : decode cX3_requireRange 14 = .ok (.ldc 162, 2) := by decide +kernel
theorem dX3_requireRange_16 : decode cX3_requireRange 16 = .ok (.invokespecial 59, 3) := by decide +kernel
theorem dX3_requireRange_19 : decode cX3_requireRange 19 = .ok (.athrow, 1) := by decide +kernel
theorem dX3_requireRange_20 : decode cX3_requireRange 20 = .ok (.return_, 1) := by decide +kernel
theorem dX4_init_0 : decode cX4_init 0 = .ok (.aload_n 0, 1) := by decide +kernel
theorem dX4_init_1 : decode cX4_init 1 = .ok (.invokespecial 1, 3) := by decide +kernel
theorem dX4_init_4 : decode cX4_init 4 = .ok (.aload_n 0, 1) := by decide +kernel
theorem dX4_init_5 : decode cX4_init 5 = .ok (.iconst 4, 1) := by decide +kernel
theorem dX4_init_6 : decode cX4_init 6 = .ok (.newarray .int, 2) := by decide +kernel
theorem dX4_init_8 : decode cX4_init 8 = .ok (.putfield 7, 3) := by decide +kernel
theorem dX4_init_11 : decode cX4_init 11 = .ok (.aload_n 0, 1) := by decide +kernel
theorem dX4_init_12 : decode cX4_init 12 = .ok (.iconst 4, 1) := by decide +kernel
theorem dX4_init_13 : decode cX4_init 13 = .ok (.newarray .int, 2) := by decide +kernel
theorem dX4_init_15 : decode cX4_init 15 = .ok (.putfield 13, 3) := by decide +kernel
theorem dX4_init_18 : decode cX4_init 18 = .ok (.aload_n 0, 1) := by decide +kernel
theorem dX4_init_19 : decode cX4_init 19 = .ok (.bipush 12, 2) := by decide +kernel
theorem dX4_init_21 : decode cX4_init 21 = .ok (.newarray .int, 2) := by decide +kernel
theorem dX4_init_23 : decode cX4_init 23 = .ok (.putfield 16, 3) := by decide +kernel
theorem dX4_init_26 : decode cX4_init 26 = .ok (.aload_n 0, 1) := by decide +kernel
theorem dX4_init_27 : decode cX4_init 27 = .ok (.bipush 10, 2) := by decide +kernel
theorem dX4_init_29 : decode cX4_init 29 = .ok (.newarray .int, 2) := by decide +kernel
theorem dX4_init_31 : decode cX4_init 31 = .ok (.putfield 19, 3) := by decide +kernel
theorem dX4_init_34 : decode cX4_init 34 = .ok (.aload_n 0, 1) := by decide +kernel
theorem dX4_init_35 : decode cX4_init 35 = .ok (.bipush 10, 2) := by decide +kernel
theorem dX4_init_37 : decode cX4_init 37 = .ok (.newarray .int, 2) := by decide +kernel
theorem dX4_init_39 : decode cX4_init 39 = .ok (.putfield 22, 3) := by decide +kernel
theorem dX4_init_42 : decode cX4_init 42 = .ok (.aload_n 0, 1) := by decide +kernel
theorem dX4_init_43 : decode cX4_init 43 = .ok (.bipush 10, 2) := by decide +kernel
theorem dX4_init_45 : decode cX4_init 45 = .ok (.newarray .int, 2) := by decide +kernel
theorem dX4_init_47 : decode cX4_init 47 = .ok (.putfield 25, 3) := by decide +kernel
theorem dX4_init_50 : decode cX4_init 50 = .ok (.aload_n 0, 1) := by decide +kernel
theorem dX4_init_51 : decode cX4_init 51 = .ok (.bipush 10, 2) := by decide +kernel
theorem dX4_init_53 : decode cX4_init 53 = .ok (.newarray .int, 2) := by decide +kernel
theorem dX4_init_55 : decode cX4_init 55 = .ok (.putfield 28, 3) := by decide +kernel
theorem dX4_init_58 : decode cX4_init 58 = .ok (.aload_n 0, 1) := by decide +kernel
theorem dX4_init_59 : decode cX4_init 59 = .ok (.bipush 10, 2) := by decide +kernel
theorem dX4_init_61 : decode cX4_init 61 = .ok (.newarray .int, 2) := by decide +kernel
theorem dX4_init_63 : decode cX4_init 63 = .ok (.putfield 31, 3) := by decide +kernel
theorem dX4_init_66 : decode cX4_init 66 = .ok (.aload_n 0, 1) := by decide +kernel
theorem dX4_init_67 : decode cX4_init 67 = .ok (.bipush 10, 2) := by decide +kernel
theorem dX4_init_69 : decode cX4_init 69 = .ok (.newarray .int, 2) := by decide +kernel
theorem dX4_init_71 : decode cX4_init 71 = .ok (.putfield 34, 3) := by decide +kernel
theorem dX4_init_74 : decode cX4_init 74 = .ok (.aload_n 0, 1) := by decide +kernel
theorem dX4_init_75 : decode cX4_init 75 = .ok (.bipush 10, 2) := by decide +kernel
theorem dX4_init_77 : decode cX4_init 77 = .ok (.newarray .int, 2) := by decide +kernel
theorem dX4_init_79 : decode cX4_init 79 = .ok (.putfield 37, 3) := by decide +kernel
theorem dX4_init_82 : decode cX4_init 82 = .ok (.aload_n 0, 1) := by decide +kernel
theorem dX4_init_83 : decode cX4_init 83 = .ok (.bipush 10, 2) := by decide +kernel
theorem dX4_init_85 : decode cX4_init 85 = .ok (.newarray .int, 2) := by decide +kernel
theorem dX4_init_87 : decode cX4_init 87 = .ok (.putfield 40, 3) := by decide +kernel
theorem dX4_init_90 : decode cX4_init 90 = .ok (.aload_n 0, 1) := by decide +kernel
theorem dX4_init_91 : decode cX4_init 91 = .ok (.bipush 60, 2) := by decide +kernel
theorem dX4_init_93 : decode cX4_init 93 = .ok (.newarray .int, 2) := by decide +kernel
theorem dX4_init_95 : decode cX4_init 95 = .ok (.putfield 43, 3) := by decide +kernel
theorem dX4_init_98 : decode cX4_init 98 = .ok (.aload_n 0, 1) := by decide +kernel
theorem dX4_init_99 : decode cX4_init 99 = .ok (.bipush 60, 2) := by decide +kernel
theorem dX4_init_101 : decode cX4_init 101 = .ok (.newarray .int, 2) := by decide +kernel
theorem dX4_init_103 : decode cX4_init 103 = .ok (.putfield 46, 3) := by decide +kernel
theorem dX4_init_106 : decode cX4_init 106 = .ok (.aload_n 0, 1) := by decide +kernel
theorem dX4_init_107 : decode cX4_init 107 = .ok (.bipush 60, 2) := by decide +kernel
theorem dX4_init_109 : decode cX4_init 109 = .ok (.newarray .int, 2) := by decide +kernel
theorem dX4_init_111 : decode cX4_init 111 = .ok (.putfield 49, 3) := by decide +kernel
theorem dX4_init_114 : decode cX4_init 114 = .ok (.iconst 0, 1) := by decide +kernel
theorem dX4_init_115 : decode cX4_init 115 = .ok (.istore_n 1, 1) := by decide +kernel
theorem dX4_init_116 : decode cX4_init 116 = .ok (.iload_n 1, 1) := by decide +kernel
theorem dX4_init_117 : decode cX4_init 117 = .ok (.iconst 4, 1) := by decide +kernel
theorem dX4_init_118 : decode cX4_init 118 = .ok (.if_icmp .ge 60, 3) := by decide +kernel
theorem dX4_init_121 : decode cX4_init 121 = .ok (.aload_n 0, 1) := by decide +kernel
theorem dX4_init_122 : decode cX4_init 122 = .ok (.getfield 7, 3) := by decide +kernel
theorem dX4_init_125 : decode cX4_init 125 = .ok (.iload_n 1, 1) := by decide +kernel
theorem dX4_init_126 : decode cX4_init 126 = .ok (.sipush 10000, 3) := by decide +kernel
theorem dX4_init_129 : decode cX4_init 129 = .ok (.iastore, 1) := by decide +kernel
theorem dX4_init_130 : decode cX4_init 130 = .ok (.aload_n 0, 1) := by decide +kernel
theorem dX4_init_131 : decode cX4_init 131 = .ok (.getfield 13, 3) := by decide +kernel
theorem dX4_init_134 : decode cX4_init 134 = .ok (.iload_n 1, 1) := by decide +kernel
theorem dX4_init_135 : decode cX4_init 135 = .ok (.ldc 52, 2) := by decide +kernel
theorem dX4_init_137 : decode cX4_init 137 = .ok (.iastore, 1) := by decide +kernel
theorem dX4_init_138 : decode cX4_init 138 = .ok (.aload_n 0, 1) := by decide +kernel
theorem dX4_init_139 : decode cX4_init 139 = .ok (.getfield 16, 3) := by decide +kernel
theorem dX4_init_142 : decode cX4_init 142 = .ok (.iconst 3, 1) := by decide +kernel
theorem dX4_init_143 : decode cX4_init 143 = .ok (.iload_n 1, 1) := by decide +kernel
theorem dX4_init_144 : decode cX4_init 144 = .ok (.imul, 1) := by decide +kernel
theorem dX4_init_145 : decode cX4_init 145 = .ok (.bipush 10, 2) := by decide +kernel
theorem dX4_init_147 : decode cX4_init 147 = .ok (.iastore, 1) := by decide +kernel
theorem dX4_init_148 : decode cX4_init 148 = .ok (.aload_n 0, 1) := by decide +kernel
theorem dX4_init_149 : decode cX4_init 149 = .ok (.getfield 16, 3) := by decide +kernel
theorem dX4_init_152 : decode cX4_init 152 = .ok (.iconst 3, 1) := by decide +kernel
theorem dX4_init_153 : decode cX4_init 153 = .ok (.iload_n 1, 1) := by decide +kernel
theorem dX4_init_154 : decode cX4_init 154 = .ok (.imul, 1) := by decide +kernel
theorem dX4_init_155 : decode cX4_init 155 = .ok (.iconst 1, 1) := by decide +kernel
theorem dX4_init_156 : decode cX4_init 156 = .ok (.iadd, 1) := by decide +kernel
theorem dX4_init_157 : decode cX4_init 157 = .ok (.bipush 20, 2) := by decide +kernel
theorem dX4_init_159 : decode cX4_init 159 = .ok (.iastore, 1) := by decide +kernel
theorem dX4_init_160 : decode cX4_init 160 = .ok (.aload_n 0, 1) := by decide +kernel
theorem dX4_init_161 : decode cX4_init 161 = .ok (.getfield 16, 3) := by decide +kernel
theorem dX4_init_164 : decode cX4_init 164 = .ok (.iconst 3, 1) := by decide +kernel
theorem dX4_init_165 : decode cX4_init 165 = .ok (.iload_n 1, 1) := by decide +kernel
theorem dX4_init_166 : decode cX4_init 166 = .ok (.imul, 1) := by decide +kernel
theorem dX4_init_167 : decode cX4_init 167 = .ok (.iconst 2, 1) := by decide +kernel
theorem dX4_init_168 : decode cX4_init 168 = .ok (.iadd, 1) := by decide +kernel
theorem dX4_init_169 : decode cX4_init 169 = .ok (.bipush 40, 2) := by decide +kernel
theorem dX4_init_171 : decode cX4_init 171 = .ok (.iastore, 1) := by decide +kernel
theorem dX4_init_172 : decode cX4_init 172 = .ok (.iinc 1 1, 3) := by decide +kernel
theorem dX4_init_175 : decode cX4_init 175 = .ok (.goto (-59), 3) := by decide +kernel
theorem dX4_init_178 : decode cX4_init 178 = .ok (.return_, 1) := by decide +kernel
theorem dX4_thrown_0 : decode cX4_thrown 0 = .ok (.aload_n 0, 1) := by decide +kernel
theorem dX4_thrown_1 : decode cX4_thrown 1 = .ok (.getfield 53, 3) := by decide +kernel
theorem dX4_thrown_4 : decode cX4_thrown 4 = .ok (.ireturn, 1) := by decide +kernel
theorem dX4_fails_0 : decode cX4_fails 0 = .ok (.aload_n 0, 1) := by decide +kernel
theorem dX4_fails_1 : decode cX4_fails 1 = .ok (.iload_n 1, 1) := by decide +kernel
theorem dX4_fails_2 : decode cX4_fails 2 = .ok (.putfield 53, 3) := by decide +kernel
theorem dX4_fails_5 : decode cX4_fails 5 = .ok (.iconst 0, 1) := by decide +kernel
theorem dX4_fails_6 : decode cX4_fails 6 = .ok (.ireturn, 1) := by decide +kernel
theorem dX4_in_0 : decode cX4_in 0 = .ok (.iload_n 0, 1) := by decide +kernel
theorem dX4_in_1 : decode cX4_in 1 = .ok (.iload_n 1, 1) := by decide +kernel
theorem dX4_in_2 : decode cX4_in 2 = .ok (.if_icmp .lt 12, 3) := by decide +kernel
theorem dX4_in_5 : decode cX4_in 5 = .ok (.iload_n 0, 1) := by decide +kernel
theorem dX4_in_6 : decode cX4_in 6 = .ok (.iload_n 2, 1) := by decide +kernel
theorem dX4_in_7 : decode cX4_in 7 = .ok (.if_icmp .gt 7, 3) := by decide +kernel
theorem dX4_in_10 : decode cX4_in 10 = .ok (.iconst 1, 1) := by decide +kernel
theorem dX4_in_11 : decode cX4_in 11 = .ok (.goto 4, 3) := by decide +kernel
theorem dX4_in_14 : decode cX4_in 14 = .ok (.iconst 0, 1) := by decide +kernel
theorem dX4_in_15 : decode cX4_in 15 = .ok (.ireturn, 1) := by decide +kernel
set_option maxRecDepth 20000 in
theorem ggX4_isLand_X4_in : GoodIn wsX4_isLand wsX4_in := goodIn_r _ [4] (by decide +kernel) (by decide +kernel)
set_option maxRecDepth 20000 in
theorem gX4_isLand_X4_in : GoodIn wsX4_isLand (va_wsS RX4 57 yX4_in wsX4_in) := goodIn_app (goodIn_of _ (by decide +kernel)) ggX4_isLand_X4_in
theorem dX4_isLand_0 : decode cX4_isLand 0 = .ok (.iload_n 0, 1) := by decide +kernel
theorem dX4_isLand_1 : decode cX4_isLand 1 = .ok (.iconst 0, 1) := by decide +kernel
theorem dX4_isLand_2 : decode cX4_isLand 2 = .ok (.iconst 3, 1) := by decide +kernel
theorem dX4_isLand_3 : decode cX4_isLand 3 = .ok (.invokestatic 57, 3) := by decide +kernel
theorem dX4_isLand_6 : decode cX4_isLand 6 = .ok (.ireturn, 1) := by decide +kernel
set_option maxRecDepth 20000 in
theorem ggX4_isAsked_X4_in : GoodIn wsX4_isAsked wsX4_in := goodIn_r _ [6] (by decide +kernel) (by decide +kernel)
set_option maxRecDepth 20000 in
theorem gX4_isAsked_X4_in : GoodIn wsX4_isAsked (va_wsS RX4 57 yX4_in wsX4_in) := goodIn_app (goodIn_of _ (by decide +kernel)) ggX4_isAsked_X4_in
theorem dX4_isAsked_0 : decode cX4_isAsked 0 = .ok (.aload_n 0, 1) := by decide +kernel
theorem dX4_isAsked_1 : decode cX4_isAsked 1 = .ok (.iload_n 1, 1) := by decide +kernel
theorem dX4_isAsked_2 : decode cX4_isAsked 2 = .ok (.iconst 0, 1) := by decide +kernel
theorem dX4_isAsked_3 : decode cX4_isAsked 3 = .ok (.aload_n 0, 1) := by decide +kernel
theorem dX4_isAsked_4 : decode cX4_isAsked 4 = .ok (.getfield 61, 3) := by decide +kernel
theorem dX4_isAsked_7 : decode cX4_isAsked 7 = .ok (.iconst 1, 1) := by decide +kernel
theorem dX4_isAsked_8 : decode cX4_isAsked 8 = .ok (.isub, 1) := by decide +kernel
theorem dX4_isAsked_9 : decode cX4_isAsked 9 = .ok (.invokestatic 57, 3) := by decide +kernel
theorem dX4_isAsked_12 : decode cX4_isAsked 12 = .ok (.ifCond .eq 7, 3) := by decide +kernel
theorem dX4_isAsked_15 : decode cX4_isAsked 15 = .ok (.iconst 0, 1) := by decide +kernel
theorem dX4_isAsked_16 : decode cX4_isAsked 16 = .ok (.goto 4, 3) := by decide +kernel
theorem dX4_isAsked_19 : decode cX4_isAsked 19 = .ok (.iconst 1, 1) := by decide +kernel
theorem dX4_isAsked_20 : decode cX4_isAsked 20 = .ok (.putfield 53, 3) := by decide +kernel
theorem dX4_isAsked_23 : decode cX4_isAsked 23 = .ok (.aload_n 0, 1) := by decide +kernel
theorem dX4_isAsked_24 : decode cX4_isAsked 24 = .ok (.getfield 53, 3) := by decide +kernel
theorem dX4_isAsked_27 : decode cX4_isAsked 27 = .ok (.ifCond .ne 7, 3) := by decide +kernel
theorem dX4_isAsked_30 : decode cX4_isAsked 30 = .ok (.iconst 1, 1) := by decide +kernel
theorem dX4_isAsked_31 : decode cX4_isAsked 31 = .ok (.goto 4, 3) := by decide +kernel
theorem dX4_isAsked_34 : decode cX4_isAsked 34 = .ok (.iconst 0, 1) := by decide +kernel
theorem dX4_isAsked_35 : decode cX4_isAsked 35 = .ok (.ireturn, 1) := by decide +kernel
theorem dX4_taxOf_0 : decode cX4_taxOf 0 = .ok (.lload_n 2, 1) := by decide +kernel
theorem dX4_taxOf_1 : decode cX4_taxOf 1 = .ok (.aload_n 0, 1) := by decide +kernel
theorem dX4_taxOf_2 : decode cX4_taxOf 2 = .ok (.getfield 7, 3) := by decide +kernel
theorem dX4_taxOf_5 : decode cX4_taxOf 5 = .ok (.iload_n 1, 1) := by decide +kernel
theorem dX4_taxOf_6 : decode cX4_taxOf 6 = .ok (.iaload, 1) := by decide +kernel
theorem dX4_taxOf_7 : decode cX4_taxOf 7 = .ok (.i2l, 1) := by decide +kernel
theorem dX4_taxOf_8 : decode cX4_taxOf 8 = .ok (.lcmp, 1) := by decide +kernel
theorem dX4_taxOf_9 : decode cX4_taxOf 9 = .ok (.ifCond .ge 7, 3) := by decide +kernel
theorem dX4_taxOf_12 : decode cX4_taxOf 12 = .ok (.lload_n 2, 1) := by decide +kernel
theorem dX4_taxOf_13 : decode cX4_taxOf 13 = .ok (.goto 10, 3) := by decide +kernel
theorem dX4_taxOf_16 : decode cX4_taxOf 16 = .ok (.aload_n 0, 1) := by decide +kernel
theorem dX4_taxOf_17 : decode cX4_taxOf 17 = .ok (.getfield 7, 3) := by decide +kernel
theorem dX4_taxOf_20 : decode cX4_taxOf 20 = .ok (.iload_n 1, 1) := by decide +kernel
theorem dX4_taxOf_21 : decode cX4_taxOf 21 = .ok (.iaload, 1) := by decide +kernel
theorem dX4_taxOf_22 : decode cX4_taxOf 22 = .ok (.i2l, 1) := by decide +kernel
theorem dX4_taxOf_23 : decode cX4_taxOf 23 = .ok (.lstore 4, 2) := by decide +kernel
theorem dX4_taxOf_25 : decode cX4_taxOf 25 = .ok (.lload_n 2, 1) := by decide +kernel
theorem dX4_taxOf_26 : decode cX4_taxOf 26 = .ok (.aload_n 0, 1) := by decide +kernel
theorem dX4_taxOf_27 : decode cX4_taxOf 27 = .ok (.getfield 13, 3) := by decide +kernel
theorem dX4_taxOf_30 : decode cX4_taxOf 30 = .ok (.iload_n 1, 1) := by decide +kernel
theorem dX4_taxOf_31 : decode cX4_taxOf 31 = .ok (.iaload, 1) := by decide +kernel
theorem dX4_taxOf_32 : decode cX4_taxOf 32 = .ok (.i2l, 1) := by decide +kernel
theorem dX4_taxOf_33 : decode cX4_taxOf 33 = .ok (.lcmp, 1) := by decide +kernel
theorem dX4_taxOf_34 : decode cX4_taxOf 34 = .ok (.ifCond .ge 10, 3) := by decide +kernel
theorem dX4_taxOf_37 : decode cX4_taxOf 37 = .ok (.lload_n 2, 1) := by decide +kernel
theorem dX4_taxOf_38 : decode cX4_taxOf 38 = .ok (.lload 4, 2) := by decide +kernel
theorem dX4_taxOf_40 : decode cX4_taxOf 40 = .ok (.lsub, 1) := by decide +kernel
theorem dX4_taxOf_41 : decode cX4_taxOf 41 = .ok (.goto 13, 3) := by decide +kernel
theorem dX4_taxOf_44 : decode cX4_taxOf 44 = .ok (.aload_n 0, 1) := by decide +kernel
theorem dX4_taxOf_45 : decode cX4_taxOf 45 = .ok (.getfield 13, 3) := by decide +kernel
theorem dX4_taxOf_48 : decode cX4_taxOf 48 = .ok (.iload_n 1, 1) := by decide +kernel
theorem dX4_taxOf_49 : decode cX4_taxOf 49 = .ok (.iaload, 1) := by decide +kernel
theorem dX4_taxOf_50 : decode cX4_taxOf 50 = .ok (.i2l, 1) := by decide +kernel
theorem dX4_taxOf_51 : decode cX4_taxOf 51 = .ok (.lload 4, 2) := by decide +kernel
theorem dX4_taxOf_53 : decode cX4_taxOf 53 = .ok (.lsub, 1) := by decide +kernel
theorem dX4_taxOf_54 : decode cX4_taxOf 54 = .ok (.lstore 6, 2) := by decide +kernel
theorem dX4_taxOf_56 : decode cX4_taxOf 56 = .ok (.lload_n 2, 1) := by decide +kernel
theorem dX4_taxOf_57 : decode cX4_taxOf 57 = .ok (.lload 4, 2) := by decide +kernel
theorem dX4_taxOf_59 : decode cX4_taxOf 59 = .ok (.lsub, 1) := by decide +kernel
theorem dX4_taxOf_60 : decode cX4_taxOf 60 = .ok (.lload 6, 2) := by decide +kernel
theorem dX4_taxOf_62 : decode cX4_taxOf 62 = .ok (.lsub, 1) := by decide +kernel
theorem dX4_taxOf_63 : decode cX4_taxOf 63 = .ok (.lstore 8, 2) := by decide +kernel
theorem dX4_taxOf_65 : decode cX4_taxOf 65 = .ok (.lload 4, 2) := by decide +kernel
theorem dX4_taxOf_67 : decode cX4_taxOf 67 = .ok (.aload_n 0, 1) := by decide +kernel
theorem dX4_taxOf_68 : decode cX4_taxOf 68 = .ok (.getfield 16, 3) := by decide +kernel
theorem dX4_taxOf_71 : decode cX4_taxOf 71 = .ok (.iconst 3, 1) := by decide +kernel
theorem dX4_taxOf_72 : decode cX4_taxOf 72 = .ok (.iload_n 1, 1) := by decide +kernel
theorem dX4_taxOf_73 : decode cX4_taxOf 73 = .ok (.imul, 1) := by decide +kernel
theorem dX4_taxOf_74 : decode cX4_taxOf 74 = .ok (.iaload, 1) := by decide +kernel
theorem dX4_taxOf_75 : decode cX4_taxOf 75 = .ok (.i2l, 1) := by decide +kernel
theorem dX4_taxOf_76 : decode cX4_taxOf 76 = .ok (.lmul, 1) := by decide +kernel
theorem dX4_taxOf_77 : decode cX4_taxOf 77 = .ok (.lload 6, 2) := by decide +kernel
theorem dX4_taxOf_79 : decode cX4_taxOf 79 = .ok (.aload_n 0, 1) := by decide +kernel
theorem dX4_taxOf_80 : decode cX4_taxOf 80 = .ok (.getfield 16, 3) := by decide +kernel
theorem dX4_taxOf_83 : decode cX4_taxOf 83 = .ok (.iconst 3, 1) := by decide +kernel
theorem dX4_taxOf_84 : decode cX4_taxOf 84 = .ok (.iload_n 1, 1) := by decide +kernel
theorem dX4_taxOf_85 : decode cX4_taxOf 85 = .ok (.imul, 1) := by decide +kernel
theorem dX4_taxOf_86 : decode cX4_taxOf 86 = .ok (.iconst 1, 1) := by decide +kernel
theorem dX4_taxOf_87 : decode cX4_taxOf 87 = .ok (.iadd, 1) := by decide +kernel
theorem dX4_taxOf_88 : decode cX4_taxOf 88 = .ok (.iaload, 1) := by decide +kernel
theorem dX4_taxOf_89 : decode cX4_taxOf 89 = .ok (.i2l, 1) := by decide +kernel
theorem dX4_taxOf_90 : decode cX4_taxOf 90 = .ok (.lmul, 1) := by decide +kernel
theorem dX4_taxOf_91 : decode cX4_taxOf 91 = .ok (.ladd, 1) := by decide +kernel
theorem dX4_taxOf_92 : decode cX4_taxOf 92 = .ok (.lload 8, 2) := by decide +kernel
theorem dX4_taxOf_94 : decode cX4_taxOf 94 = .ok (.aload_n 0, 1) := by decide +kernel
theorem dX4_taxOf_95 : decode cX4_taxOf 95 = .ok (.getfield 16, 3) := by decide +kernel
theorem dX4_taxOf_98 : decode cX4_taxOf 98 = .ok (.iconst 3, 1) := by decide +kernel
theorem dX4_taxOf_99 : decode cX4_taxOf 99 = .ok (.iload_n 1, 1) := by decide +kernel
theorem dX4_taxOf_100 : decode cX4_taxOf 100 = .ok (.imul, 1) := by decide +kernel
theorem dX4_taxOf_101 : decode cX4_taxOf 101 = .ok (.iconst 2, 1) := by decide +kernel
theorem dX4_taxOf_102 : decode cX4_taxOf 102 = .ok (.iadd, 1) := by decide +kernel
theorem dX4_taxOf_103 : decode cX4_taxOf 103 = .ok (.iaload, 1) := by decide +kernel
theorem dX4_taxOf_104 : decode cX4_taxOf 104 = .ok (.i2l, 1) := by decide +kernel
theorem dX4_taxOf_105 : decode cX4_taxOf 105 = .ok (.lmul, 1) := by decide +kernel
theorem dX4_taxOf_106 : decode cX4_taxOf 106 = .ok (.ladd, 1) := by decide +kernel
theorem dX4_taxOf_107 : decode cX4_taxOf 107 = .ok (.ldc2_w 64, 3) := by decide +kernel
theorem dX4_taxOf_110 : decode cX4_taxOf 110 = .ok (.ldiv, 1) := by decide +kernel
theorem dX4_taxOf_111 : decode cX4_taxOf 111 = .ok (.lreturn, 1) := by decide +kernel
set_option maxRecDepth 20000 in
theorem ggX4_gross_X4_taxOf : GoodIn wsX4_gross wsX4_taxOf := goodIn_r _ [6, 7, 8, 9, 10, 11, 12, 13, 14, 15, 16, 17, 18, 19, 20, 21, 22, 23, 24, 25, 26] (by decide +kernel) (by decide +kernel)
set_option maxRecDepth 20000 in
theorem gX4_gross_X4_taxOf : GoodIn wsX4_gross (wsV RX4 67 RX4 yX4_taxOf wsX4_taxOf) := goodIn_app (goodIn_of _ (by decide +kernel)) ggX4_gross_X4_taxOf
theorem dX4_gross_0 : decode cX4_gross 0 = .ok (.iconst (-1), 1) := by decide +kernel
theorem dX4_gross_1 : decode cX4_gross 1 = .ok (.istore 4, 2) := by decide +kernel
theorem dX4_gross_3 : decode cX4_gross 3 = .ok (.ldc 66, 2) := by decide +kernel
theorem dX4_gross_5 : decode cX4_gross 5 = .ok (.istore 5, 2) := by decide +kernel
theorem dX4_gross_7 : decode cX4_gross 7 = .ok (.iload 5, 2) := by decide +kernel
theorem dX4_gross_9 : decode cX4_gross 9 = .ok (.iload 4, 2) := by decide +kernel
theorem dX4_gross_11 : decode cX4_gross 11 = .ok (.isub, 1) := by decide +kernel
theorem dX4_gross_12 : decode cX4_gross 12 = .ok (.iconst 1, 1) := by decide +kernel
theorem dX4_gross_13 : decode cX4_gross 13 = .ok (.if_icmp .le 70, 3) := by decide +kernel
theorem dX4_gross_16 : decode cX4_gross 16 = .ok (.iload 4, 2) := by decide +kernel
theorem dX4_gross_18 : decode cX4_gross 18 = .ok (.iload 5, 2) := by decide +kernel
theorem dX4_gross_20 : decode cX4_gross 20 = .ok (.iload 4, 2) := by decide +kernel
theorem dX4_gross_22 : decode cX4_gross 22 = .ok (.isub, 1) := by decide +kernel
theorem dX4_gross_23 : decode cX4_gross 23 = .ok (.iconst 2, 1) := by decide +kernel
theorem dX4_gross_24 : decode cX4_gross 24 = .ok (.idiv, 1) := by decide +kernel
theorem dX4_gross_25 : decode cX4_gross 25 = .ok (.iadd, 1) := by decide +kernel
theorem dX4_gross_26 : decode cX4_gross 26 = .ok (.istore 6, 2) := by decide +kernel
theorem dX4_gross_28 : decode cX4_gross 28 = .ok (.aload_n 0, 1) := by decide +kernel
theorem dX4_gross_29 : decode cX4_gross 29 = .ok (.iload_n 1, 1) := by decide +kernel
theorem dX4_gross_30 : decode cX4_gross 30 = .ok (.lload_n 2, 1) := by decide +kernel
theorem dX4_gross_31 : decode cX4_gross 31 = .ok (.iload 6, 2) := by decide +kernel
theorem dX4_gross_33 : decode cX4_gross 33 = .ok (.i2l, 1) := by decide +kernel
theorem dX4_gross_34 : decode cX4_gross 34 = .ok (.ladd, 1) := by decide +kernel
theorem dX4_gross_35 : decode cX4_gross 35 = .ok (.invokevirtual 67, 3) := by decide +kernel
theorem dX4_gross_38 : decode cX4_gross 38 = .ok (.iload 6, 2) := by decide +kernel
theorem dX4_gross_40 : decode cX4_gross 40 = .ok (.i2l, 1) := by decide +kernel
theorem dX4_gross_41 : decode cX4_gross 41 = .ok (.lcmp, 1) := by decide +kernel
theorem dX4_gross_42 : decode cX4_gross 42 = .ok (.ifCond .gt 7, 3) := by decide +kernel
theorem dX4_gross_45 : decode cX4_gross 45 = .ok (.iconst 1, 1) := by decide +kernel
theorem dX4_gross_46 : decode cX4_gross 46 = .ok (.goto 4, 3) := by decide +kernel
theorem dX4_gross_49 : decode cX4_gross 49 = .ok (.iconst 0, 1) := by decide +kernel
theorem dX4_gross_50 : decode cX4_gross 50 = .ok (.istore 7, 2) := by decide +kernel
theorem dX4_gross_52 : decode cX4_gross 52 = .ok (.iload 7, 2) := by decide +kernel
theorem dX4_gross_54 : decode cX4_gross 54 = .ok (.ifCond .eq 8, 3) := by decide +kernel
theorem dX4_gross_57 : decode cX4_gross 57 = .ok (.iload 6, 2) := by decide +kernel
theorem dX4_gross_59 : decode cX4_gross 59 = .ok (.goto 5, 3) := by decide +kernel
theorem dX4_gross_62 : decode cX4_gross 62 = .ok (.iload 5, 2) := by decide +kernel
theorem dX4_gross_64 : decode cX4_gross 64 = .ok (.istore 5, 2) := by decide +kernel
theorem dX4_gross_66 : decode cX4_gross 66 = .ok (.iload 7, 2) := by decide +kernel
theorem dX4_gross_68 : decode cX4_gross 68 = .ok (.ifCond .eq 8, 3) := by decide +kernel
theorem dX4_gross_71 : decode cX4_gross 71 = .ok (.iload 4, 2) := by decide +kernel
theorem dX4_gross_73 : decode cX4_gross 73 = .ok (.goto 5, 3) := by decide +kernel
theorem dX4_gross_76 : decode cX4_gross 76 = .ok (.iload 6, 2) := by decide +kernel
theorem dX4_gross_78 : decode cX4_gross 78 = .ok (.istore 4, 2) := by decide +kernel
theorem dX4_gross_80 : decode cX4_gross 80 = .ok (.goto (-73), 3) := by decide +kernel
theorem dX4_gross_83 : decode cX4_gross 83 = .ok (.iload 5, 2) := by decide +kernel
theorem dX4_gross_85 : decode cX4_gross 85 = .ok (.ireturn, 1) := by decide +kernel
set_option maxRecDepth 20000 in
theorem ggX4_setLimits_X4_isLand : GoodIn wsX4_setLimits wsX4_isLand := goodIn_r _ [8, 9, 10, 7, 11] (by decide +kernel) (by decide +kernel)
set_option maxRecDepth 20000 in
theorem gX4_setLimits_X4_isLand : GoodIn wsX4_setLimits (va_wsS RX4 71 yX4_isLand wsX4_isLand) := goodIn_app (goodIn_of _ (by decide +kernel)) ggX4_setLimits_X4_isLand
set_option maxRecDepth 20000 in
theorem ggX4_setLimits_X4_in : GoodIn wsX4_setLimits wsX4_in := goodIn_r _ [11] (by decide +kernel) (by decide +kernel)
set_option maxRecDepth 20000 in
theorem gX4_setLimits_X4_in : GoodIn wsX4_setLimits (va_wsS RX4 57 yX4_in wsX4_in) := goodIn_app (goodIn_of _ (by decide +kernel)) ggX4_setLimits_X4_in
theorem dX4_setLimits_0 : decode cX4_setLimits 0 = .ok (.aload_n 0, 1) := by decide +kernel
theorem dX4_setLimits_1 : decode cX4_setLimits 1 = .ok (.iload_n 1, 1) := by decide +kernel
theorem dX4_setLimits_2 : decode cX4_setLimits 2 = .ok (.invokestatic 71, 3) := by decide +kernel
theorem dX4_setLimits_5 : decode cX4_setLimits 5 = .ok (.ifCond .eq 27, 3) := by decide +kernel
theorem dX4_setLimits_8 : decode cX4_setLimits 8 = .ok (.iload_n 2, 1) := by decide +kernel
theorem dX4_setLimits_9 : decode cX4_setLimits 9 = .ok (.iconst 0, 1) := by decide +kernel
theorem dX4_setLimits_10 : decode cX4_setLimits 10 = .ok (.ldc 75, 2) := by decide +kernel
theorem dX4_setLimits_12 : decode cX4_setLimits 12 = .ok (.invokestatic 57, 3) := by decide +kernel
theorem dX4_setLimits_15 : decode cX4_setLimits 15 = .ok (.ifCond .eq 17, 3) := by decide +kernel
theorem dX4_setLimits_18 : decode cX4_setLimits 18 = .ok (.iload_n 3, 1) := by decide +kernel
theorem dX4_setLimits_19 : decode cX4_setLimits 19 = .ok (.iload_n 2, 1) := by decide +kernel
theorem dX4_setLimits_20 : decode cX4_setLimits 20 = .ok (.ldc 75, 2) := by decide +kernel
theorem dX4_setLimits_22 : decode cX4_setLimits 22 = .ok (.invokestatic 57, 3) := by decide +kernel
theorem dX4_setLimits_25 : decode cX4_setLimits 25 = .ok (.ifCond .eq 7, 3) := by decide +kernel
theorem dX4_setLimits_28 : decode cX4_setLimits 28 = .ok (.iconst 0, 1) := by decide +kernel
theorem dX4_setLimits_29 : decode cX4_setLimits 29 = .ok (.goto 4, 3) := by decide +kernel
theorem dX4_setLimits_32 : decode cX4_setLimits 32 = .ok (.iconst 1, 1) := by decide +kernel
theorem dX4_setLimits_33 : decode cX4_setLimits 33 = .ok (.putfield 53, 3) := by decide +kernel
theorem dX4_setLimits_36 : decode cX4_setLimits 36 = .ok (.aload_n 0, 1) := by decide +kernel
theorem dX4_setLimits_37 : decode cX4_setLimits 37 = .ok (.getfield 53, 3) := by decide +kernel
theorem dX4_setLimits_40 : decode cX4_setLimits 40 = .ok (.ifCond .ne 17, 3) := by decide +kernel
theorem dX4_setLimits_43 : decode cX4_setLimits 43 = .ok (.aload_n 0, 1) := by decide +kernel
theorem dX4_setLimits_44 : decode cX4_setLimits 44 = .ok (.getfield 7, 3) := by decide +kernel
theorem dX4_setLimits_47 : decode cX4_setLimits 47 = .ok (.iload_n 1, 1) := by decide +kernel
theorem dX4_setLimits_48 : decode cX4_setLimits 48 = .ok (.iload_n 2, 1) := by decide +kernel
theorem dX4_setLimits_49 : decode cX4_setLimits 49 = .ok (.iastore, 1) := by decide +kernel
theorem dX4_setLimits_50 : decode cX4_setLimits 50 = .ok (.aload_n 0, 1) := by decide +kernel
theorem dX4_setLimits_51 : decode cX4_setLimits 51 = .ok (.getfield 13, 3) := by decide +kernel
theorem dX4_setLimits_54 : decode cX4_setLimits 54 = .ok (.iload_n 1, 1) := by decide +kernel
theorem dX4_setLimits_55 : decode cX4_setLimits 55 = .ok (.iload_n 3, 1) := by decide +kernel
theorem dX4_setLimits_56 : decode cX4_setLimits 56 = .ok (.iastore, 1) := by decide +kernel
theorem dX4_setLimits_57 : decode cX4_setLimits 57 = .ok (.return_, 1) := by decide +kernel
set_option maxRecDepth 20000 in
theorem ggX4_setRates_X4_isLand : GoodIn wsX4_setRates wsX4_isLand := goodIn_r _ [6, 7, 8, 5, 9] (by decide +kernel) (by decide +kernel)
set_option maxRecDepth 20000 in
theorem gX4_setRates_X4_isLand : GoodIn wsX4_setRates (va_wsS RX4 71 yX4_isLand wsX4_isLand) := goodIn_app (goodIn_of _ (by decide +kernel)) ggX4_setRates_X4_isLand
set_option maxRecDepth 20000 in
theorem ggX4_setRates_X4_in : GoodIn wsX4_setRates wsX4_in := goodIn_r _ [9] (by decide +kernel) (by decide +kernel)
set_option maxRecDepth 20000 in
theorem gX4_setRates_X4_in : GoodIn wsX4_setRates (va_wsS RX4 57 yX4_in wsX4_in) := goodIn_app (goodIn_of _ (by decide +kernel)) ggX4_setRates_X4_in
theorem dX4_setRates_0 : decode cX4_setRates 0 = .ok (.aload_n 0, 1) := by decide +kernel
theorem dX4_setRates_1 : decode cX4_setRates 1 = .ok (.iload_n 1, 1) := by decide +kernel
theorem dX4_setRates_2 : decode cX4_setRates 2 = .ok (.invokestatic 71, 3) := by decide +kernel
theorem dX4_setRates_5 : decode cX4_setRates 5 = .ok (.ifCond .eq 38, 3) := by decide +kernel
theorem dX4_setRates_8 : decode cX4_setRates 8 = .ok (.iload_n 2, 1) := by decide +kernel
theorem dX4_setRates_9 : decode cX4_setRates 9 = .ok (.iconst 0, 1) := by decide +kernel
theorem dX4_setRates_10 : decode cX4_setRates 10 = .ok (.bipush 60, 2) := by decide +kernel
theorem dX4_setRates_12 : decode cX4_setRates 12 = .ok (.invokestatic 57, 3) := by decide +kernel
theorem dX4_setRates_15 : decode cX4_setRates 15 = .ok (.ifCond .eq 28, 3) := by decide +kernel
theorem dX4_setRates_18 : decode cX4_setRates 18 = .ok (.iload_n 3, 1) := by decide +kernel
theorem dX4_setRates_19 : decode cX4_setRates 19 = .ok (.iconst 0, 1) := by decide +kernel
theorem dX4_setRates_20 : decode cX4_setRates 20 = .ok (.bipush 60, 2) := by decide +kernel
theorem dX4_setRates_22 : decode cX4_setRates 22 = .ok (.invokestatic 57, 3) := by decide +kernel
theorem dX4_setRates_25 : decode cX4_setRates 25 = .ok (.ifCond .eq 18, 3) := by decide +kernel
theorem dX4_setRates_28 : decode cX4_setRates 28 = .ok (.iload 4, 2) := by decide +kernel
theorem dX4_setRates_30 : decode cX4_setRates 30 = .ok (.iconst 0, 1) := by decide +kernel
theorem dX4_setRates_31 : decode cX4_setRates 31 = .ok (.bipush 60, 2) := by decide +kernel
theorem dX4_setRates_33 : decode cX4_setRates 33 = .ok (.invokestatic 57, 3) := by decide +kernel
theorem dX4_setRates_36 : decode cX4_setRates 36 = .ok (.ifCond .eq 7, 3) := by decide +kernel
theorem dX4_setRates_39 : decode cX4_setRates 39 = .ok (.iconst 0, 1) := by decide +kernel
theorem dX4_setRates_40 : decode cX4_setRates 40 = .ok (.goto 4, 3) := by decide +kernel
theorem dX4_setRates_43 : decode cX4_setRates 43 = .ok (.iconst 1, 1) := by decide +kernel
theorem dX4_setRates_44 : decode cX4_setRates 44 = .ok (.putfield 53, 3) := by decide +kernel
theorem dX4_setRates_47 : decode cX4_setRates 47 = .ok (.aload_n 0, 1) := by decide +kernel
theorem dX4_setRates_48 : decode cX4_setRates 48 = .ok (.getfield 53, 3) := by decide +kernel
theorem dX4_setRates_51 : decode cX4_setRates 51 = .ok (.ifCond .ne 35, 3) := by decide +kernel
theorem dX4_setRates_54 : decode cX4_setRates 54 = .ok (.aload_n 0, 1) := by decide +kernel
theorem dX4_setRates_55 : decode cX4_setRates 55 = .ok (.getfield 16, 3) := by decide +kernel
theorem dX4_setRates_58 : decode cX4_setRates 58 = .ok (.iconst 3, 1) := by decide +kernel
theorem dX4_setRates_59 : decode cX4_setRates 59 = .ok (.iload_n 1, 1) := by decide +kernel
theorem dX4_setRates_60 : decode cX4_setRates 60 = .ok (.imul, 1) := by decide +kernel
theorem dX4_setRates_61 : decode cX4_setRates 61 = .ok (.iload_n 2, 1) := by decide +kernel
theorem dX4_setRates_62 : decode cX4_setRates 62 = .ok (.iastore, 1) := by decide +kernel
theorem dX4_setRates_63 : decode cX4_setRates 63 = .ok (.aload_n 0, 1) := by decide +kernel
theorem dX4_setRates_64 : decode cX4_setRates 64 = .ok (.getfield 16, 3) := by decide +kernel
theorem dX4_setRates_67 : decode cX4_setRates 67 = .ok (.iconst 3, 1) := by decide +kernel
theorem dX4_setRates_68 : decode cX4_setRates 68 = .ok (.iload_n 1, 1) := by decide +kernel
theorem dX4_setRates_69 : decode cX4_setRates 69 = .ok (.imul, 1) := by decide +kernel
theorem dX4_setRates_70 : decode cX4_setRates 70 = .ok (.iconst 1, 1) := by decide +kernel
theorem dX4_setRates_71 : decode cX4_setRates 71 = .ok (.iadd, 1) := by decide +kernel
theorem dX4_setRates_72 : decode cX4_setRates 72 = .ok (.iload_n 3, 1) := by decide +kernel
theorem dX4_setRates_73 : decode cX4_setRates 73 = .ok (.iastore, 1) := by decide +kernel
theorem dX4_setRates_74 : decode cX4_setRates 74 = .ok (.aload_n 0, 1) := by decide +kernel
theorem dX4_setRates_75 : decode cX4_setRates 75 = .ok (.getfield 16, 3) := by decide +kernel
theorem dX4_setRates_78 : decode cX4_setRates 78 = .ok (.iconst 3, 1) := by decide +kernel
theorem dX4_setRates_79 : decode cX4_setRates 79 = .ok (.iload_n 1, 1) := by decide +kernel
theorem dX4_setRates_80 : decode cX4_setRates 80 = .ok (.imul, 1) := by decide +kernel
theorem dX4_setRates_81 : decode cX4_setRates 81 = .ok (.iconst 2, 1) := by decide +kernel
theorem dX4_setRates_82 : decode cX4_setRates 82 = .ok (.iadd, 1) := by decide +kernel
theorem dX4_setRates_83 : decode cX4_setRates 83 = .ok (.iload 4, 2) := by decide +kernel
theorem dX4_setRates_85 : decode cX4_setRates 85 = .ok (.iastore, 1) := by decide +kernel
theorem dX4_setRates_86 : decode cX4_setRates 86 = .ok (.return_, 1) := by decide +kernel
set_option maxRecDepth 20000 in
theorem ggX4_tax_X4_isLand : GoodIn wsX4_tax wsX4_isLand := goodIn_r _ [6, 7, 8, 5, 9] (by decide +kernel) (by decide +kernel)
set_option maxRecDepth 20000 in
theorem gX4_tax_X4_isLand : GoodIn wsX4_tax (va_wsS RX4 71 yX4_isLand wsX4_isLand) := goodIn_app (goodIn_of _ (by decide +kernel)) ggX4_tax_X4_isLand
set_option maxRecDepth 20000 in
theorem ggX4_tax_X4_in : GoodIn wsX4_tax wsX4_in := goodIn_r _ [9] (by decide +kernel) (by decide +kernel)
set_option maxRecDepth 20000 in
theorem gX4_tax_X4_in : GoodIn wsX4_tax (va_wsS RX4 57 yX4_in wsX4_in) := goodIn_app (goodIn_of _ (by decide +kernel)) ggX4_tax_X4_in
set_option maxRecDepth 20000 in
theorem ggX4_tax_X4_taxOf : GoodIn wsX4_tax wsX4_taxOf := goodIn_r _ [13, 14, 15, 16, 17, 22, 23, 24, 25, 26, 27, 28, 29, 30, 31, 32, 33, 34, 35, 36, 37] (by decide +kernel) (by decide +kernel)
set_option maxRecDepth 20000 in
theorem gX4_tax_X4_taxOf : GoodIn wsX4_tax (wsV RX4 67 RX4 yX4_taxOf wsX4_taxOf) := goodIn_app (goodIn_of _ (by decide +kernel)) ggX4_tax_X4_taxOf
set_option maxRecDepth 20000 in
theorem ggX4_tax_X4_fails : GoodIn wsX4_tax wsX4_fails := goodIn_r _ [21, 1, 22, 23, 24, 25, 26, 27, 28, 29, 30, 31, 32, 33, 34, 35, 36, 37] (by decide +kernel) (by decide +kernel)
set_option maxRecDepth 20000 in
theorem gX4_tax_X4_fails : GoodIn wsX4_tax (wsV RX4 77 RX4 yX4_fails wsX4_fails) := goodIn_app (goodIn_of _ (by decide +kernel)) ggX4_tax_X4_fails
theorem dX4_tax_0 : decode cX4_tax 0 = .ok (.aload_n 0, 1) := by decide +kernel
theorem dX4_tax_1 : decode cX4_tax 1 = .ok (.iconst 0, 1) := by decide +kernel
theorem dX4_tax_2 : decode cX4_tax 2 = .ok (.putfield 53, 3) := by decide +kernel
theorem dX4_tax_5 : decode cX4_tax 5 = .ok (.iload_n 1, 1) := by decide +kernel
theorem dX4_tax_6 : decode cX4_tax 6 = .ok (.invokestatic 71, 3) := by decide +kernel
theorem dX4_tax_9 : decode cX4_tax 9 = .ok (.ifCond .eq 24, 3) := by decide +kernel
theorem dX4_tax_12 : decode cX4_tax 12 = .ok (.iload_n 2, 1) := by decide +kernel
theorem dX4_tax_13 : decode cX4_tax 13 = .ok (.iconst 0, 1) := by decide +kernel
theorem dX4_tax_14 : decode cX4_tax 14 = .ok (.ldc 76, 2) := by decide +kernel
theorem dX4_tax_16 : decode cX4_tax 16 = .ok (.invokestatic 57, 3) := by decide +kernel
theorem dX4_tax_19 : decode cX4_tax 19 = .ok (.ifCond .eq 14, 3) := by decide +kernel
theorem dX4_tax_22 : decode cX4_tax 22 = .ok (.aload_n 0, 1) := by decide +kernel
theorem dX4_tax_23 : decode cX4_tax 23 = .ok (.iload_n 1, 1) := by decide +kernel
theorem dX4_tax_24 : decode cX4_tax 24 = .ok (.iload_n 2, 1) := by decide +kernel
theorem dX4_tax_25 : decode cX4_tax 25 = .ok (.i2l, 1) := by decide +kernel
theorem dX4_tax_26 : decode cX4_tax 26 = .ok (.invokevirtual 67, 3) := by decide +kernel
theorem dX4_tax_29 : decode cX4_tax 29 = .ok (.l2i, 1) := by decide +kernel
theorem dX4_tax_30 : decode cX4_tax 30 = .ok (.goto 8, 3) := by decide +kernel
theorem dX4_tax_33 : decode cX4_tax 33 = .ok (.aload_n 0, 1) := by decide +kernel
theorem dX4_tax_34 : decode cX4_tax 34 = .ok (.iconst 1, 1) := by decide +kernel
theorem dX4_tax_35 : decode cX4_tax 35 = .ok (.invokevirtual 77, 3) := by decide +kernel
theorem dX4_tax_38 : decode cX4_tax 38 = .ok (.ireturn, 1) := by decide +kernel
set_option maxRecDepth 20000 in
theorem ggX4_grossTax_X4_isLand : GoodIn wsX4_grossTax wsX4_isLand := goodIn_r _ [6, 7, 8, 5, 9] (by decide +kernel) (by decide +kernel)
set_option maxRecDepth 20000 in
theorem gX4_grossTax_X4_isLand : GoodIn wsX4_grossTax (va_wsS RX4 71 yX4_isLand wsX4_isLand) := goodIn_app (goodIn_of _ (by decide +kernel)) ggX4_grossTax_X4_isLand
set_option maxRecDepth 20000 in
theorem ggX4_grossTax_X4_in : GoodIn wsX4_grossTax wsX4_in := goodIn_r _ [9] (by decide +kernel) (by decide +kernel)
set_option maxRecDepth 20000 in
theorem gX4_grossTax_X4_in : GoodIn wsX4_grossTax (va_wsS RX4 57 yX4_in wsX4_in) := goodIn_app (goodIn_of _ (by decide +kernel)) ggX4_grossTax_X4_in
set_option maxRecDepth 20000 in
theorem ggX4_grossTax_X4_gross : GoodIn wsX4_grossTax wsX4_gross := goodIn_r _ [13, 14, 15, 16, 17, 5, 18, 19, 20, 21, 22, 27, 28, 29, 30, 31, 32, 33, 34, 35, 36, 37, 38, 39, 40, 41, 42] (by decide +kernel) (by decide +kernel)
set_option maxRecDepth 20000 in
theorem gX4_grossTax_X4_gross : GoodIn wsX4_grossTax (wsV RX4 81 RX4 yX4_gross wsX4_gross) := goodIn_app (goodIn_of _ (by decide +kernel)) ggX4_grossTax_X4_gross
set_option maxRecDepth 20000 in
theorem ggX4_grossTax_X4_fails : GoodIn wsX4_grossTax wsX4_fails := goodIn_r _ [26, 1, 27, 28, 29, 30, 31, 32, 33, 34, 35, 36, 37, 38, 39, 40, 41, 42] (by decide +kernel) (by decide +kernel)
set_option maxRecDepth 20000 in
theorem gX4_grossTax_X4_fails : GoodIn wsX4_grossTax (wsV RX4 77 RX4 yX4_fails wsX4_fails) := goodIn_app (goodIn_of _ (by decide +kernel)) ggX4_grossTax_X4_fails
theorem dX4_grossTax_0 : decode cX4_grossTax 0 = .ok (.aload_n 0, 1) := by decide +kernel
theorem dX4_grossTax_1 : decode cX4_grossTax 1 = .ok (.iconst 0, 1) := by decide +kernel
theorem dX4_grossTax_2 : decode cX4_grossTax 2 = .ok (.putfield 53, 3) := by decide +kernel
theorem dX4_grossTax_5 : decode cX4_grossTax 5 = .ok (.iload_n 1, 1) := by decide +kernel
theorem dX4_grossTax_6 : decode cX4_grossTax 6 = .ok (.invokestatic 71, 3) := by decide +kernel
theorem dX4_grossTax_9 : decode cX4_grossTax 9 = .ok (.ifCond .eq 23, 3) := by decide +kernel
theorem dX4_grossTax_12 : decode cX4_grossTax 12 = .ok (.iload_n 2, 1) := by decide +kernel
theorem dX4_grossTax_13 : decode cX4_grossTax 13 = .ok (.iconst 0, 1) := by decide +kernel
theorem dX4_grossTax_14 : decode cX4_grossTax 14 = .ok (.ldc 76, 2) := by decide +kernel
theorem dX4_grossTax_16 : decode cX4_grossTax 16 = .ok (.invokestatic 57, 3) := by decide +kernel
theorem dX4_grossTax_19 : decode cX4_grossTax 19 = .ok (.ifCond .eq 13, 3) := by decide +kernel
theorem dX4_grossTax_22 : decode cX4_grossTax 22 = .ok (.aload_n 0, 1) := by decide +kernel
theorem dX4_grossTax_23 : decode cX4_grossTax 23 = .ok (.iload_n 1, 1) := by decide +kernel
theorem dX4_grossTax_24 : decode cX4_grossTax 24 = .ok (.iload_n 2, 1) := by decide +kernel
theorem dX4_grossTax_25 : decode cX4_grossTax 25 = .ok (.i2l, 1) := by decide +kernel
theorem dX4_grossTax_26 : decode cX4_grossTax 26 = .ok (.invokevirtual 81, 3) := by decide +kernel
theorem dX4_grossTax_29 : decode cX4_grossTax 29 = .ok (.goto 8, 3) := by decide +kernel
theorem dX4_grossTax_32 : decode cX4_grossTax 32 = .ok (.aload_n 0, 1) := by decide +kernel
theorem dX4_grossTax_33 : decode cX4_grossTax 33 = .ok (.iconst 1, 1) := by decide +kernel
theorem dX4_grossTax_34 : decode cX4_grossTax 34 = .ok (.invokevirtual 77, 3) := by decide +kernel
theorem dX4_grossTax_37 : decode cX4_grossTax 37 = .ok (.ireturn, 1) := by decide +kernel
set_option maxRecDepth 20000 in
theorem ggX4_grossTaxByTrying_X4_isLand : GoodIn wsX4_grossTaxByTrying wsX4_isLand := goodIn_r _ [5, 6, 7, 4, 8] (by decide +kernel) (by decide +kernel)
set_option maxRecDepth 20000 in
theorem gX4_grossTaxByTrying_X4_isLand : GoodIn wsX4_grossTaxByTrying (va_wsS RX4 71 yX4_isLand wsX4_isLand) := goodIn_app (goodIn_of _ (by decide +kernel)) ggX4_grossTaxByTrying_X4_isLand
set_option maxRecDepth 20000 in
theorem ggX4_grossTaxByTrying_X4_in : GoodIn wsX4_grossTaxByTrying wsX4_in := goodIn_r _ [8] (by decide +kernel) (by decide +kernel)
set_option maxRecDepth 20000 in
theorem gX4_grossTaxByTrying_X4_in : GoodIn wsX4_grossTaxByTrying (va_wsS RX4 57 yX4_in wsX4_in) := goodIn_app (goodIn_of _ (by decide +kernel)) ggX4_grossTaxByTrying_X4_in
set_option maxRecDepth 20000 in
theorem ggX4_grossTaxByTrying_X4_gross : GoodIn wsX4_grossTaxByTrying wsX4_gross := goodIn_r _ [12, 13, 14, 15, 16, 4, 17, 18, 19, 20, 21, 26, 27, 28, 29, 30, 31, 32, 33, 34, 35, 36, 37, 38, 39, 40, 41] (by decide +kernel) (by decide +kernel)
set_option maxRecDepth 20000 in
theorem gX4_grossTaxByTrying_X4_gross : GoodIn wsX4_grossTaxByTrying (wsV RX4 81 RX4 yX4_gross wsX4_gross) := goodIn_app (goodIn_of _ (by decide +kernel)) ggX4_grossTaxByTrying_X4_gross
set_option maxRecDepth 20000 in
theorem ggX4_grossTaxByTrying_X4_fails : GoodIn wsX4_grossTaxByTrying wsX4_fails := goodIn_r _ [25, 1, 26, 27, 28, 29, 30, 31, 32, 33, 34, 35, 36, 37, 38, 39, 40, 41] (by decide +kernel) (by decide +kernel)
set_option maxRecDepth 20000 in
theorem gX4_grossTaxByTrying_X4_fails : GoodIn wsX4_grossTaxByTrying (wsV RX4 77 RX4 yX4_fails wsX4_fails) := goodIn_app (goodIn_of _ (by decide +kernel)) ggX4_grossTaxByTrying_X4_fails
theorem dX4_grossTaxByTrying_0 : decode cX4_grossTaxByTrying 0 = .ok (.aload_n 0, 1) := by decide +kernel
theorem dX4_grossTaxByTrying_1 : decode cX4_grossTaxByTrying 1 = .ok (.iconst 0, 1) := by decide +kernel
theorem dX4_grossTaxByTrying_2 : decode cX4_grossTaxByTrying 2 = .ok (.putfield 53, 3) := by decide +kernel
theorem dX4_grossTaxByTrying_5 : decode cX4_grossTaxByTrying 5 = .ok (.iload_n 1, 1) := by decide +kernel
theorem dX4_grossTaxByTrying_6 : decode cX4_grossTaxByTrying 6 = .ok (.invokestatic 71, 3) := by decide +kernel
theorem dX4_grossTaxByTrying_9 : decode cX4_grossTaxByTrying 9 = .ok (.ifCond .eq 24, 3) := by decide +kernel
theorem dX4_grossTaxByTrying_12 : decode cX4_grossTaxByTrying 12 = .ok (.iload_n 2, 1) := by decide +kernel
theorem dX4_grossTaxByTrying_13 : decode cX4_grossTaxByTrying 13 = .ok (.iconst 0, 1) := by decide +kernel
theorem dX4_grossTaxByTrying_14 : decode cX4_grossTaxByTrying 14 = .ok (.sipush 20000, 3) := by decide +kernel
theorem dX4_grossTaxByTrying_17 : decode cX4_grossTaxByTrying 17 = .ok (.invokestatic 57, 3) := by decide +kernel
theorem dX4_grossTaxByTrying_20 : decode cX4_grossTaxByTrying 20 = .ok (.ifCond .eq 13, 3) := by decide +kernel
theorem dX4_grossTaxByTrying_23 : decode cX4_grossTaxByTrying 23 = .ok (.aload_n 0, 1) := by decide +kernel
theorem dX4_grossTaxByTrying_24 : decode cX4_grossTaxByTrying 24 = .ok (.iload_n 1, 1) := by decide +kernel
theorem dX4_grossTaxByTrying_25 : decode cX4_grossTaxByTrying 25 = .ok (.iload_n 2, 1) := by decide +kernel
theorem dX4_grossTaxByTrying_26 : decode cX4_grossTaxByTrying 26 = .ok (.i2l, 1) := by decide +kernel
theorem dX4_grossTaxByTrying_27 : decode cX4_grossTaxByTrying 27 = .ok (.invokevirtual 81, 3) := by decide +kernel
theorem dX4_grossTaxByTrying_30 : decode cX4_grossTaxByTrying 30 = .ok (.goto 8, 3) := by decide +kernel
theorem dX4_grossTaxByTrying_33 : decode cX4_grossTaxByTrying 33 = .ok (.aload_n 0, 1) := by decide +kernel
theorem dX4_grossTaxByTrying_34 : decode cX4_grossTaxByTrying 34 = .ok (.iconst 1, 1) := by decide +kernel
theorem dX4_grossTaxByTrying_35 : decode cX4_grossTaxByTrying 35 = .ok (.invokevirtual 77, 3) := by decide +kernel
theorem dX4_grossTaxByTrying_38 : decode cX4_grossTaxByTrying 38 = .ok (.ireturn, 1) := by decide +kernel
set_option maxRecDepth 20000 in
theorem ggX4_add_X4_isLand : GoodIn wsX4_add wsX4_isLand := goodIn_r _ [10, 11, 12, 9, 13] (by decide +kernel) (by decide +kernel)
set_option maxRecDepth 20000 in
theorem gX4_add_X4_isLand : GoodIn wsX4_add (va_wsS RX4 71 yX4_isLand wsX4_isLand) := goodIn_app (goodIn_of _ (by decide +kernel)) ggX4_add_X4_isLand
set_option maxRecDepth 20000 in
theorem ggX4_add_X4_in : GoodIn wsX4_add wsX4_in := goodIn_r _ [13] (by decide +kernel) (by decide +kernel)
set_option maxRecDepth 20000 in
theorem gX4_add_X4_in : GoodIn wsX4_add (va_wsS RX4 57 yX4_in wsX4_in) := goodIn_app (goodIn_of _ (by decide +kernel)) ggX4_add_X4_in
set_option maxRecDepth 20000 in
theorem ggX4_add_X4_fails : GoodIn wsX4_add wsX4_fails := goodIn_r _ [17, 1, 18, 19, 20, 21, 22, 23, 24, 25, 26, 27, 28, 29, 30, 31, 32, 33] (by decide +kernel) (by decide +kernel)
set_option maxRecDepth 20000 in
theorem gX4_add_X4_fails : GoodIn wsX4_add (wsV RX4 77 RX4 yX4_fails wsX4_fails) := goodIn_app (goodIn_of _ (by decide +kernel)) ggX4_add_X4_fails
theorem dX4_add_0 : decode cX4_add 0 = .ok (.aload_n 0, 1) := by decide +kernel
theorem dX4_add_1 : decode cX4_add 1 = .ok (.iconst 0, 1) := by decide +kernel
theorem dX4_add_2 : decode cX4_add 2 = .ok (.putfield 53, 3) := by decide +kernel
theorem dX4_add_5 : decode cX4_add 5 = .ok (.iload_n 1, 1) := by decide +kernel
theorem dX4_add_6 : decode cX4_add 6 = .ok (.invokestatic 71, 3) := by decide +kernel
theorem dX4_add_9 : decode cX4_add 9 = .ok (.ifCond .eq 25, 3) := by decide +kernel
theorem dX4_add_12 : decode cX4_add 12 = .ok (.iload_n 2, 1) := by decide +kernel
theorem dX4_add_13 : decode cX4_add 13 = .ok (.invokestatic 71, 3) := by decide +kernel
theorem dX4_add_16 : decode cX4_add 16 = .ok (.ifCond .eq 18, 3) := by decide +kernel
theorem dX4_add_19 : decode cX4_add 19 = .ok (.iload_n 3, 1) := by decide +kernel
theorem dX4_add_20 : decode cX4_add 20 = .ok (.iconst 0, 1) := by decide +kernel
theorem dX4_add_21 : decode cX4_add 21 = .ok (.ldc 85, 2) := by decide +kernel
theorem dX4_add_23 : decode cX4_add 23 = .ok (.invokestatic 57, 3) := by decide +kernel
theorem dX4_add_26 : decode cX4_add 26 = .ok (.ifCond .eq 8, 3) := by decide +kernel
theorem dX4_add_29 : decode cX4_add 29 = .ok (.iload_n 1, 1) := by decide +kernel
theorem dX4_add_30 : decode cX4_add 30 = .ok (.iload_n 2, 1) := by decide +kernel
theorem dX4_add_31 : decode cX4_add 31 = .ok (.if_icmp .ne 9, 3) := by decide +kernel
theorem dX4_add_34 : decode cX4_add 34 = .ok (.aload_n 0, 1) := by decide +kernel
theorem dX4_add_35 : decode cX4_add 35 = .ok (.iconst 1, 1) := by decide +kernel
theorem dX4_add_36 : decode cX4_add 36 = .ok (.invokevirtual 77, 3) := by decide +kernel
theorem dX4_add_39 : decode cX4_add 39 = .ok (.ireturn, 1) := by decide +kernel
theorem dX4_add_40 : decode cX4_add 40 = .ok (.aload_n 0, 1) := by decide +kernel
theorem dX4_add_41 : decode cX4_add 41 = .ok (.getfield 61, 3) := by decide +kernel
theorem dX4_add_44 : decode cX4_add 44 = .ok (.bipush 10, 2) := by decide +kernel
theorem dX4_add_46 : decode cX4_add 46 = .ok (.if_icmp .ne 9, 3) := by decide +kernel
theorem dX4_add_49 : decode cX4_add 49 = .ok (.aload_n 0, 1) := by decide +kernel
theorem dX4_add_50 : decode cX4_add 50 = .ok (.iconst 2, 1) := by decide +kernel
theorem dX4_add_51 : decode cX4_add 51 = .ok (.invokevirtual 77, 3) := by decide +kernel
theorem dX4_add_54 : decode cX4_add 54 = .ok (.ireturn, 1) := by decide +kernel
end
section
theorem dX4_add_55 : decode cX4_add 55 = .ok (.aload_n 0, 1) := by decide +kernel
theorem dX4_add_56 : decode cX4_add 56 = .ok (.getfield 19, 3) := by decide +kernel
theorem dX4_add_59 : decode cX4_add 59 = .ok (.aload_n 0, 1) := by decide +kernel
theorem dX4_add_60 : decode cX4_add 60 = .ok (.getfield 61, 3) := by decide +kernel
theorem dX4_add_63 : decode cX4_add 63 = .ok (.iload_n 1, 1) := by decide +kernel
theorem dX4_add_64 : decode cX4_add 64 = .ok (.iastore, 1) := by decide +kernel
theorem dX4_add_65 : decode cX4_add 65 = .ok (.aload_n 0, 1) := by decide +kernel
theorem dX4_add_66 : decode cX4_add 66 = .ok (.getfield 22, 3) := by decide +kernel
theorem dX4_add_69 : decode cX4_add 69 = .ok (.aload_n 0, 1) := by decide +kernel
theorem dX4_add_70 : decode cX4_add 70 = .ok (.getfield 61, 3) := by decide +kernel
theorem dX4_add_73 : decode cX4_add 73 = .ok (.iload_n 2, 1) := by decide +kernel
theorem dX4_add_74 : decode cX4_add 74 = .ok (.iastore, 1) := by decide +kernel
theorem dX4_add_75 : decode cX4_add 75 = .ok (.aload_n 0, 1) := by decide +kernel
theorem dX4_add_76 : decode cX4_add 76 = .ok (.getfield 25, 3) := by decide +kernel
theorem dX4_add_79 : decode cX4_add 79 = .ok (.aload_n 0, 1) := by decide +kernel
theorem dX4_add_80 : decode cX4_add 80 = .ok (.getfield 61, 3) := by decide +kernel
theorem dX4_add_83 : decode cX4_add 83 = .ok (.iload_n 3, 1) := by decide +kernel
theorem dX4_add_84 : decode cX4_add 84 = .ok (.iastore, 1) := by decide +kernel
theorem dX4_add_85 : decode cX4_add 85 = .ok (.aload_n 0, 1) := by decide +kernel
theorem dX4_add_86 : decode cX4_add 86 = .ok (.dup, 1) := by decide +kernel
theorem dX4_add_87 : decode cX4_add 87 = .ok (.getfield 61, 3) := by decide +kernel
theorem dX4_add_90 : decode cX4_add 90 = .ok (.iconst 1, 1) := by decide +kernel
theorem dX4_add_91 : decode cX4_add 91 = .ok (.iadd, 1) := by decide +kernel
theorem dX4_add_92 : decode cX4_add 92 = .ok (.putfield 61, 3) := by decide +kernel
theorem dX4_add_95 : decode cX4_add 95 = .ok (.aload_n 0, 1) := by decide +kernel
theorem dX4_add_96 : decode cX4_add 96 = .ok (.getfield 61, 3) := by decide +kernel
theorem dX4_add_99 : decode cX4_add 99 = .ok (.iconst 1, 1) := by decide +kernel
theorem dX4_add_100 : decode cX4_add 100 = .ok (.isub, 1) := by decide +kernel
theorem dX4_add_101 : decode cX4_add 101 = .ok (.ireturn, 1) := by decide +kernel
set_option maxRecDepth 20000 in
theorem ggX4_setAbroad_X4_isAsked : GoodIn wsX4_setAbroad wsX4_isAsked := goodIn_r _ [7, 8, 9, 10, 11, 6, 12, 17, 18, 19, 20, 21, 22, 23, 24, 25, 26, 27, 28, 29, 30, 31, 32] (by decide +kernel) (by decide +kernel)
set_option maxRecDepth 20000 in
theorem gX4_setAbroad_X4_isAsked : GoodIn wsX4_setAbroad (wsV RX4 86 RX4 yX4_isAsked wsX4_isAsked) := goodIn_app (goodIn_of _ (by decide +kernel)) ggX4_setAbroad_X4_isAsked
set_option maxRecDepth 20000 in
theorem ggX4_setAbroad_X4_in : GoodIn wsX4_setAbroad wsX4_in := goodIn_r _ [12] (by decide +kernel) (by decide +kernel)
set_option maxRecDepth 20000 in
theorem gX4_setAbroad_X4_in : GoodIn wsX4_setAbroad (va_wsS RX4 57 yX4_in wsX4_in) := goodIn_app (goodIn_of _ (by decide +kernel)) ggX4_setAbroad_X4_in
set_option maxRecDepth 20000 in
theorem ggX4_setAbroad_X4_fails : GoodIn wsX4_setAbroad wsX4_fails := goodIn_r _ [16, 9, 17, 18, 19, 20, 21, 22, 23, 24, 25, 26, 27, 28, 29, 30, 31, 32] (by decide +kernel) (by decide +kernel)
set_option maxRecDepth 20000 in
theorem gX4_setAbroad_X4_fails : GoodIn wsX4_setAbroad (wsV RX4 77 RX4 yX4_fails wsX4_fails) := goodIn_app (goodIn_of _ (by decide +kernel)) ggX4_setAbroad_X4_fails
theorem dX4_setAbroad_0 : decode cX4_setAbroad 0 = .ok (.aload_n 0, 1) := by decide +kernel
theorem dX4_setAbroad_1 : decode cX4_setAbroad 1 = .ok (.iload_n 1, 1) := by decide +kernel
theorem dX4_setAbroad_2 : decode cX4_setAbroad 2 = .ok (.invokevirtual 86, 3) := by decide +kernel
theorem dX4_setAbroad_5 : decode cX4_setAbroad 5 = .ok (.ifCond .ne 5, 3) := by decide +kernel
theorem dX4_setAbroad_8 : decode cX4_setAbroad 8 = .ok (.iconst 0, 1) := by decide +kernel
theorem dX4_setAbroad_9 : decode cX4_setAbroad 9 = .ok (.ireturn, 1) := by decide +kernel
theorem dX4_setAbroad_10 : decode cX4_setAbroad 10 = .ok (.iload_n 2, 1) := by decide +kernel
theorem dX4_setAbroad_11 : decode cX4_setAbroad 11 = .ok (.iconst 0, 1) := by decide +kernel
theorem dX4_setAbroad_12 : decode cX4_setAbroad 12 = .ok (.bipush 12, 2) := by decide +kernel
theorem dX4_setAbroad_14 : decode cX4_setAbroad 14 = .ok (.invokestatic 57, 3) := by decide +kernel
theorem dX4_setAbroad_17 : decode cX4_setAbroad 17 = .ok (.ifCond .eq 13, 3) := by decide +kernel
theorem dX4_setAbroad_20 : decode cX4_setAbroad 20 = .ok (.iload_n 3, 1) := by decide +kernel
theorem dX4_setAbroad_21 : decode cX4_setAbroad 21 = .ok (.iload_n 2, 1) := by decide +kernel
theorem dX4_setAbroad_22 : decode cX4_setAbroad 22 = .ok (.bipush 12, 2) := by decide +kernel
theorem dX4_setAbroad_24 : decode cX4_setAbroad 24 = .ok (.invokestatic 57, 3) := by decide +kernel
theorem dX4_setAbroad_27 : decode cX4_setAbroad 27 = .ok (.ifCond .ne 9, 3) := by decide +kernel
theorem dX4_setAbroad_30 : decode cX4_setAbroad 30 = .ok (.aload_n 0, 1) := by decide +kernel
theorem dX4_setAbroad_31 : decode cX4_setAbroad 31 = .ok (.iconst 2, 1) := by decide +kernel
theorem dX4_setAbroad_32 : decode cX4_setAbroad 32 = .ok (.invokevirtual 77, 3) := by decide +kernel
theorem dX4_setAbroad_35 : decode cX4_setAbroad 35 = .ok (.ireturn, 1) := by decide +kernel
theorem dX4_setAbroad_36 : decode cX4_setAbroad 36 = .ok (.aload_n 0, 1) := by decide +kernel
theorem dX4_setAbroad_37 : decode cX4_setAbroad 37 = .ok (.getfield 31, 3) := by decide +kernel
theorem dX4_setAbroad_40 : decode cX4_setAbroad 40 = .ok (.iload_n 1, 1) := by decide +kernel
theorem dX4_setAbroad_41 : decode cX4_setAbroad 41 = .ok (.iaload, 1) := by decide +kernel
theorem dX4_setAbroad_42 : decode cX4_setAbroad 42 = .ok (.aload_n 0, 1) := by decide +kernel
theorem dX4_setAbroad_43 : decode cX4_setAbroad 43 = .ok (.getfield 28, 3) := by decide +kernel
theorem dX4_setAbroad_46 : decode cX4_setAbroad 46 = .ok (.iload_n 1, 1) := by decide +kernel
theorem dX4_setAbroad_47 : decode cX4_setAbroad 47 = .ok (.iaload, 1) := by decide +kernel
theorem dX4_setAbroad_48 : decode cX4_setAbroad 48 = .ok (.isub, 1) := by decide +kernel
theorem dX4_setAbroad_49 : decode cX4_setAbroad 49 = .ok (.istore 4, 2) := by decide +kernel
theorem dX4_setAbroad_51 : decode cX4_setAbroad 51 = .ok (.aload_n 0, 1) := by decide +kernel
theorem dX4_setAbroad_52 : decode cX4_setAbroad 52 = .ok (.getfield 28, 3) := by decide +kernel
theorem dX4_setAbroad_55 : decode cX4_setAbroad 55 = .ok (.iload_n 1, 1) := by decide +kernel
theorem dX4_setAbroad_56 : decode cX4_setAbroad 56 = .ok (.iload_n 2, 1) := by decide +kernel
theorem dX4_setAbroad_57 : decode cX4_setAbroad 57 = .ok (.iastore, 1) := by decide +kernel
theorem dX4_setAbroad_58 : decode cX4_setAbroad 58 = .ok (.aload_n 0, 1) := by decide +kernel
theorem dX4_setAbroad_59 : decode cX4_setAbroad 59 = .ok (.getfield 31, 3) := by decide +kernel
theorem dX4_setAbroad_62 : decode cX4_setAbroad 62 = .ok (.iload_n 1, 1) := by decide +kernel
theorem dX4_setAbroad_63 : decode cX4_setAbroad 63 = .ok (.iload_n 3, 1) := by decide +kernel
theorem dX4_setAbroad_64 : decode cX4_setAbroad 64 = .ok (.iastore, 1) := by decide +kernel
theorem dX4_setAbroad_65 : decode cX4_setAbroad 65 = .ok (.iload 4, 2) := by decide +kernel
theorem dX4_setAbroad_67 : decode cX4_setAbroad 67 = .ok (.ireturn, 1) := by decide +kernel
set_option maxRecDepth 20000 in
theorem ggX4_setPay_X4_isAsked : GoodIn wsX4_setPay wsX4_isAsked := goodIn_r _ [7, 8, 9, 10, 11, 6, 12, 17, 18, 19, 20, 21, 22, 23, 24, 25, 26, 27, 28, 29, 30, 31, 32] (by decide +kernel) (by decide +kernel)
set_option maxRecDepth 20000 in
theorem gX4_setPay_X4_isAsked : GoodIn wsX4_setPay (wsV RX4 86 RX4 yX4_isAsked wsX4_isAsked) := goodIn_app (goodIn_of _ (by decide +kernel)) ggX4_setPay_X4_isAsked
set_option maxRecDepth 20000 in
theorem ggX4_setPay_X4_in : GoodIn wsX4_setPay wsX4_in := goodIn_r _ [12] (by decide +kernel) (by decide +kernel)
set_option maxRecDepth 20000 in
theorem gX4_setPay_X4_in : GoodIn wsX4_setPay (va_wsS RX4 57 yX4_in wsX4_in) := goodIn_app (goodIn_of _ (by decide +kernel)) ggX4_setPay_X4_in
set_option maxRecDepth 20000 in
theorem ggX4_setPay_X4_fails : GoodIn wsX4_setPay wsX4_fails := goodIn_r _ [16, 9, 17, 18, 19, 20, 21, 22, 23, 24, 25, 26, 27, 28, 29, 30, 31, 32] (by decide +kernel) (by decide +kernel)
set_option maxRecDepth 20000 in
theorem gX4_setPay_X4_fails : GoodIn wsX4_setPay (wsV RX4 77 RX4 yX4_fails wsX4_fails) := goodIn_app (goodIn_of _ (by decide +kernel)) ggX4_setPay_X4_fails
theorem dX4_setPay_0 : decode cX4_setPay 0 = .ok (.aload_n 0, 1) := by decide +kernel
theorem dX4_setPay_1 : decode cX4_setPay 1 = .ok (.iload_n 1, 1) := by decide +kernel
theorem dX4_setPay_2 : decode cX4_setPay 2 = .ok (.invokevirtual 86, 3) := by decide +kernel
theorem dX4_setPay_5 : decode cX4_setPay 5 = .ok (.ifCond .ne 5, 3) := by decide +kernel
theorem dX4_setPay_8 : decode cX4_setPay 8 = .ok (.iconst 0, 1) := by decide +kernel
theorem dX4_setPay_9 : decode cX4_setPay 9 = .ok (.ireturn, 1) := by decide +kernel
theorem dX4_setPay_10 : decode cX4_setPay 10 = .ok (.iload_n 2, 1) := by decide +kernel
theorem dX4_setPay_11 : decode cX4_setPay 11 = .ok (.iconst 0, 1) := by decide +kernel
theorem dX4_setPay_12 : decode cX4_setPay 12 = .ok (.ldc 85, 2) := by decide +kernel
theorem dX4_setPay_14 : decode cX4_setPay 14 = .ok (.invokestatic 57, 3) := by decide +kernel
theorem dX4_setPay_17 : decode cX4_setPay 17 = .ok (.ifCond .ne 9, 3) := by decide +kernel
theorem dX4_setPay_20 : decode cX4_setPay 20 = .ok (.aload_n 0, 1) := by decide +kernel
theorem dX4_setPay_21 : decode cX4_setPay 21 = .ok (.iconst 2, 1) := by decide +kernel
theorem dX4_setPay_22 : decode cX4_setPay 22 = .ok (.invokevirtual 77, 3) := by decide +kernel
theorem dX4_setPay_25 : decode cX4_setPay 25 = .ok (.ireturn, 1) := by decide +kernel
theorem dX4_setPay_26 : decode cX4_setPay 26 = .ok (.aload_n 0, 1) := by decide +kernel
theorem dX4_setPay_27 : decode cX4_setPay 27 = .ok (.getfield 25, 3) := by decide +kernel
theorem dX4_setPay_30 : decode cX4_setPay 30 = .ok (.iload_n 1, 1) := by decide +kernel
theorem dX4_setPay_31 : decode cX4_setPay 31 = .ok (.iaload, 1) := by decide +kernel
theorem dX4_setPay_32 : decode cX4_setPay 32 = .ok (.istore_n 3, 1) := by decide +kernel
theorem dX4_setPay_33 : decode cX4_setPay 33 = .ok (.aload_n 0, 1) := by decide +kernel
theorem dX4_setPay_34 : decode cX4_setPay 34 = .ok (.getfield 25, 3) := by decide +kernel
theorem dX4_setPay_37 : decode cX4_setPay 37 = .ok (.iload_n 1, 1) := by decide +kernel
theorem dX4_setPay_38 : decode cX4_setPay 38 = .ok (.iload_n 2, 1) := by decide +kernel
theorem dX4_setPay_39 : decode cX4_setPay 39 = .ok (.iastore, 1) := by decide +kernel
theorem dX4_setPay_40 : decode cX4_setPay 40 = .ok (.iload_n 3, 1) := by decide +kernel
theorem dX4_setPay_41 : decode cX4_setPay 41 = .ok (.ireturn, 1) := by decide +kernel
theorem dX4_own_0 : decode cX4_own 0 = .ok (.aload_n 0, 1) := by decide +kernel
theorem dX4_own_1 : decode cX4_own 1 = .ok (.getfield 25, 3) := by decide +kernel
theorem dX4_own_4 : decode cX4_own 4 = .ok (.iload_n 1, 1) := by decide +kernel
theorem dX4_own_5 : decode cX4_own 5 = .ok (.iaload, 1) := by decide +kernel
theorem dX4_own_6 : decode cX4_own 6 = .ok (.aload_n 0, 1) := by decide +kernel
theorem dX4_own_7 : decode cX4_own 7 = .ok (.getfield 37, 3) := by decide +kernel
theorem dX4_own_10 : decode cX4_own 10 = .ok (.iload_n 1, 1) := by decide +kernel
theorem dX4_own_11 : decode cX4_own 11 = .ok (.iaload, 1) := by decide +kernel
theorem dX4_own_12 : decode cX4_own 12 = .ok (.imul, 1) := by decide +kernel
theorem dX4_own_13 : decode cX4_own 13 = .ok (.bipush 100, 2) := by decide +kernel
theorem dX4_own_15 : decode cX4_own 15 = .ok (.idiv, 1) := by decide +kernel
theorem dX4_own_16 : decode cX4_own 16 = .ok (.istore_n 2, 1) := by decide +kernel
theorem dX4_own_17 : decode cX4_own 17 = .ok (.iload_n 2, 1) := by decide +kernel
theorem dX4_own_18 : decode cX4_own 18 = .ok (.aload_n 0, 1) := by decide +kernel
theorem dX4_own_19 : decode cX4_own 19 = .ok (.getfield 34, 3) := by decide +kernel
theorem dX4_own_22 : decode cX4_own 22 = .ok (.iload_n 1, 1) := by decide +kernel
theorem dX4_own_23 : decode cX4_own 23 = .ok (.iaload, 1) := by decide +kernel
theorem dX4_own_24 : decode cX4_own 24 = .ok (.if_icmp .ge 7, 3) := by decide +kernel
theorem dX4_own_27 : decode cX4_own 27 = .ok (.iload_n 2, 1) := by decide +kernel
theorem dX4_own_28 : decode cX4_own 28 = .ok (.goto 9, 3) := by decide +kernel
theorem dX4_own_31 : decode cX4_own 31 = .ok (.aload_n 0, 1) := by decide +kernel
theorem dX4_own_32 : decode cX4_own 32 = .ok (.getfield 34, 3) := by decide +kernel
theorem dX4_own_35 : decode cX4_own 35 = .ok (.iload_n 1, 1) := by decide +kernel
theorem dX4_own_36 : decode cX4_own 36 = .ok (.iaload, 1) := by decide +kernel
theorem dX4_own_37 : decode cX4_own 37 = .ok (.ireturn, 1) := by decide +kernel
set_option maxRecDepth 20000 in
theorem ggX4_setHousing_X4_isAsked : GoodIn wsX4_setHousing wsX4_isAsked := goodIn_r _ [8, 9, 10, 11, 12, 7, 13, 23, 24, 25, 26, 27, 28, 29, 30, 31, 32, 33, 34, 35, 36, 37, 38] (by decide +kernel) (by decide +kernel)
set_option maxRecDepth 20000 in
theorem gX4_setHousing_X4_isAsked : GoodIn wsX4_setHousing (wsV RX4 86 RX4 yX4_isAsked wsX4_isAsked) := goodIn_app (goodIn_of _ (by decide +kernel)) ggX4_setHousing_X4_isAsked
set_option maxRecDepth 20000 in
theorem ggX4_setHousing_X4_in : GoodIn wsX4_setHousing wsX4_in := goodIn_r _ [13] (by decide +kernel) (by decide +kernel)
set_option maxRecDepth 20000 in
theorem gX4_setHousing_X4_in : GoodIn wsX4_setHousing (va_wsS RX4 57 yX4_in wsX4_in) := goodIn_app (goodIn_of _ (by decide +kernel)) ggX4_setHousing_X4_in
set_option maxRecDepth 20000 in
theorem ggX4_setHousing_X4_fails : GoodIn wsX4_setHousing wsX4_fails := goodIn_r _ [17, 10, 23, 24, 25, 26, 27, 28, 29, 30, 31, 32, 33, 34, 35, 36, 37, 38] (by decide +kernel) (by decide +kernel)
set_option maxRecDepth 20000 in
theorem gX4_setHousing_X4_fails : GoodIn wsX4_setHousing (wsV RX4 77 RX4 yX4_fails wsX4_fails) := goodIn_app (goodIn_of _ (by decide +kernel)) ggX4_setHousing_X4_fails
set_option maxRecDepth 20000 in
theorem ggX4_setHousing_X4_own : GoodIn wsX4_setHousing wsX4_own := goodIn_r _ [21, 22, 3, 2, 23, 24, 25, 26, 27, 28, 29, 30, 31, 32, 33, 34, 35, 36, 37, 38] (by decide +kernel) (by decide +kernel)
set_option maxRecDepth 20000 in
theorem gX4_setHousing_X4_own : GoodIn wsX4_setHousing (wsV RX4 90 RX4 yX4_own wsX4_own) := goodIn_app (goodIn_of _ (by decide +kernel)) ggX4_setHousing_X4_own
theorem dX4_setHousing_0 : decode cX4_setHousing 0 = .ok (.aload_n 0, 1) := by decide +kernel
theorem dX4_setHousing_1 : decode cX4_setHousing 1 = .ok (.iload_n 1, 1) := by decide +kernel
theorem dX4_setHousing_2 : decode cX4_setHousing 2 = .ok (.invokevirtual 86, 3) := by decide +kernel
theorem dX4_setHousing_5 : decode cX4_setHousing 5 = .ok (.ifCond .ne 5, 3) := by decide +kernel
theorem dX4_setHousing_8 : decode cX4_setHousing 8 = .ok (.iconst 0, 1) := by decide +kernel
theorem dX4_setHousing_9 : decode cX4_setHousing 9 = .ok (.ireturn, 1) := by decide +kernel
theorem dX4_setHousing_10 : decode cX4_setHousing 10 = .ok (.iload_n 2, 1) := by decide +kernel
theorem dX4_setHousing_11 : decode cX4_setHousing 11 = .ok (.iconst 0, 1) := by decide +kernel
theorem dX4_setHousing_12 : decode cX4_setHousing 12 = .ok (.ldc 89, 2) := by decide +kernel
theorem dX4_setHousing_14 : decode cX4_setHousing 14 = .ok (.invokestatic 57, 3) := by decide +kernel
theorem dX4_setHousing_17 : decode cX4_setHousing 17 = .ok (.ifCond .eq 13, 3) := by decide +kernel
theorem dX4_setHousing_20 : decode cX4_setHousing 20 = .ok (.iload_n 3, 1) := by decide +kernel
theorem dX4_setHousing_21 : decode cX4_setHousing 21 = .ok (.iconst 0, 1) := by decide +kernel
theorem dX4_setHousing_22 : decode cX4_setHousing 22 = .ok (.bipush 40, 2) := by decide +kernel
theorem dX4_setHousing_24 : decode cX4_setHousing 24 = .ok (.invokestatic 57, 3) := by decide +kernel
theorem dX4_setHousing_27 : decode cX4_setHousing 27 = .ok (.ifCond .ne 9, 3) := by decide +kernel
theorem dX4_setHousing_30 : decode cX4_setHousing 30 = .ok (.aload_n 0, 1) := by decide +kernel
theorem dX4_setHousing_31 : decode cX4_setHousing 31 = .ok (.iconst 2, 1) := by decide +kernel
theorem dX4_setHousing_32 : decode cX4_setHousing 32 = .ok (.invokevirtual 77, 3) := by decide +kernel
theorem dX4_setHousing_35 : decode cX4_setHousing 35 = .ok (.ireturn, 1) := by decide +kernel
theorem dX4_setHousing_36 : decode cX4_setHousing 36 = .ok (.aload_n 0, 1) := by decide +kernel
theorem dX4_setHousing_37 : decode cX4_setHousing 37 = .ok (.getfield 34, 3) := by decide +kernel
theorem dX4_setHousing_40 : decode cX4_setHousing 40 = .ok (.iload_n 1, 1) := by decide +kernel
theorem dX4_setHousing_41 : decode cX4_setHousing 41 = .ok (.iload_n 2, 1) := by decide +kernel
theorem dX4_setHousing_42 : decode cX4_setHousing 42 = .ok (.iastore, 1) := by decide +kernel
theorem dX4_setHousing_43 : decode cX4_setHousing 43 = .ok (.aload_n 0, 1) := by decide +kernel
theorem dX4_setHousing_44 : decode cX4_setHousing 44 = .ok (.getfield 37, 3) := by decide +kernel
theorem dX4_setHousing_47 : decode cX4_setHousing 47 = .ok (.iload_n 1, 1) := by decide +kernel
theorem dX4_setHousing_48 : decode cX4_setHousing 48 = .ok (.iload_n 3, 1) := by decide +kernel
theorem dX4_setHousing_49 : decode cX4_setHousing 49 = .ok (.iastore, 1) := by decide +kernel
theorem dX4_setHousing_50 : decode cX4_setHousing 50 = .ok (.aload_n 0, 1) := by decide +kernel
theorem dX4_setHousing_51 : decode cX4_setHousing 51 = .ok (.iload_n 1, 1) := by decide +kernel
theorem dX4_setHousing_52 : decode cX4_setHousing 52 = .ok (.invokevirtual 90, 3) := by decide +kernel
theorem dX4_setHousing_55 : decode cX4_setHousing 55 = .ok (.ireturn, 1) := by decide +kernel
set_option maxRecDepth 20000 in
theorem ggX4_addBonus_X4_isAsked : GoodIn wsX4_addBonus wsX4_isAsked := goodIn_r _ [10, 11, 12, 13, 14, 9, 15, 20, 21, 22, 23, 24, 25, 26, 27, 28, 29, 30, 31, 32, 33, 34, 35] (by decide +kernel) (by decide +kernel)
set_option maxRecDepth 20000 in
theorem gX4_addBonus_X4_isAsked : GoodIn wsX4_addBonus (wsV RX4 86 RX4 yX4_isAsked wsX4_isAsked) := goodIn_app (goodIn_of _ (by decide +kernel)) ggX4_addBonus_X4_isAsked
set_option maxRecDepth 20000 in
theorem ggX4_addBonus_X4_in : GoodIn wsX4_addBonus wsX4_in := goodIn_r _ [15] (by decide +kernel) (by decide +kernel)
set_option maxRecDepth 20000 in
theorem gX4_addBonus_X4_in : GoodIn wsX4_addBonus (va_wsS RX4 57 yX4_in wsX4_in) := goodIn_app (goodIn_of _ (by decide +kernel)) ggX4_addBonus_X4_in
set_option maxRecDepth 20000 in
theorem ggX4_addBonus_X4_fails : GoodIn wsX4_addBonus wsX4_fails := goodIn_r _ [19, 12, 20, 21, 22, 23, 24, 25, 26, 27, 28, 29, 30, 31, 32, 33, 34, 35] (by decide +kernel) (by decide +kernel)
set_option maxRecDepth 20000 in
theorem gX4_addBonus_X4_fails : GoodIn wsX4_addBonus (wsV RX4 77 RX4 yX4_fails wsX4_fails) := goodIn_app (goodIn_of _ (by decide +kernel)) ggX4_addBonus_X4_fails
theorem dX4_addBonus_0 : decode cX4_addBonus 0 = .ok (.aload_n 0, 1) := by decide +kernel
theorem dX4_addBonus_1 : decode cX4_addBonus 1 = .ok (.iload_n 1, 1) := by decide +kernel
theorem dX4_addBonus_2 : decode cX4_addBonus 2 = .ok (.invokevirtual 86, 3) := by decide +kernel
theorem dX4_addBonus_5 : decode cX4_addBonus 5 = .ok (.ifCond .ne 5, 3) := by decide +kernel
theorem dX4_addBonus_8 : decode cX4_addBonus 8 = .ok (.iconst 0, 1) := by decide +kernel
theorem dX4_addBonus_9 : decode cX4_addBonus 9 = .ok (.ireturn, 1) := by decide +kernel
theorem dX4_addBonus_10 : decode cX4_addBonus 10 = .ok (.iload_n 2, 1) := by decide +kernel
theorem dX4_addBonus_11 : decode cX4_addBonus 11 = .ok (.iconst 1, 1) := by decide +kernel
theorem dX4_addBonus_12 : decode cX4_addBonus 12 = .ok (.ldc 93, 2) := by decide +kernel
theorem dX4_addBonus_14 : decode cX4_addBonus 14 = .ok (.invokestatic 57, 3) := by decide +kernel
theorem dX4_addBonus_17 : decode cX4_addBonus 17 = .ok (.ifCond .eq 26, 3) := by decide +kernel
theorem dX4_addBonus_20 : decode cX4_addBonus 20 = .ok (.iload_n 3, 1) := by decide +kernel
theorem dX4_addBonus_21 : decode cX4_addBonus 21 = .ok (.iconst 0, 1) := by decide +kernel
theorem dX4_addBonus_22 : decode cX4_addBonus 22 = .ok (.bipush 11, 2) := by decide +kernel
theorem dX4_addBonus_24 : decode cX4_addBonus 24 = .ok (.invokestatic 57, 3) := by decide +kernel
theorem dX4_addBonus_27 : decode cX4_addBonus 27 = .ok (.ifCond .eq 16, 3) := by decide +kernel
theorem dX4_addBonus_30 : decode cX4_addBonus 30 = .ok (.iload 4, 2) := by decide +kernel
theorem dX4_addBonus_32 : decode cX4_addBonus 32 = .ok (.iload_n 3, 1) := by decide +kernel
theorem dX4_addBonus_33 : decode cX4_addBonus 33 = .ok (.iconst 1, 1) := by decide +kernel
theorem dX4_addBonus_34 : decode cX4_addBonus 34 = .ok (.iadd, 1) := by decide +kernel
theorem dX4_addBonus_35 : decode cX4_addBonus 35 = .ok (.bipush 12, 2) := by decide +kernel
theorem dX4_addBonus_37 : decode cX4_addBonus 37 = .ok (.invokestatic 57, 3) := by decide +kernel
theorem dX4_addBonus_40 : decode cX4_addBonus 40 = .ok (.ifCond .ne 9, 3) := by decide +kernel
theorem dX4_addBonus_43 : decode cX4_addBonus 43 = .ok (.aload_n 0, 1) := by decide +kernel
theorem dX4_addBonus_44 : decode cX4_addBonus 44 = .ok (.iconst 2, 1) := by decide +kernel
theorem dX4_addBonus_45 : decode cX4_addBonus 45 = .ok (.invokevirtual 77, 3) := by decide +kernel
theorem dX4_addBonus_48 : decode cX4_addBonus 48 = .ok (.ireturn, 1) := by decide +kernel
theorem dX4_addBonus_49 : decode cX4_addBonus 49 = .ok (.aload_n 0, 1) := by decide +kernel
theorem dX4_addBonus_50 : decode cX4_addBonus 50 = .ok (.getfield 40, 3) := by decide +kernel
theorem dX4_addBonus_53 : decode cX4_addBonus 53 = .ok (.iload_n 1, 1) := by decide +kernel
theorem dX4_addBonus_54 : decode cX4_addBonus 54 = .ok (.iaload, 1) := by decide +kernel
theorem dX4_addBonus_55 : decode cX4_addBonus 55 = .ok (.bipush 6, 2) := by decide +kernel
theorem dX4_addBonus_57 : decode cX4_addBonus 57 = .ok (.if_icmp .ne 9, 3) := by decide +kernel
theorem dX4_addBonus_60 : decode cX4_addBonus 60 = .ok (.aload_n 0, 1) := by decide +kernel
theorem dX4_addBonus_61 : decode cX4_addBonus 61 = .ok (.iconst 3, 1) := by decide +kernel
theorem dX4_addBonus_62 : decode cX4_addBonus 62 = .ok (.invokevirtual 77, 3) := by decide +kernel
theorem dX4_addBonus_65 : decode cX4_addBonus 65 = .ok (.ireturn, 1) := by decide +kernel
theorem dX4_addBonus_66 : decode cX4_addBonus 66 = .ok (.bipush 6, 2) := by decide +kernel
theorem dX4_addBonus_68 : decode cX4_addBonus 68 = .ok (.iload_n 1, 1) := by decide +kernel
theorem dX4_addBonus_69 : decode cX4_addBonus 69 = .ok (.imul, 1) := by decide +kernel
theorem dX4_addBonus_70 : decode cX4_addBonus 70 = .ok (.aload_n 0, 1) := by decide +kernel
theorem dX4_addBonus_71 : decode cX4_addBonus 71 = .ok (.getfield 40, 3) := by decide +kernel
theorem dX4_addBonus_74 : decode cX4_addBonus 74 = .ok (.iload_n 1, 1) := by decide +kernel
theorem dX4_addBonus_75 : decode cX4_addBonus 75 = .ok (.iaload, 1) := by decide +kernel
theorem dX4_addBonus_76 : decode cX4_addBonus 76 = .ok (.iadd, 1) := by decide +kernel
theorem dX4_addBonus_77 : decode cX4_addBonus 77 = .ok (.istore 5, 2) := by decide +kernel
theorem dX4_addBonus_79 : decode cX4_addBonus 79 = .ok (.aload_n 0, 1) := by decide +kernel
theorem dX4_addBonus_80 : decode cX4_addBonus 80 = .ok (.getfield 43, 3) := by decide +kernel
theorem dX4_addBonus_83 : decode cX4_addBonus 83 = .ok (.iload 5, 2) := by decide +kernel
theorem dX4_addBonus_85 : decode cX4_addBonus 85 = .ok (.iload_n 2, 1) := by decide +kernel
theorem dX4_addBonus_86 : decode cX4_addBonus 86 = .ok (.iastore, 1) := by decide +kernel
theorem dX4_addBonus_87 : decode cX4_addBonus 87 = .ok (.aload_n 0, 1) := by decide +kernel
theorem dX4_addBonus_88 : decode cX4_addBonus 88 = .ok (.getfield 46, 3) := by decide +kernel
theorem dX4_addBonus_91 : decode cX4_addBonus 91 = .ok (.iload 5, 2) := by decide +kernel
theorem dX4_addBonus_93 : decode cX4_addBonus 93 = .ok (.iload_n 3, 1) := by decide +kernel
theorem dX4_addBonus_94 : decode cX4_addBonus 94 = .ok (.iastore, 1) := by decide +kernel
theorem dX4_addBonus_95 : decode cX4_addBonus 95 = .ok (.aload_n 0, 1) := by decide +kernel
theorem dX4_addBonus_96 : decode cX4_addBonus 96 = .ok (.getfield 49, 3) := by decide +kernel
theorem dX4_addBonus_99 : decode cX4_addBonus 99 = .ok (.iload 5, 2) := by decide +kernel
theorem dX4_addBonus_101 : decode cX4_addBonus 101 = .ok (.iload 4, 2) := by decide +kernel
theorem dX4_addBonus_103 : decode cX4_addBonus 103 = .ok (.iastore, 1) := by decide +kernel
theorem dX4_addBonus_104 : decode cX4_addBonus 104 = .ok (.aload_n 0, 1) := by decide +kernel
theorem dX4_addBonus_105 : decode cX4_addBonus 105 = .ok (.getfield 40, 3) := by decide +kernel
theorem dX4_addBonus_108 : decode cX4_addBonus 108 = .ok (.iload_n 1, 1) := by decide +kernel
theorem dX4_addBonus_109 : decode cX4_addBonus 109 = .ok (.dup2, 1) := by decide +kernel
theorem dX4_addBonus_110 : decode cX4_addBonus 110 = .ok (.iaload, 1) := by decide +kernel
theorem dX4_addBonus_111 : decode cX4_addBonus 111 = .ok (.iconst 1, 1) := by decide +kernel
theorem dX4_addBonus_112 : decode cX4_addBonus 112 = .ok (.iadd, 1) := by decide +kernel
theorem dX4_addBonus_113 : decode cX4_addBonus 113 = .ok (.iastore, 1) := by decide +kernel
theorem dX4_addBonus_114 : decode cX4_addBonus 114 = .ok (.aload_n 0, 1) := by decide +kernel
theorem dX4_addBonus_115 : decode cX4_addBonus 115 = .ok (.getfield 40, 3) := by decide +kernel
theorem dX4_addBonus_118 : decode cX4_addBonus 118 = .ok (.iload_n 1, 1) := by decide +kernel
theorem dX4_addBonus_119 : decode cX4_addBonus 119 = .ok (.iaload, 1) := by decide +kernel
theorem dX4_addBonus_120 : decode cX4_addBonus 120 = .ok (.iconst 1, 1) := by decide +kernel
theorem dX4_addBonus_121 : decode cX4_addBonus 121 = .ok (.isub, 1) := by decide +kernel
theorem dX4_addBonus_122 : decode cX4_addBonus 122 = .ok (.ireturn, 1) := by decide +kernel
theorem dX4_people_0 : decode cX4_people 0 = .ok (.aload_n 0, 1) := by decide +kernel
theorem dX4_people_1 : decode cX4_people 1 = .ok (.iconst 0, 1) := by decide +kernel
theorem dX4_people_2 : decode cX4_people 2 = .ok (.putfield 53, 3) := by decide +kernel
theorem dX4_people_5 : decode cX4_people 5 = .ok (.aload_n 0, 1) := by decide +kernel
theorem dX4_people_6 : decode cX4_people 6 = .ok (.getfield 61, 3) := by decide +kernel
theorem dX4_people_9 : decode cX4_people 9 = .ok (.ireturn, 1) := by decide +kernel
theorem dX4_part_0 : decode cX4_part 0 = .ok (.bipush 6, 2) := by decide +kernel
theorem dX4_part_2 : decode cX4_part 2 = .ok (.iload_n 1, 1) := by decide +kernel
theorem dX4_part_3 : decode cX4_part 3 = .ok (.imul, 1) := by decide +kernel
theorem dX4_part_4 : decode cX4_part 4 = .ok (.iload_n 2, 1) := by decide +kernel
theorem dX4_part_5 : decode cX4_part 5 = .ok (.iadd, 1) := by decide +kernel
theorem dX4_part_6 : decode cX4_part 6 = .ok (.istore_n 3, 1) := by decide +kernel
theorem dX4_part_7 : decode cX4_part 7 = .ok (.iconst 0, 1) := by decide +kernel
theorem dX4_part_8 : decode cX4_part 8 = .ok (.istore 4, 2) := by decide +kernel
theorem dX4_part_10 : decode cX4_part 10 = .ok (.aload_n 0, 1) := by decide +kernel
theorem dX4_part_11 : decode cX4_part 11 = .ok (.getfield 46, 3) := by decide +kernel
theorem dX4_part_14 : decode cX4_part 14 = .ok (.iload_n 3, 1) := by decide +kernel
theorem dX4_part_15 : decode cX4_part 15 = .ok (.iaload, 1) := by decide +kernel
theorem dX4_part_16 : decode cX4_part 16 = .ok (.istore 5, 2) := by decide +kernel
theorem dX4_part_18 : decode cX4_part 18 = .ok (.iload 5, 2) := by decide +kernel
theorem dX4_part_20 : decode cX4_part 20 = .ok (.aload_n 0, 1) := by decide +kernel
theorem dX4_part_21 : decode cX4_part 21 = .ok (.getfield 49, 3) := by decide +kernel
theorem dX4_part_24 : decode cX4_part 24 = .ok (.iload_n 3, 1) := by decide +kernel
theorem dX4_part_25 : decode cX4_part 25 = .ok (.iaload, 1) := by decide +kernel
theorem dX4_part_26 : decode cX4_part 26 = .ok (.if_icmp .ge 41, 3) := by decide +kernel
theorem dX4_part_29 : decode cX4_part 29 = .ok (.iload 4, 2) := by decide +kernel
theorem dX4_part_31 : decode cX4_part 31 = .ok (.iload 5, 2) := by decide +kernel
theorem dX4_part_33 : decode cX4_part 33 = .ok (.aload_n 0, 1) := by decide +kernel
theorem dX4_part_34 : decode cX4_part 34 = .ok (.getfield 28, 3) := by decide +kernel
theorem dX4_part_37 : decode cX4_part 37 = .ok (.iload_n 1, 1) := by decide +kernel
theorem dX4_part_38 : decode cX4_part 38 = .ok (.iaload, 1) := by decide +kernel
theorem dX4_part_39 : decode cX4_part 39 = .ok (.if_icmp .lt 18, 3) := by decide +kernel
theorem dX4_part_42 : decode cX4_part 42 = .ok (.iload 5, 2) := by decide +kernel
theorem dX4_part_44 : decode cX4_part 44 = .ok (.aload_n 0, 1) := by decide +kernel
theorem dX4_part_45 : decode cX4_part 45 = .ok (.getfield 31, 3) := by decide +kernel
theorem dX4_part_48 : decode cX4_part 48 = .ok (.iload_n 1, 1) := by decide +kernel
theorem dX4_part_49 : decode cX4_part 49 = .ok (.iaload, 1) := by decide +kernel
theorem dX4_part_50 : decode cX4_part 50 = .ok (.if_icmp .ge 7, 3) := by decide +kernel
theorem dX4_part_53 : decode cX4_part 53 = .ok (.iconst 1, 1) := by decide +kernel
theorem dX4_part_54 : decode cX4_part 54 = .ok (.goto 4, 3) := by decide +kernel
theorem dX4_part_57 : decode cX4_part 57 = .ok (.iconst 0, 1) := by decide +kernel
theorem dX4_part_58 : decode cX4_part 58 = .ok (.iadd, 1) := by decide +kernel
theorem dX4_part_59 : decode cX4_part 59 = .ok (.istore 4, 2) := by decide +kernel
theorem dX4_part_61 : decode cX4_part 61 = .ok (.iinc 5 1, 3) := by decide +kernel
theorem dX4_part_64 : decode cX4_part 64 = .ok (.goto (-46), 3) := by decide +kernel
theorem dX4_part_67 : decode cX4_part 67 = .ok (.aload_n 0, 1) := by decide +kernel
theorem dX4_part_68 : decode cX4_part 68 = .ok (.getfield 43, 3) := by decide +kernel
theorem dX4_part_71 : decode cX4_part 71 = .ok (.iload_n 3, 1) := by decide +kernel
theorem dX4_part_72 : decode cX4_part 72 = .ok (.iaload, 1) := by decide +kernel
theorem dX4_part_73 : decode cX4_part 73 = .ok (.iload 4, 2) := by decide +kernel
theorem dX4_part_75 : decode cX4_part 75 = .ok (.imul, 1) := by decide +kernel
theorem dX4_part_76 : decode cX4_part 76 = .ok (.aload_n 0, 1) := by decide +kernel
theorem dX4_part_77 : decode cX4_part 77 = .ok (.getfield 49, 3) := by decide +kernel
theorem dX4_part_80 : decode cX4_part 80 = .ok (.iload_n 3, 1) := by decide +kernel
theorem dX4_part_81 : decode cX4_part 81 = .ok (.iaload, 1) := by decide +kernel
theorem dX4_part_82 : decode cX4_part 82 = .ok (.aload_n 0, 1) := by decide +kernel
theorem dX4_part_83 : decode cX4_part 83 = .ok (.getfield 46, 3) := by decide +kernel
theorem dX4_part_86 : decode cX4_part 86 = .ok (.iload_n 3, 1) := by decide +kernel
theorem dX4_part_87 : decode cX4_part 87 = .ok (.iaload, 1) := by decide +kernel
theorem dX4_part_88 : decode cX4_part 88 = .ok (.isub, 1) := by decide +kernel
theorem dX4_part_89 : decode cX4_part 89 = .ok (.idiv, 1) := by decide +kernel
theorem dX4_part_90 : decode cX4_part 90 = .ok (.ireturn, 1) := by decide +kernel
set_option maxRecDepth 20000 in
theorem ggX4_abroadPart_X4_in : GoodIn wsX4_abroadPart wsX4_in := goodIn_r _ [7] (by decide +kernel) (by decide +kernel)
set_option maxRecDepth 20000 in
theorem gX4_abroadPart_X4_in : GoodIn wsX4_abroadPart (va_wsS RX4 57 yX4_in wsX4_in) := goodIn_app (goodIn_of _ (by decide +kernel)) ggX4_abroadPart_X4_in
set_option maxRecDepth 20000 in
theorem ggX4_abroadPart_X4_part : GoodIn wsX4_abroadPart wsX4_part := goodIn_r _ [11, 12, 13, 14, 15, 16, 21, 22, 23, 24, 25, 26, 27, 28, 29, 30, 31, 32, 33, 34, 35, 36] (by decide +kernel) (by decide +kernel)
set_option maxRecDepth 20000 in
theorem gX4_abroadPart_X4_part : GoodIn wsX4_abroadPart (wsV RX4 94 RX4 yX4_part wsX4_part) := goodIn_app (goodIn_of _ (by decide +kernel)) ggX4_abroadPart_X4_part
set_option maxRecDepth 20000 in
theorem ggX4_abroadPart_X4_fails : GoodIn wsX4_abroadPart wsX4_fails := goodIn_r _ [20, 1, 21, 22, 23, 24, 25, 26, 27, 28, 29, 30, 31, 32, 33, 34, 35, 36] (by decide +kernel) (by decide +kernel)
set_option maxRecDepth 20000 in
theorem gX4_abroadPart_X4_fails : GoodIn wsX4_abroadPart (wsV RX4 77 RX4 yX4_fails wsX4_fails) := goodIn_app (goodIn_of _ (by decide +kernel)) ggX4_abroadPart_X4_fails
theorem dX4_abroadPart_0 : decode cX4_abroadPart 0 = .ok (.aload_n 0, 1) := by decide +kernel
theorem dX4_abroadPart_1 : decode cX4_abroadPart 1 = .ok (.iconst 0, 1) := by decide +kernel
theorem dX4_abroadPart_2 : decode cX4_abroadPart 2 = .ok (.putfield 53, 3) := by decide +kernel
theorem dX4_abroadPart_5 : decode cX4_abroadPart 5 = .ok (.iload_n 1, 1) := by decide +kernel
theorem dX4_abroadPart_6 : decode cX4_abroadPart 6 = .ok (.iconst 0, 1) := by decide +kernel
theorem dX4_abroadPart_7 : decode cX4_abroadPart 7 = .ok (.aload_n 0, 1) := by decide +kernel
theorem dX4_abroadPart_8 : decode cX4_abroadPart 8 = .ok (.getfield 61, 3) := by decide +kernel
theorem dX4_abroadPart_11 : decode cX4_abroadPart 11 = .ok (.iconst 1, 1) := by decide +kernel
theorem dX4_abroadPart_12 : decode cX4_abroadPart 12 = .ok (.isub, 1) := by decide +kernel
theorem dX4_abroadPart_13 : decode cX4_abroadPart 13 = .ok (.invokestatic 57, 3) := by decide +kernel
theorem dX4_abroadPart_16 : decode cX4_abroadPart 16 = .ok (.ifCond .eq 28, 3) := by decide +kernel
theorem dX4_abroadPart_19 : decode cX4_abroadPart 19 = .ok (.iload_n 2, 1) := by decide +kernel
theorem dX4_abroadPart_20 : decode cX4_abroadPart 20 = .ok (.iconst 0, 1) := by decide +kernel
theorem dX4_abroadPart_21 : decode cX4_abroadPart 21 = .ok (.aload_n 0, 1) := by decide +kernel
theorem dX4_abroadPart_22 : decode cX4_abroadPart 22 = .ok (.getfield 40, 3) := by decide +kernel
theorem dX4_abroadPart_25 : decode cX4_abroadPart 25 = .ok (.iload_n 1, 1) := by decide +kernel
theorem dX4_abroadPart_26 : decode cX4_abroadPart 26 = .ok (.iaload, 1) := by decide +kernel
theorem dX4_abroadPart_27 : decode cX4_abroadPart 27 = .ok (.iconst 1, 1) := by decide +kernel
theorem dX4_abroadPart_28 : decode cX4_abroadPart 28 = .ok (.isub, 1) := by decide +kernel
theorem dX4_abroadPart_29 : decode cX4_abroadPart 29 = .ok (.invokestatic 57, 3) := by decide +kernel
theorem dX4_abroadPart_32 : decode cX4_abroadPart 32 = .ok (.ifCond .eq 12, 3) := by decide +kernel
theorem dX4_abroadPart_35 : decode cX4_abroadPart 35 = .ok (.aload_n 0, 1) := by decide +kernel
theorem dX4_abroadPart_36 : decode cX4_abroadPart 36 = .ok (.iload_n 1, 1) := by decide +kernel
theorem dX4_abroadPart_37 : decode cX4_abroadPart 37 = .ok (.iload_n 2, 1) := by decide +kernel
theorem dX4_abroadPart_38 : decode cX4_abroadPart 38 = .ok (.invokevirtual 94, 3) := by decide +kernel
theorem dX4_abroadPart_41 : decode cX4_abroadPart 41 = .ok (.goto 8, 3) := by decide +kernel
theorem dX4_abroadPart_44 : decode cX4_abroadPart 44 = .ok (.aload_n 0, 1) := by decide +kernel
theorem dX4_abroadPart_45 : decode cX4_abroadPart 45 = .ok (.iconst 1, 1) := by decide +kernel
theorem dX4_abroadPart_46 : decode cX4_abroadPart 46 = .ok (.invokevirtual 77, 3) := by decide +kernel
theorem dX4_abroadPart_49 : decode cX4_abroadPart 49 = .ok (.ireturn, 1) := by decide +kernel
set_option maxRecDepth 20000 in
theorem ggX4_parts_X4_part : GoodIn wsX4_parts wsX4_part := goodIn_r _ [6, 7, 8, 9, 10, 11, 12, 13, 14, 15, 16, 17, 18, 19, 20, 21, 22, 23, 24, 25, 26, 27] (by decide +kernel) (by decide +kernel)
set_option maxRecDepth 20000 in
theorem gX4_parts_X4_part : GoodIn wsX4_parts (wsV RX4 94 RX4 yX4_part wsX4_part) := goodIn_app (goodIn_of _ (by decide +kernel)) ggX4_parts_X4_part
theorem dX4_parts_0 : decode cX4_parts 0 = .ok (.iconst 0, 1) := by decide +kernel
theorem dX4_parts_1 : decode cX4_parts 1 = .ok (.istore_n 2, 1) := by decide +kernel
theorem dX4_parts_2 : decode cX4_parts 2 = .ok (.iconst 0, 1) := by decide +kernel
theorem dX4_parts_3 : decode cX4_parts 3 = .ok (.istore_n 3, 1) := by decide +kernel
theorem dX4_parts_4 : decode cX4_parts 4 = .ok (.iload_n 3, 1) := by decide +kernel
theorem dX4_parts_5 : decode cX4_parts 5 = .ok (.aload_n 0, 1) := by decide +kernel
theorem dX4_parts_6 : decode cX4_parts 6 = .ok (.getfield 40, 3) := by decide +kernel
theorem dX4_parts_9 : decode cX4_parts 9 = .ok (.iload_n 1, 1) := by decide +kernel
theorem dX4_parts_10 : decode cX4_parts 10 = .ok (.iaload, 1) := by decide +kernel
theorem dX4_parts_11 : decode cX4_parts 11 = .ok (.if_icmp .ge 18, 3) := by decide +kernel
theorem dX4_parts_14 : decode cX4_parts 14 = .ok (.iload_n 2, 1) := by decide +kernel
theorem dX4_parts_15 : decode cX4_parts 15 = .ok (.aload_n 0, 1) := by decide +kernel
theorem dX4_parts_16 : decode cX4_parts 16 = .ok (.iload_n 1, 1) := by decide +kernel
theorem dX4_parts_17 : decode cX4_parts 17 = .ok (.iload_n 3, 1) := by decide +kernel
theorem dX4_parts_18 : decode cX4_parts 18 = .ok (.invokevirtual 94, 3) := by decide +kernel
theorem dX4_parts_21 : decode cX4_parts 21 = .ok (.iadd, 1) := by decide +kernel
theorem dX4_parts_22 : decode cX4_parts 22 = .ok (.istore_n 2, 1) := by decide +kernel
theorem dX4_parts_23 : decode cX4_parts 23 = .ok (.iinc 3 1, 3) := by decide +kernel
theorem dX4_parts_26 : decode cX4_parts 26 = .ok (.goto (-22), 3) := by decide +kernel
theorem dX4_parts_29 : decode cX4_parts 29 = .ok (.iload_n 2, 1) := by decide +kernel
theorem dX4_parts_30 : decode cX4_parts 30 = .ok (.ireturn, 1) := by decide +kernel
theorem dX4_whole_0 : decode cX4_whole 0 = .ok (.bipush 12, 2) := by decide +kernel
theorem dX4_whole_2 : decode cX4_whole 2 = .ok (.aload_n 0, 1) := by decide +kernel
theorem dX4_whole_3 : decode cX4_whole 3 = .ok (.getfield 25, 3) := by decide +kernel
theorem dX4_whole_6 : decode cX4_whole 6 = .ok (.iload_n 1, 1) := by decide +kernel
theorem dX4_whole_7 : decode cX4_whole 7 = .ok (.iaload, 1) := by decide +kernel
theorem dX4_whole_8 : decode cX4_whole 8 = .ok (.imul, 1) := by decide +kernel
theorem dX4_whole_9 : decode cX4_whole 9 = .ok (.istore_n 2, 1) := by decide +kernel
theorem dX4_whole_10 : decode cX4_whole 10 = .ok (.iconst 0, 1) := by decide +kernel
theorem dX4_whole_11 : decode cX4_whole 11 = .ok (.istore_n 3, 1) := by decide +kernel
theorem dX4_whole_12 : decode cX4_whole 12 = .ok (.iload_n 3, 1) := by decide +kernel
theorem dX4_whole_13 : decode cX4_whole 13 = .ok (.aload_n 0, 1) := by decide +kernel
theorem dX4_whole_14 : decode cX4_whole 14 = .ok (.getfield 40, 3) := by decide +kernel
theorem dX4_whole_17 : decode cX4_whole 17 = .ok (.iload_n 1, 1) := by decide +kernel
theorem dX4_whole_18 : decode cX4_whole 18 = .ok (.iaload, 1) := by decide +kernel
theorem dX4_whole_19 : decode cX4_whole 19 = .ok (.if_icmp .ge 23, 3) := by decide +kernel
theorem dX4_whole_22 : decode cX4_whole 22 = .ok (.iload_n 2, 1) := by decide +kernel
theorem dX4_whole_23 : decode cX4_whole 23 = .ok (.aload_n 0, 1) := by decide +kernel
theorem dX4_whole_24 : decode cX4_whole 24 = .ok (.getfield 43, 3) := by decide +kernel
theorem dX4_whole_27 : decode cX4_whole 27 = .ok (.bipush 6, 2) := by decide +kernel
theorem dX4_whole_29 : decode cX4_whole 29 = .ok (.iload_n 1, 1) := by decide +kernel
theorem dX4_whole_30 : decode cX4_whole 30 = .ok (.imul, 1) := by decide +kernel
theorem dX4_whole_31 : decode cX4_whole 31 = .ok (.iload_n 3, 1) := by decide +kernel
theorem dX4_whole_32 : decode cX4_whole 32 = .ok (.iadd, 1) := by decide +kernel
theorem dX4_whole_33 : decode cX4_whole 33 = .ok (.iaload, 1) := by decide +kernel
theorem dX4_whole_34 : decode cX4_whole 34 = .ok (.iadd, 1) := by decide +kernel
theorem dX4_whole_35 : decode cX4_whole 35 = .ok (.istore_n 2, 1) := by decide +kernel
theorem dX4_whole_36 : decode cX4_whole 36 = .ok (.iinc 3 1, 3) := by decide +kernel
theorem dX4_whole_39 : decode cX4_whole 39 = .ok (.goto (-27), 3) := by decide +kernel
theorem dX4_whole_42 : decode cX4_whole 42 = .ok (.iload_n 2, 1) := by decide +kernel
theorem dX4_whole_43 : decode cX4_whole 43 = .ok (.ireturn, 1) := by decide +kernel
theorem dX4_months_0 : decode cX4_months 0 = .ok (.aload_n 0, 1) := by decide +kernel
theorem dX4_months_1 : decode cX4_months 1 = .ok (.getfield 31, 3) := by decide +kernel
theorem dX4_months_4 : decode cX4_months 4 = .ok (.iload_n 1, 1) := by decide +kernel
theorem dX4_months_5 : decode cX4_months 5 = .ok (.iaload, 1) := by decide +kernel
theorem dX4_months_6 : decode cX4_months 6 = .ok (.aload_n 0, 1) := by decide +kernel
theorem dX4_months_7 : decode cX4_months 7 = .ok (.getfield 28, 3) := by decide +kernel
theorem dX4_months_10 : decode cX4_months 10 = .ok (.iload_n 1, 1) := by decide +kernel
theorem dX4_months_11 : decode cX4_months 11 = .ok (.iaload, 1) := by decide +kernel
theorem dX4_months_12 : decode cX4_months 12 = .ok (.isub, 1) := by decide +kernel
theorem dX4_months_13 : decode cX4_months 13 = .ok (.ireturn, 1) := by decide +kernel
set_option maxRecDepth 20000 in
theorem ggX4_heldOf_X4_taxOf : GoodIn wsX4_heldOf wsX4_taxOf := goodIn_r _ [8, 9, 10, 11, 12, 13, 14, 15, 16, 17, 18, 19, 20, 21, 22, 23, 24, 25, 26, 27, 28] (by decide +kernel) (by decide +kernel)
set_option maxRecDepth 20000 in
theorem gX4_heldOf_X4_taxOf : GoodIn wsX4_heldOf (wsV RX4 67 RX4 yX4_taxOf wsX4_taxOf) := goodIn_app (goodIn_of _ (by decide +kernel)) ggX4_heldOf_X4_taxOf
theorem dX4_heldOf_0 : decode cX4_heldOf 0 = .ok (.aload_n 0, 1) := by decide +kernel
theorem dX4_heldOf_1 : decode cX4_heldOf 1 = .ok (.aload_n 0, 1) := by decide +kernel
theorem dX4_heldOf_2 : decode cX4_heldOf 2 = .ok (.getfield 19, 3) := by decide +kernel
theorem dX4_heldOf_5 : decode cX4_heldOf 5 = .ok (.iload_n 1, 1) := by decide +kernel
theorem dX4_heldOf_6 : decode cX4_heldOf 6 = .ok (.iaload, 1) := by decide +kernel
theorem dX4_heldOf_7 : decode cX4_heldOf 7 = .ok (.bipush 12, 2) := by decide +kernel
theorem dX4_heldOf_9 : decode cX4_heldOf 9 = .ok (.aload_n 0, 1) := by decide +kernel
theorem dX4_heldOf_10 : decode cX4_heldOf 10 = .ok (.getfield 25, 3) := by decide +kernel
theorem dX4_heldOf_13 : decode cX4_heldOf 13 = .ok (.iload_n 1, 1) := by decide +kernel
theorem dX4_heldOf_14 : decode cX4_heldOf 14 = .ok (.iaload, 1) := by decide +kernel
theorem dX4_heldOf_15 : decode cX4_heldOf 15 = .ok (.imul, 1) := by decide +kernel
theorem dX4_heldOf_16 : decode cX4_heldOf 16 = .ok (.i2l, 1) := by decide +kernel
theorem dX4_heldOf_17 : decode cX4_heldOf 17 = .ok (.invokevirtual 67, 3) := by decide +kernel
theorem dX4_heldOf_20 : decode cX4_heldOf 20 = .ok (.ldc2_w 98, 3) := by decide +kernel
theorem dX4_heldOf_23 : decode cX4_heldOf 23 = .ok (.ldiv, 1) := by decide +kernel
theorem dX4_heldOf_24 : decode cX4_heldOf 24 = .ok (.l2i, 1) := by decide +kernel
theorem dX4_heldOf_25 : decode cX4_heldOf 25 = .ok (.ireturn, 1) := by decide +kernel
set_option maxRecDepth 20000 in
theorem ggX4_supposed_X4_whole : GoodIn wsX4_supposed wsX4_whole := goodIn_r _ [6, 7, 8, 9, 18, 19, 20, 21, 22, 23, 24, 25, 26, 27, 28, 29, 30, 31, 32, 33] (by decide +kernel) (by decide +kernel)
set_option maxRecDepth 20000 in
theorem gX4_supposed_X4_whole : GoodIn wsX4_supposed (wsV RX4 100 RX4 yX4_whole wsX4_whole) := goodIn_app (goodIn_of _ (by decide +kernel)) ggX4_supposed_X4_whole
set_option maxRecDepth 20000 in
theorem ggX4_supposed_X4_taxOf : GoodIn wsX4_supposed wsX4_taxOf := goodIn_r _ [13, 14, 15, 16, 17, 18, 19, 20, 21, 22, 23, 24, 25, 26, 27, 28, 29, 30, 31, 32, 33] (by decide +kernel) (by decide +kernel)
set_option maxRecDepth 20000 in
theorem gX4_supposed_X4_taxOf : GoodIn wsX4_supposed (wsV RX4 67 RX4 yX4_taxOf wsX4_taxOf) := goodIn_app (goodIn_of _ (by decide +kernel)) ggX4_supposed_X4_taxOf
theorem dX4_supposed_0 : decode cX4_supposed 0 = .ok (.aload_n 0, 1) := by decide +kernel
theorem dX4_supposed_1 : decode cX4_supposed 1 = .ok (.aload_n 0, 1) := by decide +kernel
theorem dX4_supposed_2 : decode cX4_supposed 2 = .ok (.getfield 19, 3) := by decide +kernel
theorem dX4_supposed_5 : decode cX4_supposed 5 = .ok (.iload_n 1, 1) := by decide +kernel
theorem dX4_supposed_6 : decode cX4_supposed 6 = .ok (.iaload, 1) := by decide +kernel
theorem dX4_supposed_7 : decode cX4_supposed 7 = .ok (.aload_n 0, 1) := by decide +kernel
theorem dX4_supposed_8 : decode cX4_supposed 8 = .ok (.iload_n 1, 1) := by decide +kernel
theorem dX4_supposed_9 : decode cX4_supposed 9 = .ok (.invokevirtual 100, 3) := by decide +kernel
theorem dX4_supposed_12 : decode cX4_supposed 12 = .ok (.i2l, 1) := by decide +kernel
theorem dX4_supposed_13 : decode cX4_supposed 13 = .ok (.invokevirtual 67, 3) := by decide +kernel
theorem dX4_supposed_16 : decode cX4_supposed 16 = .ok (.l2i, 1) := by decide +kernel
theorem dX4_supposed_17 : decode cX4_supposed 17 = .ok (.ireturn, 1) := by decide +kernel
set_option maxRecDepth 20000 in
theorem ggX4_atHome_X4_whole : GoodIn wsX4_atHome wsX4_whole := goodIn_r _ [6, 1, 7, 8, 25, 26, 27, 28, 29, 30, 31, 32, 33, 34, 35, 36, 37, 38, 39, 40] (by decide +kernel) (by decide +kernel)
set_option maxRecDepth 20000 in
theorem gX4_atHome_X4_whole : GoodIn wsX4_atHome (wsV RX4 100 RX4 yX4_whole wsX4_whole) := goodIn_app (goodIn_of _ (by decide +kernel)) ggX4_atHome_X4_whole
set_option maxRecDepth 20000 in
theorem ggX4_atHome_X4_months : GoodIn wsX4_atHome wsX4_months := goodIn_r _ [12, 13, 14, 25, 26, 27, 28, 29, 30, 31, 32, 33, 34, 35, 36, 37, 38, 39, 40] (by decide +kernel) (by decide +kernel)
set_option maxRecDepth 20000 in
theorem gX4_atHome_X4_months : GoodIn wsX4_atHome (wsV RX4 103 RX4 yX4_months wsX4_months) := goodIn_app (goodIn_of _ (by decide +kernel)) ggX4_atHome_X4_months
set_option maxRecDepth 20000 in
theorem ggX4_atHome_X4_parts : GoodIn wsX4_atHome wsX4_parts := goodIn_r _ [18, 7, 19, 20, 21, 5, 22, 23, 24, 14, 13, 8, 25, 26, 27, 28, 29, 30, 31, 32, 33, 34, 35, 36, 37, 38, 39, 40] (by decide +kernel) (by decide +kernel)
set_option maxRecDepth 20000 in
theorem gX4_atHome_X4_parts : GoodIn wsX4_atHome (wsV RX4 106 RX4 yX4_parts wsX4_parts) := goodIn_app (goodIn_of _ (by decide +kernel)) ggX4_atHome_X4_parts
theorem dX4_atHome_0 : decode cX4_atHome 0 = .ok (.aload_n 0, 1) := by decide +kernel
theorem dX4_atHome_1 : decode cX4_atHome 1 = .ok (.iload_n 1, 1) := by decide +kernel
theorem dX4_atHome_2 : decode cX4_atHome 2 = .ok (.invokevirtual 100, 3) := by decide +kernel
theorem dX4_atHome_5 : decode cX4_atHome 5 = .ok (.aload_n 0, 1) := by decide +kernel
theorem dX4_atHome_6 : decode cX4_atHome 6 = .ok (.getfield 25, 3) := by decide +kernel
theorem dX4_atHome_9 : decode cX4_atHome 9 = .ok (.iload_n 1, 1) := by decide +kernel
theorem dX4_atHome_10 : decode cX4_atHome 10 = .ok (.iaload, 1) := by decide +kernel
theorem dX4_atHome_11 : decode cX4_atHome 11 = .ok (.aload_n 0, 1) := by decide +kernel
theorem dX4_atHome_12 : decode cX4_atHome 12 = .ok (.iload_n 1, 1) := by decide +kernel
theorem dX4_atHome_13 : decode cX4_atHome 13 = .ok (.invokevirtual 103, 3) := by decide +kernel
theorem dX4_atHome_16 : decode cX4_atHome 16 = .ok (.imul, 1) := by decide +kernel
theorem dX4_atHome_17 : decode cX4_atHome 17 = .ok (.isub, 1) := by decide +kernel
theorem dX4_atHome_18 : decode cX4_atHome 18 = .ok (.aload_n 0, 1) := by decide +kernel
theorem dX4_atHome_19 : decode cX4_atHome 19 = .ok (.iload_n 1, 1) := by decide +kernel
theorem dX4_atHome_20 : decode cX4_atHome 20 = .ok (.invokevirtual 106, 3) := by decide +kernel
theorem dX4_atHome_23 : decode cX4_atHome 23 = .ok (.isub, 1) := by decide +kernel
theorem dX4_atHome_24 : decode cX4_atHome 24 = .ok (.ireturn, 1) := by decide +kernel
set_option maxRecDepth 20000 in
theorem ggX4_taxAtHome_X4_whole : GoodIn wsX4_taxAtHome wsX4_whole := goodIn_r _ [6, 7, 8, 9, 38, 39, 40, 41, 42, 43, 44, 45, 46, 47, 48, 49, 50, 51, 52, 53] (by decide +kernel) (by decide +kernel)
set_option maxRecDepth 20000 in
theorem gX4_taxAtHome_X4_whole : GoodIn wsX4_taxAtHome (wsV RX4 100 RX4 yX4_whole wsX4_whole) := goodIn_app (goodIn_of _ (by decide +kernel)) ggX4_taxAtHome_X4_whole
set_option maxRecDepth 20000 in
theorem ggX4_taxAtHome_X4_taxOf : GoodIn wsX4_taxAtHome wsX4_taxOf := goodIn_r _ [13, 14, 15, 16, 17, 38, 39, 40, 41, 42, 43, 44, 45, 46, 47, 48, 49, 50, 51, 52, 53] (by decide +kernel) (by decide +kernel)
set_option maxRecDepth 20000 in
theorem gX4_taxAtHome_X4_taxOf : GoodIn wsX4_taxAtHome (wsV RX4 67 RX4 yX4_taxOf wsX4_taxOf) := goodIn_app (goodIn_of _ (by decide +kernel)) ggX4_taxAtHome_X4_taxOf
set_option maxRecDepth 20000 in
theorem ggX4_taxAtHome_X4_atHome : GoodIn wsX4_taxAtHome wsX4_atHome := goodIn_r _ [21, 7, 2, 3, 4, 5, 6, 8, 9, 22, 23, 24, 25, 26, 27, 28, 29, 30, 31, 32, 33, 34, 35, 36, 37, 38, 39, 40, 41, 42, 43, 44, 45, 46, 47, 48, 49, 50, 51, 52, 53] (by decide +kernel) (by decide +kernel)
set_option maxRecDepth 20000 in
theorem gX4_taxAtHome_X4_atHome : GoodIn wsX4_taxAtHome (wsV RX4 109 RX4 yX4_atHome wsX4_atHome) := goodIn_app (goodIn_of _ (by decide +kernel)) ggX4_taxAtHome_X4_atHome
theorem dX4_taxAtHome_0 : decode cX4_taxAtHome 0 = .ok (.aload_n 0, 1) := by decide +kernel
theorem dX4_taxAtHome_1 : decode cX4_taxAtHome 1 = .ok (.iload_n 1, 1) := by decide +kernel
theorem dX4_taxAtHome_2 : decode cX4_taxAtHome 2 = .ok (.invokevirtual 100, 3) := by decide +kernel
theorem dX4_taxAtHome_5 : decode cX4_taxAtHome 5 = .ok (.istore_n 2, 1) := by decide +kernel
theorem dX4_taxAtHome_6 : decode cX4_taxAtHome 6 = .ok (.iload_n 2, 1) := by decide +kernel
theorem dX4_taxAtHome_7 : decode cX4_taxAtHome 7 = .ok (.ifCond .ne 7, 3) := by decide +kernel
theorem dX4_taxAtHome_10 : decode cX4_taxAtHome 10 = .ok (.iconst 0, 1) := by decide +kernel
theorem dX4_taxAtHome_11 : decode cX4_taxAtHome 11 = .ok (.goto 26, 3) := by decide +kernel
theorem dX4_taxAtHome_14 : decode cX4_taxAtHome 14 = .ok (.aload_n 0, 1) := by decide +kernel
theorem dX4_taxAtHome_15 : decode cX4_taxAtHome 15 = .ok (.aload_n 0, 1) := by decide +kernel
theorem dX4_taxAtHome_16 : decode cX4_taxAtHome 16 = .ok (.getfield 19, 3) := by decide +kernel
theorem dX4_taxAtHome_19 : decode cX4_taxAtHome 19 = .ok (.iload_n 1, 1) := by decide +kernel
theorem dX4_taxAtHome_20 : decode cX4_taxAtHome 20 = .ok (.iaload, 1) := by decide +kernel
theorem dX4_taxAtHome_21 : decode cX4_taxAtHome 21 = .ok (.iload_n 2, 1) := by decide +kernel
theorem dX4_taxAtHome_22 : decode cX4_taxAtHome 22 = .ok (.i2l, 1) := by decide +kernel
theorem dX4_taxAtHome_23 : decode cX4_taxAtHome 23 = .ok (.invokevirtual 67, 3) := by decide +kernel
theorem dX4_taxAtHome_26 : decode cX4_taxAtHome 26 = .ok (.aload_n 0, 1) := by decide +kernel
theorem dX4_taxAtHome_27 : decode cX4_taxAtHome 27 = .ok (.iload_n 1, 1) := by decide +kernel
theorem dX4_taxAtHome_28 : decode cX4_taxAtHome 28 = .ok (.invokevirtual 109, 3) := by decide +kernel
theorem dX4_taxAtHome_31 : decode cX4_taxAtHome 31 = .ok (.i2l, 1) := by decide +kernel
theorem dX4_taxAtHome_32 : decode cX4_taxAtHome 32 = .ok (.lmul, 1) := by decide +kernel
theorem dX4_taxAtHome_33 : decode cX4_taxAtHome 33 = .ok (.iload_n 2, 1) := by decide +kernel
theorem dX4_taxAtHome_34 : decode cX4_taxAtHome 34 = .ok (.i2l, 1) := by decide +kernel
theorem dX4_taxAtHome_35 : decode cX4_taxAtHome 35 = .ok (.ldiv, 1) := by decide +kernel
theorem dX4_taxAtHome_36 : decode cX4_taxAtHome 36 = .ok (.l2i, 1) := by decide +kernel
theorem dX4_taxAtHome_37 : decode cX4_taxAtHome 37 = .ok (.ireturn, 1) := by decide +kernel
set_option maxRecDepth 20000 in
theorem ggX4_abroad_X4_months : GoodIn wsX4_abroad wsX4_months := goodIn_r _ [7, 8, 9, 27, 28, 29, 30, 31, 32, 33, 34, 35, 36, 37, 38, 39, 40, 41, 42] (by decide +kernel) (by decide +kernel)
set_option maxRecDepth 20000 in
theorem gX4_abroad_X4_months : GoodIn wsX4_abroad (wsV RX4 103 RX4 yX4_months wsX4_months) := goodIn_app (goodIn_of _ (by decide +kernel)) ggX4_abroad_X4_months
set_option maxRecDepth 20000 in
theorem ggX4_abroad_X4_parts : GoodIn wsX4_abroad wsX4_parts := goodIn_r _ [13, 14, 15, 16, 17, 6, 18, 19, 20, 9, 8, 21, 27, 28, 29, 30, 31, 32, 33, 34, 35, 36, 37, 38, 39, 40, 41, 42] (by decide +kernel) (by decide +kernel)
set_option maxRecDepth 20000 in
theorem gX4_abroad_X4_parts : GoodIn wsX4_abroad (wsV RX4 106 RX4 yX4_parts wsX4_parts) := goodIn_app (goodIn_of _ (by decide +kernel)) ggX4_abroad_X4_parts
set_option maxRecDepth 20000 in
theorem ggX4_abroad_X4_own : GoodIn wsX4_abroad wsX4_own := goodIn_r _ [25, 1, 26, 2, 27, 28, 29, 30, 31, 32, 33, 34, 35, 36, 37, 38, 39, 40, 41, 42] (by decide +kernel) (by decide +kernel)
set_option maxRecDepth 20000 in
theorem gX4_abroad_X4_own : GoodIn wsX4_abroad (wsV RX4 90 RX4 yX4_own wsX4_own) := goodIn_app (goodIn_of _ (by decide +kernel)) ggX4_abroad_X4_own
theorem dX4_abroad_0 : decode cX4_abroad 0 = .ok (.aload_n 0, 1) := by decide +kernel
theorem dX4_abroad_1 : decode cX4_abroad 1 = .ok (.getfield 25, 3) := by decide +kernel
theorem dX4_abroad_4 : decode cX4_abroad 4 = .ok (.iload_n 1, 1) := by decide +kernel
theorem dX4_abroad_5 : decode cX4_abroad 5 = .ok (.iaload, 1) := by decide +kernel
theorem dX4_abroad_6 : decode cX4_abroad 6 = .ok (.aload_n 0, 1) := by decide +kernel
theorem dX4_abroad_7 : decode cX4_abroad 7 = .ok (.iload_n 1, 1) := by decide +kernel
theorem dX4_abroad_8 : decode cX4_abroad 8 = .ok (.invokevirtual 103, 3) := by decide +kernel
theorem dX4_abroad_11 : decode cX4_abroad 11 = .ok (.imul, 1) := by decide +kernel
theorem dX4_abroad_12 : decode cX4_abroad 12 = .ok (.aload_n 0, 1) := by decide +kernel
theorem dX4_abroad_13 : decode cX4_abroad 13 = .ok (.iload_n 1, 1) := by decide +kernel
theorem dX4_abroad_14 : decode cX4_abroad 14 = .ok (.invokevirtual 106, 3) := by decide +kernel
theorem dX4_abroad_17 : decode cX4_abroad 17 = .ok (.iadd, 1) := by decide +kernel
theorem dX4_abroad_18 : decode cX4_abroad 18 = .ok (.aload_n 0, 1) := by decide +kernel
theorem dX4_abroad_19 : decode cX4_abroad 19 = .ok (.getfield 34, 3) := by decide +kernel
theorem dX4_abroad_22 : decode cX4_abroad 22 = .ok (.iload_n 1, 1) := by decide +kernel
theorem dX4_abroad_23 : decode cX4_abroad 23 = .ok (.iaload, 1) := by decide +kernel
theorem dX4_abroad_24 : decode cX4_abroad 24 = .ok (.aload_n 0, 1) := by decide +kernel
theorem dX4_abroad_25 : decode cX4_abroad 25 = .ok (.iload_n 1, 1) := by decide +kernel
theorem dX4_abroad_26 : decode cX4_abroad 26 = .ok (.invokevirtual 90, 3) := by decide +kernel
theorem dX4_abroad_29 : decode cX4_abroad 29 = .ok (.isub, 1) := by decide +kernel
theorem dX4_abroad_30 : decode cX4_abroad 30 = .ok (.aload_n 0, 1) := by decide +kernel
theorem dX4_abroad_31 : decode cX4_abroad 31 = .ok (.iload_n 1, 1) := by decide +kernel
theorem dX4_abroad_32 : decode cX4_abroad 32 = .ok (.invokevirtual 103, 3) := by decide +kernel
theorem dX4_abroad_35 : decode cX4_abroad 35 = .ok (.imul, 1) := by decide +kernel
theorem dX4_abroad_36 : decode cX4_abroad 36 = .ok (.iadd, 1) := by decide +kernel
theorem dX4_abroad_37 : decode cX4_abroad 37 = .ok (.ireturn, 1) := by decide +kernel
set_option maxRecDepth 20000 in
theorem ggX4_bears_X4_heldOf : GoodIn wsX4_bears wsX4_heldOf := goodIn_r _ [5, 6, 7, 8, 9, 10, 11, 4, 12, 13, 14, 15, 16, 47, 48, 49, 50, 51, 52, 53, 54, 55, 56, 57, 58, 59, 60, 61, 62] (by decide +kernel) (by decide +kernel)
set_option maxRecDepth 20000 in
theorem gX4_bears_X4_heldOf : GoodIn wsX4_bears (wsV RX4 112 RX4 yX4_heldOf wsX4_heldOf) := goodIn_app (goodIn_of _ (by decide +kernel)) ggX4_bears_X4_heldOf
set_option maxRecDepth 20000 in
theorem ggX4_bears_X4_months : GoodIn wsX4_bears wsX4_months := goodIn_r _ [20, 21, 22, 47, 48, 49, 50, 51, 52, 53, 54, 55, 56, 57, 58, 59, 60, 61, 62] (by decide +kernel) (by decide +kernel)
set_option maxRecDepth 20000 in
theorem gX4_bears_X4_months : GoodIn wsX4_bears (wsV RX4 103 RX4 yX4_months wsX4_months) := goodIn_app (goodIn_of _ (by decide +kernel)) ggX4_bears_X4_months
set_option maxRecDepth 20000 in
theorem ggX4_bears_X4_taxAtHome : GoodIn wsX4_bears wsX4_taxAtHome := goodIn_r _ [26, 6, 27, 28, 29, 4, 30, 7, 31, 32, 9, 10, 11, 12, 13, 14, 15, 16, 33, 34, 35, 36, 17, 18, 19, 20, 21, 22, 37, 38, 39, 40, 41, 42, 43, 44, 45, 46, 47, 48, 49, 50, 51, 52, 53, 54, 55, 56, 57, 58, 59, 60, 61, 62] (by decide +kernel) (by decide +kernel)
set_option maxRecDepth 20000 in
theorem gX4_bears_X4_taxAtHome : GoodIn wsX4_bears (wsV RX4 115 RX4 yX4_taxAtHome wsX4_taxAtHome) := goodIn_app (goodIn_of _ (by decide +kernel)) ggX4_bears_X4_taxAtHome
theorem dX4_bears_0 : decode cX4_bears 0 = .ok (.aload_n 0, 1) := by decide +kernel
theorem dX4_bears_1 : decode cX4_bears 1 = .ok (.iload_n 1, 1) := by decide +kernel
theorem dX4_bears_2 : decode cX4_bears 2 = .ok (.invokevirtual 112, 3) := by decide +kernel
theorem dX4_bears_5 : decode cX4_bears 5 = .ok (.aload_n 0, 1) := by decide +kernel
theorem dX4_bears_6 : decode cX4_bears 6 = .ok (.iload_n 1, 1) := by decide +kernel
theorem dX4_bears_7 : decode cX4_bears 7 = .ok (.invokevirtual 103, 3) := by decide +kernel
theorem dX4_bears_10 : decode cX4_bears 10 = .ok (.imul, 1) := by decide +kernel
theorem dX4_bears_11 : decode cX4_bears 11 = .ok (.aload_n 0, 1) := by decide +kernel
theorem dX4_bears_12 : decode cX4_bears 12 = .ok (.iload_n 1, 1) := by decide +kernel
theorem dX4_bears_13 : decode cX4_bears 13 = .ok (.invokevirtual 115, 3) := by decide +kernel
theorem dX4_bears_16 : decode cX4_bears 16 = .ok (.iadd, 1) := by decide +kernel
theorem dX4_bears_17 : decode cX4_bears 17 = .ok (.ireturn, 1) := by decide +kernel
set_option maxRecDepth 20000 in
theorem ggX4_costOf_X4_abroad : GoodIn wsX4_costOf wsX4_abroad := goodIn_r _ [7, 8, 2, 9, 10, 11, 6, 12, 13, 14, 15, 16, 17, 18, 19, 20, 21, 22, 23, 24, 25, 26, 27, 28, 29, 30, 31, 71, 72, 73, 74, 75, 76, 77, 78, 79, 80, 81, 82, 83, 84, 85, 86] (by decide +kernel) (by decide +kernel)
set_option maxRecDepth 20000 in
theorem gX4_costOf_X4_abroad : GoodIn wsX4_costOf (wsV RX4 118 RX4 yX4_abroad wsX4_abroad) := goodIn_app (goodIn_of _ (by decide +kernel)) ggX4_costOf_X4_abroad
set_option maxRecDepth 20000 in
theorem ggX4_costOf_X4_gross : GoodIn wsX4_costOf wsX4_gross := goodIn_r _ [35, 36, 37, 38, 39, 6, 40, 41, 42, 43, 44, 71, 72, 73, 74, 75, 76, 77, 78, 79, 80, 81, 82, 83, 84, 85, 86] (by decide +kernel) (by decide +kernel)
set_option maxRecDepth 20000 in
theorem gX4_costOf_X4_gross : GoodIn wsX4_costOf (wsV RX4 81 RX4 yX4_gross wsX4_gross) := goodIn_app (goodIn_of _ (by decide +kernel)) ggX4_costOf_X4_gross
set_option maxRecDepth 20000 in
theorem ggX4_costOf_X4_own : GoodIn wsX4_costOf wsX4_own := goodIn_r _ [30, 8, 31, 2, 71, 72, 73, 74, 75, 76, 77, 78, 79, 80, 81, 82, 83, 84, 85, 86] (by decide +kernel) (by decide +kernel)
set_option maxRecDepth 20000 in
theorem gX4_costOf_X4_own : GoodIn wsX4_costOf (wsV RX4 90 RX4 yX4_own wsX4_own) := goodIn_app (goodIn_of _ (by decide +kernel)) ggX4_costOf_X4_own
set_option maxRecDepth 20000 in
theorem ggX4_costOf_X4_heldOf : GoodIn wsX4_costOf wsX4_heldOf := goodIn_r _ [48, 49, 8, 50, 37, 38, 39, 6, 40, 41, 42, 43, 44, 71, 72, 73, 74, 75, 76, 77, 78, 79, 80, 81, 82, 83, 84, 85, 86] (by decide +kernel) (by decide +kernel)
set_option maxRecDepth 20000 in
theorem gX4_costOf_X4_heldOf : GoodIn wsX4_costOf (wsV RX4 112 RX4 yX4_heldOf wsX4_heldOf) := goodIn_app (goodIn_of _ (by decide +kernel)) ggX4_costOf_X4_heldOf
set_option maxRecDepth 20000 in
theorem ggX4_costOf_X4_months : GoodIn wsX4_costOf wsX4_months := goodIn_r _ [12, 13, 14, 71, 72, 73, 74, 75, 76, 77, 78, 79, 80, 81, 82, 83, 84, 85, 86] (by decide +kernel) (by decide +kernel)
set_option maxRecDepth 20000 in
theorem gX4_costOf_X4_months : GoodIn wsX4_costOf (wsV RX4 103 RX4 yX4_months wsX4_months) := goodIn_app (goodIn_of _ (by decide +kernel)) ggX4_costOf_X4_months
set_option maxRecDepth 20000 in
theorem ggX4_costOf_X4_supposed : GoodIn wsX4_costOf wsX4_supposed := goodIn_r _ [54, 49, 55, 56, 57, 6, 58, 8, 19, 26, 37, 38, 39, 40, 41, 42, 43, 44, 71, 72, 73, 74, 75, 76, 77, 78, 79, 80, 81, 82, 83, 84, 85, 86] (by decide +kernel) (by decide +kernel)
set_option maxRecDepth 20000 in
theorem gX4_costOf_X4_supposed : GoodIn wsX4_costOf (wsV RX4 121 RX4 yX4_supposed wsX4_supposed) := goodIn_app (goodIn_of _ (by decide +kernel)) ggX4_costOf_X4_supposed
set_option maxRecDepth 20000 in
theorem ggX4_costOf_X4_bears : GoodIn wsX4_costOf wsX4_bears := goodIn_r _ [62, 45, 46, 47, 6, 48, 49, 8, 50, 37, 38, 39, 40, 41, 42, 43, 44, 9, 10, 11, 12, 13, 14, 63, 64, 65, 66, 55, 56, 57, 58, 19, 26, 67, 68, 69, 70, 15, 16, 17, 18, 20, 21, 22, 23, 24, 25, 71, 72, 73, 74, 75, 76, 77, 78, 79, 80, 81, 82, 83, 84, 85, 86] (by decide +kernel) (by decide +kernel)
set_option maxRecDepth 20000 in
theorem gX4_costOf_X4_bears : GoodIn wsX4_costOf (wsV RX4 124 RX4 yX4_bears wsX4_bears) := goodIn_app (goodIn_of _ (by decide +kernel)) ggX4_costOf_X4_bears
theorem dX4_costOf_0 : decode cX4_costOf 0 = .ok (.aload_n 0, 1) := by decide +kernel
theorem dX4_costOf_1 : decode cX4_costOf 1 = .ok (.aload_n 0, 1) := by decide +kernel
theorem dX4_costOf_2 : decode cX4_costOf 2 = .ok (.getfield 22, 3) := by decide +kernel
theorem dX4_costOf_5 : decode cX4_costOf 5 = .ok (.iload_n 1, 1) := by decide +kernel
theorem dX4_costOf_6 : decode cX4_costOf 6 = .ok (.iaload, 1) := by decide +kernel
theorem dX4_costOf_7 : decode cX4_costOf 7 = .ok (.aload_n 0, 1) := by decide +kernel
theorem dX4_costOf_8 : decode cX4_costOf 8 = .ok (.iload_n 1, 1) := by decide +kernel
theorem dX4_costOf_9 : decode cX4_costOf 9 = .ok (.invokevirtual 118, 3) := by decide +kernel
theorem dX4_costOf_12 : decode cX4_costOf 12 = .ok (.i2l, 1) := by decide +kernel
theorem dX4_costOf_13 : decode cX4_costOf 13 = .ok (.invokevirtual 81, 3) := by decide +kernel
theorem dX4_costOf_16 : decode cX4_costOf 16 = .ok (.aload_n 0, 1) := by decide +kernel
theorem dX4_costOf_17 : decode cX4_costOf 17 = .ok (.getfield 34, 3) := by decide +kernel
theorem dX4_costOf_20 : decode cX4_costOf 20 = .ok (.iload_n 1, 1) := by decide +kernel
theorem dX4_costOf_21 : decode cX4_costOf 21 = .ok (.iaload, 1) := by decide +kernel
theorem dX4_costOf_22 : decode cX4_costOf 22 = .ok (.aload_n 0, 1) := by decide +kernel
theorem dX4_costOf_23 : decode cX4_costOf 23 = .ok (.iload_n 1, 1) := by decide +kernel
theorem dX4_costOf_24 : decode cX4_costOf 24 = .ok (.invokevirtual 90, 3) := by decide +kernel
theorem dX4_costOf_27 : decode cX4_costOf 27 = .ok (.isub, 1) := by decide +kernel
theorem dX4_costOf_28 : decode cX4_costOf 28 = .ok (.aload_n 0, 1) := by decide +kernel
theorem dX4_costOf_29 : decode cX4_costOf 29 = .ok (.iload_n 1, 1) := by decide +kernel
theorem dX4_costOf_30 : decode cX4_costOf 30 = .ok (.invokevirtual 112, 3) := by decide +kernel
theorem dX4_costOf_33 : decode cX4_costOf 33 = .ok (.isub, 1) := by decide +kernel
theorem dX4_costOf_34 : decode cX4_costOf 34 = .ok (.aload_n 0, 1) := by decide +kernel
theorem dX4_costOf_35 : decode cX4_costOf 35 = .ok (.iload_n 1, 1) := by decide +kernel
theorem dX4_costOf_36 : decode cX4_costOf 36 = .ok (.invokevirtual 103, 3) := by decide +kernel
theorem dX4_costOf_39 : decode cX4_costOf 39 = .ok (.imul, 1) := by decide +kernel
theorem dX4_costOf_40 : decode cX4_costOf 40 = .ok (.iadd, 1) := by decide +kernel
theorem dX4_costOf_41 : decode cX4_costOf 41 = .ok (.aload_n 0, 1) := by decide +kernel
theorem dX4_costOf_42 : decode cX4_costOf 42 = .ok (.iload_n 1, 1) := by decide +kernel
theorem dX4_costOf_43 : decode cX4_costOf 43 = .ok (.invokevirtual 121, 3) := by decide +kernel
theorem dX4_costOf_46 : decode cX4_costOf 46 = .ok (.isub, 1) := by decide +kernel
theorem dX4_costOf_47 : decode cX4_costOf 47 = .ok (.aload_n 0, 1) := by decide +kernel
theorem dX4_costOf_48 : decode cX4_costOf 48 = .ok (.iload_n 1, 1) := by decide +kernel
theorem dX4_costOf_49 : decode cX4_costOf 49 = .ok (.invokevirtual 124, 3) := by decide +kernel
theorem dX4_costOf_52 : decode cX4_costOf 52 = .ok (.iadd, 1) := by decide +kernel
theorem dX4_costOf_53 : decode cX4_costOf 53 = .ok (.ireturn, 1) := by decide +kernel
set_option maxRecDepth 20000 in
theorem ggX4_held_X4_isAsked : GoodIn wsX4_held wsX4_isAsked := goodIn_r _ [7, 8, 9, 10, 11, 6, 12, 32, 33, 34, 35, 36, 37, 38, 39, 40, 41, 42, 43, 44, 45, 46, 47] (by decide +kernel) (by decide +kernel)
set_option maxRecDepth 20000 in
theorem gX4_held_X4_isAsked : GoodIn wsX4_held (wsV RX4 86 RX4 yX4_isAsked wsX4_isAsked) := goodIn_app (goodIn_of _ (by decide +kernel)) ggX4_held_X4_isAsked
set_option maxRecDepth 20000 in
theorem ggX4_held_X4_in : GoodIn wsX4_held wsX4_in := goodIn_r _ [12] (by decide +kernel) (by decide +kernel)
set_option maxRecDepth 20000 in
theorem gX4_held_X4_in : GoodIn wsX4_held (va_wsS RX4 57 yX4_in wsX4_in) := goodIn_app (goodIn_of _ (by decide +kernel)) ggX4_held_X4_in
set_option maxRecDepth 20000 in
theorem ggX4_held_X4_fails : GoodIn wsX4_held wsX4_fails := goodIn_r _ [16, 9, 32, 33, 34, 35, 36, 37, 38, 39, 40, 41, 42, 43, 44, 45, 46, 47] (by decide +kernel) (by decide +kernel)
set_option maxRecDepth 20000 in
theorem gX4_held_X4_fails : GoodIn wsX4_held (wsV RX4 77 RX4 yX4_fails wsX4_fails) := goodIn_app (goodIn_of _ (by decide +kernel)) ggX4_held_X4_fails
set_option maxRecDepth 20000 in
theorem ggX4_held_X4_heldOf : GoodIn wsX4_held wsX4_heldOf := goodIn_r _ [20, 21, 22, 23, 24, 25, 26, 6, 27, 28, 29, 30, 31, 32, 33, 34, 35, 36, 37, 38, 39, 40, 41, 42, 43, 44, 45, 46, 47] (by decide +kernel) (by decide +kernel)
set_option maxRecDepth 20000 in
theorem gX4_held_X4_heldOf : GoodIn wsX4_held (wsV RX4 112 RX4 yX4_heldOf wsX4_heldOf) := goodIn_app (goodIn_of _ (by decide +kernel)) ggX4_held_X4_heldOf
theorem dX4_held_0 : decode cX4_held 0 = .ok (.aload_n 0, 1) := by decide +kernel
theorem dX4_held_1 : decode cX4_held 1 = .ok (.iload_n 1, 1) := by decide +kernel
theorem dX4_held_2 : decode cX4_held 2 = .ok (.invokevirtual 86, 3) := by decide +kernel
theorem dX4_held_5 : decode cX4_held 5 = .ok (.ifCond .ne 5, 3) := by decide +kernel
theorem dX4_held_8 : decode cX4_held 8 = .ok (.iconst 0, 1) := by decide +kernel
theorem dX4_held_9 : decode cX4_held 9 = .ok (.ireturn, 1) := by decide +kernel
theorem dX4_held_10 : decode cX4_held 10 = .ok (.iload_n 2, 1) := by decide +kernel
theorem dX4_held_11 : decode cX4_held 11 = .ok (.iconst 0, 1) := by decide +kernel
theorem dX4_held_12 : decode cX4_held 12 = .ok (.bipush 11, 2) := by decide +kernel
theorem dX4_held_14 : decode cX4_held 14 = .ok (.invokestatic 57, 3) := by decide +kernel
theorem dX4_held_17 : decode cX4_held 17 = .ok (.ifCond .ne 9, 3) := by decide +kernel
theorem dX4_held_20 : decode cX4_held 20 = .ok (.aload_n 0, 1) := by decide +kernel
theorem dX4_held_21 : decode cX4_held 21 = .ok (.iconst 2, 1) := by decide +kernel
theorem dX4_held_22 : decode cX4_held 22 = .ok (.invokevirtual 77, 3) := by decide +kernel
theorem dX4_held_25 : decode cX4_held 25 = .ok (.ireturn, 1) := by decide +kernel
theorem dX4_held_26 : decode cX4_held 26 = .ok (.iload_n 2, 1) := by decide +kernel
theorem dX4_held_27 : decode cX4_held 27 = .ok (.aload_n 0, 1) := by decide +kernel
theorem dX4_held_28 : decode cX4_held 28 = .ok (.getfield 28, 3) := by decide +kernel
theorem dX4_held_31 : decode cX4_held 31 = .ok (.iload_n 1, 1) := by decide +kernel
theorem dX4_held_32 : decode cX4_held 32 = .ok (.iaload, 1) := by decide +kernel
theorem dX4_held_33 : decode cX4_held 33 = .ok (.if_icmp .lt 21, 3) := by decide +kernel
theorem dX4_held_36 : decode cX4_held 36 = .ok (.iload_n 2, 1) := by decide +kernel
theorem dX4_held_37 : decode cX4_held 37 = .ok (.aload_n 0, 1) := by decide +kernel
theorem dX4_held_38 : decode cX4_held 38 = .ok (.getfield 31, 3) := by decide +kernel
theorem dX4_held_41 : decode cX4_held 41 = .ok (.iload_n 1, 1) := by decide +kernel
theorem dX4_held_42 : decode cX4_held 42 = .ok (.iaload, 1) := by decide +kernel
theorem dX4_held_43 : decode cX4_held 43 = .ok (.if_icmp .ge 11, 3) := by decide +kernel
theorem dX4_held_46 : decode cX4_held 46 = .ok (.aload_n 0, 1) := by decide +kernel
theorem dX4_held_47 : decode cX4_held 47 = .ok (.iload_n 1, 1) := by decide +kernel
theorem dX4_held_48 : decode cX4_held 48 = .ok (.invokevirtual 112, 3) := by decide +kernel
theorem dX4_held_51 : decode cX4_held 51 = .ok (.goto 4, 3) := by decide +kernel
theorem dX4_held_54 : decode cX4_held 54 = .ok (.iconst 0, 1) := by decide +kernel
theorem dX4_held_55 : decode cX4_held 55 = .ok (.ireturn, 1) := by decide +kernel
set_option maxRecDepth 20000 in
theorem ggX4_supposedTax_X4_isAsked : GoodIn wsX4_supposedTax wsX4_isAsked := goodIn_r _ [5, 6, 7, 8, 9, 4, 10, 31, 32, 33, 34, 35, 36, 37, 38, 39, 40, 41, 42, 43, 44, 45, 46] (by decide +kernel) (by decide +kernel)
set_option maxRecDepth 20000 in
theorem gX4_supposedTax_X4_isAsked : GoodIn wsX4_supposedTax (wsV RX4 86 RX4 yX4_isAsked wsX4_isAsked) := goodIn_app (goodIn_of _ (by decide +kernel)) ggX4_supposedTax_X4_isAsked
set_option maxRecDepth 20000 in
theorem ggX4_supposedTax_X4_supposed : GoodIn wsX4_supposedTax wsX4_supposed := goodIn_r _ [14, 15, 16, 17, 18, 4, 19, 20, 21, 22, 23, 24, 25, 26, 27, 28, 29, 30, 31, 32, 33, 34, 35, 36, 37, 38, 39, 40, 41, 42, 43, 44, 45, 46] (by decide +kernel) (by decide +kernel)
set_option maxRecDepth 20000 in
theorem gX4_supposedTax_X4_supposed : GoodIn wsX4_supposedTax (wsV RX4 121 RX4 yX4_supposed wsX4_supposed) := goodIn_app (goodIn_of _ (by decide +kernel)) ggX4_supposedTax_X4_supposed
theorem dX4_supposedTax_0 : decode cX4_supposedTax 0 = .ok (.aload_n 0, 1) := by decide +kernel
theorem dX4_supposedTax_1 : decode cX4_supposedTax 1 = .ok (.iload_n 1, 1) := by decide +kernel
theorem dX4_supposedTax_2 : decode cX4_supposedTax 2 = .ok (.invokevirtual 86, 3) := by decide +kernel
theorem dX4_supposedTax_5 : decode cX4_supposedTax 5 = .ok (.ifCond .eq 11, 3) := by decide +kernel
theorem dX4_supposedTax_8 : decode cX4_supposedTax 8 = .ok (.aload_n 0, 1) := by decide +kernel
theorem dX4_supposedTax_9 : decode cX4_supposedTax 9 = .ok (.iload_n 1, 1) := by decide +kernel
theorem dX4_supposedTax_10 : decode cX4_supposedTax 10 = .ok (.invokevirtual 121, 3) := by decide +kernel
theorem dX4_supposedTax_13 : decode cX4_supposedTax 13 = .ok (.goto 4, 3) := by decide +kernel
theorem dX4_supposedTax_16 : decode cX4_supposedTax 16 = .ok (.iconst 0, 1) := by decide +kernel
theorem dX4_supposedTax_17 : decode cX4_supposedTax 17 = .ok (.ireturn, 1) := by decide +kernel
set_option maxRecDepth 20000 in
theorem ggX4_homeIncome_X4_isAsked : GoodIn wsX4_homeIncome wsX4_isAsked := goodIn_r _ [5, 6, 7, 8, 9, 4, 10, 38, 39, 40, 41, 42, 43, 44, 45, 46, 47, 48, 49, 50, 51, 52, 53] (by decide +kernel) (by decide +kernel)
set_option maxRecDepth 20000 in
theorem gX4_homeIncome_X4_isAsked : GoodIn wsX4_homeIncome (wsV RX4 86 RX4 yX4_isAsked wsX4_isAsked) := goodIn_app (goodIn_of _ (by decide +kernel)) ggX4_homeIncome_X4_isAsked
set_option maxRecDepth 20000 in
theorem ggX4_homeIncome_X4_atHome : GoodIn wsX4_homeIncome wsX4_atHome := goodIn_r _ [14, 15, 16, 17, 18, 4, 19, 20, 21, 22, 23, 24, 25, 26, 27, 28, 29, 30, 31, 32, 33, 34, 35, 36, 37, 38, 39, 40, 41, 42, 43, 44, 45, 46, 47, 48, 49, 50, 51, 52, 53] (by decide +kernel) (by decide +kernel)
set_option maxRecDepth 20000 in
theorem gX4_homeIncome_X4_atHome : GoodIn wsX4_homeIncome (wsV RX4 109 RX4 yX4_atHome wsX4_atHome) := goodIn_app (goodIn_of _ (by decide +kernel)) ggX4_homeIncome_X4_atHome
theorem dX4_homeIncome_0 : decode cX4_homeIncome 0 = .ok (.aload_n 0, 1) := by decide +kernel
theorem dX4_homeIncome_1 : decode cX4_homeIncome 1 = .ok (.iload_n 1, 1) := by decide +kernel
theorem dX4_homeIncome_2 : decode cX4_homeIncome 2 = .ok (.invokevirtual 86, 3) := by decide +kernel
theorem dX4_homeIncome_5 : decode cX4_homeIncome 5 = .ok (.ifCond .eq 11, 3) := by decide +kernel
theorem dX4_homeIncome_8 : decode cX4_homeIncome 8 = .ok (.aload_n 0, 1) := by decide +kernel
theorem dX4_homeIncome_9 : decode cX4_homeIncome 9 = .ok (.iload_n 1, 1) := by decide +kernel
theorem dX4_homeIncome_10 : decode cX4_homeIncome 10 = .ok (.invokevirtual 109, 3) := by decide +kernel
theorem dX4_homeIncome_13 : decode cX4_homeIncome 13 = .ok (.goto 4, 3) := by decide +kernel
theorem dX4_homeIncome_16 : decode cX4_homeIncome 16 = .ok (.iconst 0, 1) := by decide +kernel
theorem dX4_homeIncome_17 : decode cX4_homeIncome 17 = .ok (.ireturn, 1) := by decide +kernel
set_option maxRecDepth 20000 in
theorem ggX4_homeTax_X4_isAsked : GoodIn wsX4_homeTax wsX4_isAsked := goodIn_r _ [5, 6, 7, 8, 9, 4, 10, 51, 52, 53, 54, 55, 56, 57, 58, 59, 60, 61, 62, 63, 64, 65, 66] (by decide +kernel) (by decide +kernel)
set_option maxRecDepth 20000 in
theorem gX4_homeTax_X4_isAsked : GoodIn wsX4_homeTax (wsV RX4 86 RX4 yX4_isAsked wsX4_isAsked) := goodIn_app (goodIn_of _ (by decide +kernel)) ggX4_homeTax_X4_isAsked
set_option maxRecDepth 20000 in
theorem ggX4_homeTax_X4_taxAtHome : GoodIn wsX4_homeTax wsX4_taxAtHome := goodIn_r _ [14, 15, 16, 17, 18, 4, 19, 20, 21, 22, 23, 24, 25, 26, 27, 28, 29, 30, 31, 32, 33, 34, 35, 36, 37, 38, 39, 40, 41, 42, 43, 44, 45, 46, 47, 48, 49, 50, 51, 52, 53, 54, 55, 56, 57, 58, 59, 60, 61, 62, 63, 64, 65, 66] (by decide +kernel) (by decide +kernel)
set_option maxRecDepth 20000 in
theorem gX4_homeTax_X4_taxAtHome : GoodIn wsX4_homeTax (wsV RX4 115 RX4 yX4_taxAtHome wsX4_taxAtHome) := goodIn_app (goodIn_of _ (by decide +kernel)) ggX4_homeTax_X4_taxAtHome
theorem dX4_homeTax_0 : decode cX4_homeTax 0 = .ok (.aload_n 0, 1) := by decide +kernel
theorem dX4_homeTax_1 : decode cX4_homeTax 1 = .ok (.iload_n 1, 1) := by decide +kernel
theorem dX4_homeTax_2 : decode cX4_homeTax 2 = .ok (.invokevirtual 86, 3) := by decide +kernel
theorem dX4_homeTax_5 : decode cX4_homeTax 5 = .ok (.ifCond .eq 11, 3) := by decide +kernel
theorem dX4_homeTax_8 : decode cX4_homeTax 8 = .ok (.aload_n 0, 1) := by decide +kernel
theorem dX4_homeTax_9 : decode cX4_homeTax 9 = .ok (.iload_n 1, 1) := by decide +kernel
theorem dX4_homeTax_10 : decode cX4_homeTax 10 = .ok (.invokevirtual 115, 3) := by decide +kernel
theorem dX4_homeTax_13 : decode cX4_homeTax 13 = .ok (.goto 4, 3) := by decide +kernel
theorem dX4_homeTax_16 : decode cX4_homeTax 16 = .ok (.iconst 0, 1) := by decide +kernel
theorem dX4_homeTax_17 : decode cX4_homeTax 17 = .ok (.ireturn, 1) := by decide +kernel
set_option maxRecDepth 20000 in
theorem ggX4_hostIncome_X4_isAsked : GoodIn wsX4_hostIncome wsX4_isAsked := goodIn_r _ [5, 6, 7, 8, 9, 4, 10, 40, 41, 42, 43, 44, 45, 46, 47, 48, 49, 50, 51, 52, 53, 54, 55] (by decide +kernel) (by decide +kernel)
set_option maxRecDepth 20000 in
theorem gX4_hostIncome_X4_isAsked : GoodIn wsX4_hostIncome (wsV RX4 86 RX4 yX4_isAsked wsX4_isAsked) := goodIn_app (goodIn_of _ (by decide +kernel)) ggX4_hostIncome_X4_isAsked
set_option maxRecDepth 20000 in
theorem ggX4_hostIncome_X4_abroad : GoodIn wsX4_hostIncome wsX4_abroad := goodIn_r _ [14, 15, 16, 17, 18, 19, 4, 20, 21, 22, 23, 24, 25, 26, 27, 28, 29, 30, 31, 32, 33, 34, 35, 36, 37, 38, 39, 40, 41, 42, 43, 44, 45, 46, 47, 48, 49, 50, 51, 52, 53, 54, 55] (by decide +kernel) (by decide +kernel)
set_option maxRecDepth 20000 in
theorem gX4_hostIncome_X4_abroad : GoodIn wsX4_hostIncome (wsV RX4 118 RX4 yX4_abroad wsX4_abroad) := goodIn_app (goodIn_of _ (by decide +kernel)) ggX4_hostIncome_X4_abroad
theorem dX4_hostIncome_0 : decode cX4_hostIncome 0 = .ok (.aload_n 0, 1) := by decide +kernel
theorem dX4_hostIncome_1 : decode cX4_hostIncome 1 = .ok (.iload_n 1, 1) := by decide +kernel
theorem dX4_hostIncome_2 : decode cX4_hostIncome 2 = .ok (.invokevirtual 86, 3) := by decide +kernel
theorem dX4_hostIncome_5 : decode cX4_hostIncome 5 = .ok (.ifCond .eq 11, 3) := by decide +kernel
theorem dX4_hostIncome_8 : decode cX4_hostIncome 8 = .ok (.aload_n 0, 1) := by decide +kernel
theorem dX4_hostIncome_9 : decode cX4_hostIncome 9 = .ok (.iload_n 1, 1) := by decide +kernel
theorem dX4_hostIncome_10 : decode cX4_hostIncome 10 = .ok (.invokevirtual 118, 3) := by decide +kernel
theorem dX4_hostIncome_13 : decode cX4_hostIncome 13 = .ok (.goto 4, 3) := by decide +kernel
theorem dX4_hostIncome_16 : decode cX4_hostIncome 16 = .ok (.iconst 0, 1) := by decide +kernel
theorem dX4_hostIncome_17 : decode cX4_hostIncome 17 = .ok (.ireturn, 1) := by decide +kernel
set_option maxRecDepth 20000 in
theorem ggX4_hostTax_X4_isAsked : GoodIn wsX4_hostTax wsX4_isAsked := goodIn_r _ [6, 7, 8, 9, 10, 5, 11, 54, 55, 56, 57, 58, 59, 60, 61, 62, 63, 64, 65, 66, 67, 68, 69] (by decide +kernel) (by decide +kernel)
set_option maxRecDepth 20000 in
theorem gX4_hostTax_X4_isAsked : GoodIn wsX4_hostTax (wsV RX4 86 RX4 yX4_isAsked wsX4_isAsked) := goodIn_app (goodIn_of _ (by decide +kernel)) ggX4_hostTax_X4_isAsked
set_option maxRecDepth 20000 in
theorem ggX4_hostTax_X4_abroad : GoodIn wsX4_hostTax wsX4_abroad := goodIn_r _ [15, 16, 17, 18, 19, 20, 5, 21, 22, 23, 24, 25, 26, 27, 28, 29, 30, 31, 32, 33, 34, 35, 36, 37, 38, 39, 40, 54, 55, 56, 57, 58, 59, 60, 61, 62, 63, 64, 65, 66, 67, 68, 69] (by decide +kernel) (by decide +kernel)
set_option maxRecDepth 20000 in
theorem gX4_hostTax_X4_abroad : GoodIn wsX4_hostTax (wsV RX4 118 RX4 yX4_abroad wsX4_abroad) := goodIn_app (goodIn_of _ (by decide +kernel)) ggX4_hostTax_X4_abroad
set_option maxRecDepth 20000 in
theorem ggX4_hostTax_X4_gross : GoodIn wsX4_hostTax wsX4_gross := goodIn_r _ [44, 45, 46, 47, 48, 5, 49, 50, 51, 52, 53, 54, 55, 56, 57, 58, 59, 60, 61, 62, 63, 64, 65, 66, 67, 68, 69] (by decide +kernel) (by decide +kernel)
set_option maxRecDepth 20000 in
theorem gX4_hostTax_X4_gross : GoodIn wsX4_hostTax (wsV RX4 81 RX4 yX4_gross wsX4_gross) := goodIn_app (goodIn_of _ (by decide +kernel)) ggX4_hostTax_X4_gross
theorem dX4_hostTax_0 : decode cX4_hostTax 0 = .ok (.aload_n 0, 1) := by decide +kernel
theorem dX4_hostTax_1 : decode cX4_hostTax 1 = .ok (.iload_n 1, 1) := by decide +kernel
theorem dX4_hostTax_2 : decode cX4_hostTax 2 = .ok (.invokevirtual 86, 3) := by decide +kernel
theorem dX4_hostTax_5 : decode cX4_hostTax 5 = .ok (.ifCond .eq 22, 3) := by decide +kernel
theorem dX4_hostTax_8 : decode cX4_hostTax 8 = .ok (.aload_n 0, 1) := by decide +kernel
theorem dX4_hostTax_9 : decode cX4_hostTax 9 = .ok (.aload_n 0, 1) := by decide +kernel
theorem dX4_hostTax_10 : decode cX4_hostTax 10 = .ok (.getfield 22, 3) := by decide +kernel
theorem dX4_hostTax_13 : decode cX4_hostTax 13 = .ok (.iload_n 1, 1) := by decide +kernel
theorem dX4_hostTax_14 : decode cX4_hostTax 14 = .ok (.iaload, 1) := by decide +kernel
theorem dX4_hostTax_15 : decode cX4_hostTax 15 = .ok (.aload_n 0, 1) := by decide +kernel
theorem dX4_hostTax_16 : decode cX4_hostTax 16 = .ok (.iload_n 1, 1) := by decide +kernel
theorem dX4_hostTax_17 : decode cX4_hostTax 17 = .ok (.invokevirtual 118, 3) := by decide +kernel
theorem dX4_hostTax_20 : decode cX4_hostTax 20 = .ok (.i2l, 1) := by decide +kernel
theorem dX4_hostTax_21 : decode cX4_hostTax 21 = .ok (.invokevirtual 81, 3) := by decide +kernel
theorem dX4_hostTax_24 : decode cX4_hostTax 24 = .ok (.goto 4, 3) := by decide +kernel
theorem dX4_hostTax_27 : decode cX4_hostTax 27 = .ok (.iconst 0, 1) := by decide +kernel
theorem dX4_hostTax_28 : decode cX4_hostTax 28 = .ok (.ireturn, 1) := by decide +kernel
set_option maxRecDepth 20000 in
theorem ggX4_borne_X4_isAsked : GoodIn wsX4_borne wsX4_isAsked := goodIn_r _ [5, 6, 7, 8, 9, 4, 10, 60, 61, 62, 63, 64, 65, 66, 67, 68, 69, 70, 71, 72, 73, 74, 75] (by decide +kernel) (by decide +kernel)
set_option maxRecDepth 20000 in
theorem gX4_borne_X4_isAsked : GoodIn wsX4_borne (wsV RX4 86 RX4 yX4_isAsked wsX4_isAsked) := goodIn_app (goodIn_of _ (by decide +kernel)) ggX4_borne_X4_isAsked
set_option maxRecDepth 20000 in
theorem ggX4_borne_X4_bears : GoodIn wsX4_borne wsX4_bears := goodIn_r _ [14, 15, 16, 17, 4, 18, 19, 20, 21, 22, 23, 24, 25, 26, 27, 28, 29, 30, 31, 32, 33, 34, 35, 36, 37, 38, 39, 40, 41, 42, 43, 44, 45, 46, 47, 48, 49, 50, 51, 52, 53, 54, 55, 56, 57, 58, 59, 60, 61, 62, 63, 64, 65, 66, 67, 68, 69, 70, 71, 72, 73, 74, 75] (by decide +kernel) (by decide +kernel)
set_option maxRecDepth 20000 in
theorem gX4_borne_X4_bears : GoodIn wsX4_borne (wsV RX4 124 RX4 yX4_bears wsX4_bears) := goodIn_app (goodIn_of _ (by decide +kernel)) ggX4_borne_X4_bears
theorem dX4_borne_0 : decode cX4_borne 0 = .ok (.aload_n 0, 1) := by decide +kernel
theorem dX4_borne_1 : decode cX4_borne 1 = .ok (.iload_n 1, 1) := by decide +kernel
theorem dX4_borne_2 : decode cX4_borne 2 = .ok (.invokevirtual 86, 3) := by decide +kernel
theorem dX4_borne_5 : decode cX4_borne 5 = .ok (.ifCond .eq 11, 3) := by decide +kernel
theorem dX4_borne_8 : decode cX4_borne 8 = .ok (.aload_n 0, 1) := by decide +kernel
theorem dX4_borne_9 : decode cX4_borne 9 = .ok (.iload_n 1, 1) := by decide +kernel
theorem dX4_borne_10 : decode cX4_borne 10 = .ok (.invokevirtual 124, 3) := by decide +kernel
theorem dX4_borne_13 : decode cX4_borne 13 = .ok (.goto 4, 3) := by decide +kernel
theorem dX4_borne_16 : decode cX4_borne 16 = .ok (.iconst 0, 1) := by decide +kernel
theorem dX4_borne_17 : decode cX4_borne 17 = .ok (.ireturn, 1) := by decide +kernel
set_option maxRecDepth 20000 in
theorem ggX4_settlement_X4_isAsked : GoodIn wsX4_settlement wsX4_isAsked := goodIn_r _ [5, 6, 7, 8, 9, 4, 10, 64, 65, 66, 67, 68, 69, 70, 71, 72, 73, 74, 75, 76, 77, 78, 79] (by decide +kernel) (by decide +kernel)
set_option maxRecDepth 20000 in
theorem gX4_settlement_X4_isAsked : GoodIn wsX4_settlement (wsV RX4 86 RX4 yX4_isAsked wsX4_isAsked) := goodIn_app (goodIn_of _ (by decide +kernel)) ggX4_settlement_X4_isAsked
set_option maxRecDepth 20000 in
theorem ggX4_settlement_X4_supposed : GoodIn wsX4_settlement wsX4_supposed := goodIn_r _ [14, 15, 16, 17, 18, 4, 19, 20, 21, 22, 23, 24, 25, 26, 27, 28, 29, 30, 64, 65, 66, 67, 68, 69, 70, 71, 72, 73, 74, 75, 76, 77, 78, 79] (by decide +kernel) (by decide +kernel)
set_option maxRecDepth 20000 in
theorem gX4_settlement_X4_supposed : GoodIn wsX4_settlement (wsV RX4 121 RX4 yX4_supposed wsX4_supposed) := goodIn_app (goodIn_of _ (by decide +kernel)) ggX4_settlement_X4_supposed
set_option maxRecDepth 20000 in
theorem ggX4_settlement_X4_bears : GoodIn wsX4_settlement wsX4_bears := goodIn_r _ [34, 35, 36, 37, 4, 38, 15, 20, 39, 23, 24, 25, 26, 27, 28, 29, 30, 40, 41, 42, 43, 44, 45, 46, 47, 48, 49, 16, 17, 18, 19, 21, 22, 50, 51, 52, 53, 54, 55, 56, 57, 58, 59, 60, 61, 62, 63, 64, 65, 66, 67, 68, 69, 70, 71, 72, 73, 74, 75, 76, 77, 78, 79] (by decide +kernel) (by decide +kernel)
set_option maxRecDepth 20000 in
theorem gX4_settlement_X4_bears : GoodIn wsX4_settlement (wsV RX4 124 RX4 yX4_bears wsX4_bears) := goodIn_app (goodIn_of _ (by decide +kernel)) ggX4_settlement_X4_bears
theorem dX4_settlement_0 : decode cX4_settlement 0 = .ok (.aload_n 0, 1) := by decide +kernel
theorem dX4_settlement_1 : decode cX4_settlement 1 = .ok (.iload_n 1, 1) := by decide +kernel
theorem dX4_settlement_2 : decode cX4_settlement 2 = .ok (.invokevirtual 86, 3) := by decide +kernel
theorem dX4_settlement_5 : decode cX4_settlement 5 = .ok (.ifCond .eq 17, 3) := by decide +kernel
theorem dX4_settlement_8 : decode cX4_settlement 8 = .ok (.aload_n 0, 1) := by decide +kernel
theorem dX4_settlement_9 : decode cX4_settlement 9 = .ok (.iload_n 1, 1) := by decide +kernel
theorem dX4_settlement_10 : decode cX4_settlement 10 = .ok (.invokevirtual 121, 3) := by decide +kernel
theorem dX4_settlement_13 : decode cX4_settlement 13 = .ok (.aload_n 0, 1) := by decide +kernel
theorem dX4_settlement_14 : decode cX4_settlement 14 = .ok (.iload_n 1, 1) := by decide +kernel
theorem dX4_settlement_15 : decode cX4_settlement 15 = .ok (.invokevirtual 124, 3) := by decide +kernel
theorem dX4_settlement_18 : decode cX4_settlement 18 = .ok (.isub, 1) := by decide +kernel
theorem dX4_settlement_19 : decode cX4_settlement 19 = .ok (.goto 4, 3) := by decide +kernel
theorem dX4_settlement_22 : decode cX4_settlement 22 = .ok (.iconst 0, 1) := by decide +kernel
theorem dX4_settlement_23 : decode cX4_settlement 23 = .ok (.ireturn, 1) := by decide +kernel
set_option maxRecDepth 20000 in
theorem ggX4_cost_X4_isAsked : GoodIn wsX4_cost wsX4_isAsked := goodIn_r _ [5, 6, 7, 8, 9, 4, 10, 84, 85, 86, 87, 88, 89, 90, 91, 92, 93, 94, 95, 96, 97, 98, 99] (by decide +kernel) (by decide +kernel)
set_option maxRecDepth 20000 in
theorem gX4_cost_X4_isAsked : GoodIn wsX4_cost (wsV RX4 86 RX4 yX4_isAsked wsX4_isAsked) := goodIn_app (goodIn_of _ (by decide +kernel)) ggX4_cost_X4_isAsked
set_option maxRecDepth 20000 in
theorem ggX4_cost_X4_costOf : GoodIn wsX4_cost wsX4_costOf := goodIn_r _ [14, 15, 16, 17, 18, 19, 4, 20, 21, 22, 23, 24, 25, 26, 27, 28, 29, 30, 31, 32, 33, 34, 35, 36, 37, 38, 39, 40, 41, 42, 43, 44, 45, 46, 47, 48, 49, 50, 51, 52, 53, 54, 55, 56, 57, 58, 59, 60, 61, 62, 63, 64, 65, 66, 67, 68, 69, 70, 71, 72, 73, 74, 75, 76, 77, 78, 79, 80, 81, 82, 83, 84, 85, 86, 87, 88, 89, 90, 91, 92, 93, 94, 95, 96, 97, 98, 99] (by decide +kernel) (by decide +kernel)
set_option maxRecDepth 20000 in
theorem gX4_cost_X4_costOf : GoodIn wsX4_cost (wsV RX4 127 RX4 yX4_costOf wsX4_costOf) := goodIn_app (goodIn_of _ (by decide +kernel)) ggX4_cost_X4_costOf
theorem dX4_cost_0 : decode cX4_cost 0 = .ok (.aload_n 0, 1) := by decide +kernel
end
section
theorem dX4_cost_1 : decode cX4_cost 1 = .ok (.iload_n 1, 1) := by decide +kernel
theorem dX4_cost_2 : decode cX4_cost 2 = .ok (.invokevirtual 86, 3) := by decide +kernel
theorem dX4_cost_5 : decode cX4_cost 5 = .ok (.ifCond .eq 11, 3) := by decide +kernel
theorem dX4_cost_8 : decode cX4_cost 8 = .ok (.aload_n 0, 1) := by decide +kernel
theorem dX4_cost_9 : decode cX4_cost 9 = .ok (.iload_n 1, 1) := by decide +kernel
theorem dX4_cost_10 : decode cX4_cost 10 = .ok (.invokevirtual 127, 3) := by decide +kernel
theorem dX4_cost_13 : decode cX4_cost 13 = .ok (.goto 4, 3) := by decide +kernel
theorem dX4_cost_16 : decode cX4_cost 16 = .ok (.iconst 0, 1) := by decide +kernel
theorem dX4_cost_17 : decode cX4_cost 17 = .ok (.ireturn, 1) := by decide +kernel
set_option maxRecDepth 20000 in
theorem ggX4_dearest_X4_costOf : GoodIn wsX4_dearest wsX4_costOf := goodIn_r _ [7, 8, 9, 10, 11, 12, 6, 13, 14, 15, 16, 17, 18, 19, 20, 21, 22, 23, 24, 25, 26, 27, 28, 29, 30, 31, 32, 33, 34, 35, 36, 37, 38, 39, 40, 41, 42, 43, 44, 45, 46, 47, 48, 49, 50, 51, 52, 53, 54, 55, 56, 57, 58, 59, 60, 61, 62, 63, 64, 65, 66, 67, 68, 69, 70, 71, 72, 73, 74, 75, 76, 77, 78, 79, 80, 81, 82, 83, 84, 85, 86, 87, 88, 89, 90, 91, 92] (by decide +kernel) (by decide +kernel)
set_option maxRecDepth 20000 in
theorem gX4_dearest_X4_costOf : GoodIn wsX4_dearest (wsV RX4 127 RX4 yX4_costOf wsX4_costOf) := goodIn_app (goodIn_of _ (by decide +kernel)) ggX4_dearest_X4_costOf
theorem dX4_dearest_0 : decode cX4_dearest 0 = .ok (.aload_n 0, 1) := by decide +kernel
theorem dX4_dearest_1 : decode cX4_dearest 1 = .ok (.iconst 0, 1) := by decide +kernel
theorem dX4_dearest_2 : decode cX4_dearest 2 = .ok (.putfield 53, 3) := by decide +kernel
theorem dX4_dearest_5 : decode cX4_dearest 5 = .ok (.iconst (-1), 1) := by decide +kernel
theorem dX4_dearest_6 : decode cX4_dearest 6 = .ok (.istore_n 1, 1) := by decide +kernel
theorem dX4_dearest_7 : decode cX4_dearest 7 = .ok (.aload_n 0, 1) := by decide +kernel
theorem dX4_dearest_8 : decode cX4_dearest 8 = .ok (.getfield 61, 3) := by decide +kernel
theorem dX4_dearest_11 : decode cX4_dearest 11 = .ok (.iconst 1, 1) := by decide +kernel
theorem dX4_dearest_12 : decode cX4_dearest 12 = .ok (.isub, 1) := by decide +kernel
theorem dX4_dearest_13 : decode cX4_dearest 13 = .ok (.istore_n 2, 1) := by decide +kernel
theorem dX4_dearest_14 : decode cX4_dearest 14 = .ok (.iload_n 2, 1) := by decide +kernel
theorem dX4_dearest_15 : decode cX4_dearest 15 = .ok (.ifCond .lt 32, 3) := by decide +kernel
theorem dX4_dearest_18 : decode cX4_dearest 18 = .ok (.iload_n 1, 1) := by decide +kernel
theorem dX4_dearest_19 : decode cX4_dearest 19 = .ok (.ifCond .lt 16, 3) := by decide +kernel
theorem dX4_dearest_22 : decode cX4_dearest 22 = .ok (.aload_n 0, 1) := by decide +kernel
theorem dX4_dearest_23 : decode cX4_dearest 23 = .ok (.iload_n 2, 1) := by decide +kernel
theorem dX4_dearest_24 : decode cX4_dearest 24 = .ok (.invokevirtual 127, 3) := by decide +kernel
theorem dX4_dearest_27 : decode cX4_dearest 27 = .ok (.aload_n 0, 1) := by decide +kernel
theorem dX4_dearest_28 : decode cX4_dearest 28 = .ok (.iload_n 1, 1) := by decide +kernel
theorem dX4_dearest_29 : decode cX4_dearest 29 = .ok (.invokevirtual 127, 3) := by decide +kernel
theorem dX4_dearest_32 : decode cX4_dearest 32 = .ok (.if_icmp .lt 7, 3) := by decide +kernel
theorem dX4_dearest_35 : decode cX4_dearest 35 = .ok (.iload_n 2, 1) := by decide +kernel
theorem dX4_dearest_36 : decode cX4_dearest 36 = .ok (.goto 4, 3) := by decide +kernel
theorem dX4_dearest_39 : decode cX4_dearest 39 = .ok (.iload_n 1, 1) := by decide +kernel
theorem dX4_dearest_40 : decode cX4_dearest 40 = .ok (.istore_n 1, 1) := by decide +kernel
theorem dX4_dearest_41 : decode cX4_dearest 41 = .ok (.iinc 2 (-1), 3) := by decide +kernel
theorem dX4_dearest_44 : decode cX4_dearest 44 = .ok (.goto (-30), 3) := by decide +kernel
theorem dX4_dearest_47 : decode cX4_dearest 47 = .ok (.iload_n 1, 1) := by decide +kernel
theorem dX4_dearest_48 : decode cX4_dearest 48 = .ok (.ireturn, 1) := by decide +kernel
theorem dJ9_max_7cf53_0 : decode cJ9_max_7cf53 0 = .ok (.iload_n 0, 1) := by decide +kernel
theorem dJ9_max_7cf53_1 : decode cJ9_max_7cf53 1 = .ok (.iload_n 1, 1) := by decide +kernel
theorem dJ9_max_7cf53_2 : decode cJ9_max_7cf53 2 = .ok (.if_icmp .lt 7, 3) := by decide +kernel
theorem dJ9_max_7cf53_5 : decode cJ9_max_7cf53 5 = .ok (.iload_n 0, 1) := by decide +kernel
theorem dJ9_max_7cf53_6 : decode cJ9_max_7cf53 6 = .ok (.goto 4, 3) := by decide +kernel
theorem dJ9_max_7cf53_9 : decode cJ9_max_7cf53 9 = .ok (.iload_n 1, 1) := by decide +kernel
theorem dJ9_max_7cf53_10 : decode cJ9_max_7cf53 10 = .ok (.ireturn, 1) := by decide +kernel
theorem dJ9_min_7cf53_0 : decode cJ9_min_7cf53 0 = .ok (.iload_n 0, 1) := by decide +kernel
theorem dJ9_min_7cf53_1 : decode cJ9_min_7cf53 1 = .ok (.iload_n 1, 1) := by decide +kernel
theorem dJ9_min_7cf53_2 : decode cJ9_min_7cf53 2 = .ok (.if_icmp .gt 7, 3) := by decide +kernel
theorem dJ9_min_7cf53_5 : decode cJ9_min_7cf53 5 = .ok (.iload_n 0, 1) := by decide +kernel
theorem dJ9_min_7cf53_6 : decode cJ9_min_7cf53 6 = .ok (.goto 4, 3) := by decide +kernel
theorem dJ9_min_7cf53_9 : decode cJ9_min_7cf53 9 = .ok (.iload_n 1, 1) := by decide +kernel
theorem dJ9_min_7cf53_10 : decode cJ9_min_7cf53 10 = .ok (.ireturn, 1) := by decide +kernel
theorem dJxa1e45_init_da8c8_0 : decode cJxa1e45_init_da8c8 0 = .ok (.aload_n 0, 1) := by decide +kernel
theorem dJxa1e45_init_da8c8_1 : decode cJxa1e45_init_da8c8 1 = .ok (.invokespecial 1, 3) := by decide +kernel
theorem dJxa1e45_init_da8c8_4 : decode cJxa1e45_init_da8c8 4 = .ok (.return_, 1) := by decide +kernel
set_option maxRecDepth 20000 in
theorem ggJxc12de_init_da8c8_Jxa1e45_init_da8c8 : GoodIn wsJxc12de_init_da8c8 wsJxa1e45_init_da8c8 := goodIn_r _ [5, 6, 7, 8] (by decide +kernel) (by decide +kernel)
set_option maxRecDepth 20000 in
theorem gJxc12de_init_da8c8_Jxa1e45_init_da8c8 : GoodIn wsJxc12de_init_da8c8 (wsJxa1e45_init_da8c8) := ggJxc12de_init_da8c8_Jxa1e45_init_da8c8
theorem dJxc12de_init_da8c8_0 : decode cJxc12de_init_da8c8 0 = .ok (.aload_n 0, 1) := by decide +kernel
theorem dJxc12de_init_da8c8_1 : decode cJxc12de_init_da8c8 1 = .ok (.invokespecial 1, 3) := by decide +kernel
theorem dJxc12de_init_da8c8_4 : decode cJxc12de_init_da8c8 4 = .ok (.aload_n 0, 1) := by decide +kernel
theorem dJxc12de_init_da8c8_5 : decode cJxc12de_init_da8c8 5 = .ok (.iconst 0, 1) := by decide +kernel
theorem dJxc12de_init_da8c8_6 : decode cJxc12de_init_da8c8 6 = .ok (.putfield 7, 3) := by decide +kernel
theorem dJxc12de_init_da8c8_9 : decode cJxc12de_init_da8c8 9 = .ok (.return_, 1) := by decide +kernel
set_option maxRecDepth 20000 in
theorem ggJx4a65c_init_da8c8_Jxc12de_init_da8c8 : GoodIn wsJx4a65c_init_da8c8 wsJxc12de_init_da8c8 := goodIn_r _ [6, 7, 8, 9, 10, 11, 12, 13, 14, 15, 16, 17] (by decide +kernel) (by decide +kernel)
set_option maxRecDepth 20000 in
theorem gJx4a65c_init_da8c8_Jxc12de_init_da8c8 : GoodIn wsJx4a65c_init_da8c8 (wsJxc12de_init_da8c8) := ggJx4a65c_init_da8c8_Jxc12de_init_da8c8
theorem dJx4a65c_init_da8c8_0 : decode cJx4a65c_init_da8c8 0 = .ok (.aload_n 0, 1) := by decide +kernel
theorem dJx4a65c_init_da8c8_1 : decode cJx4a65c_init_da8c8 1 = .ok (.invokespecial 1, 3) := by decide +kernel
theorem dJx4a65c_init_da8c8_4 : decode cJx4a65c_init_da8c8 4 = .ok (.aload_n 0, 1) := by decide +kernel
theorem dJx4a65c_init_da8c8_5 : decode cJx4a65c_init_da8c8 5 = .ok (.getstatic 39, 3) := by decide +kernel
theorem dJx4a65c_init_da8c8_8 : decode cJx4a65c_init_da8c8 8 = .ok (.putfield 9, 3) := by decide +kernel
theorem dJx4a65c_init_da8c8_11 : decode cJx4a65c_init_da8c8 11 = .ok (.return_, 1) := by decide +kernel
set_option maxRecDepth 20000 in
theorem ggJx4a65c_grow_92f84_J8_newLength_cabcc : GoodIn wsJx4a65c_grow_92f84 wsJ8_newLength_cabcc := goodIn_r _ [11, 12, 4, 5, 6, 13, 14, 15, 10, 16] (by decide +kernel) (by decide +kernel)
set_option maxRecDepth 20000 in
theorem gJx4a65c_grow_92f84_J8_newLength_cabcc : GoodIn wsJx4a65c_grow_92f84 (va_wsS RJx4a65c 73 yJ8_newLength_cabcc wsJ8_newLength_cabcc) := goodIn_app (goodIn_of _ (by decide +kernel)) ggJx4a65c_grow_92f84_J8_newLength_cabcc
set_option maxRecDepth 20000 in
theorem ggJx4a65c_grow_92f84_J7_copyOf_1904c : GoodIn wsJx4a65c_grow_92f84 wsJ7_copyOf_1904c := goodIn_r _ [20, 21, 22, 23, 24, 25, 26, 19, 27, 28, 29, 30, 31, 5, 32, 33, 34, 35, 36] (by decide +kernel) (by decide +kernel)
set_option maxRecDepth 20000 in
theorem gJx4a65c_grow_92f84_J7_copyOf_1904c : GoodIn wsJx4a65c_grow_92f84 (va_wsS RJx4a65c 66 yJ7_copyOf_1904c wsJ7_copyOf_1904c) := goodIn_app (goodIn_of _ (by decide +kernel)) ggJx4a65c_grow_92f84_J7_copyOf_1904c
theorem dJx4a65c_grow_92f84_0 : decode cJx4a65c_grow_92f84 0 = .ok (.aload_n 0, 1) := by decide +kernel
theorem dJx4a65c_grow_92f84_1 : decode cJx4a65c_grow_92f84 1 = .ok (.getfield 9, 3) := by decide +kernel
theorem dJx4a65c_grow_92f84_4 : decode cJx4a65c_grow_92f84 4 = .ok (.arraylength, 1) := by decide +kernel
theorem dJx4a65c_grow_92f84_5 : decode cJx4a65c_grow_92f84 5 = .ok (.istore_n 2, 1) := by decide +kernel
theorem dJx4a65c_grow_92f84_6 : decode cJx4a65c_grow_92f84 6 = .ok (.iload_n 2, 1) := by decide +kernel
theorem dJx4a65c_grow_92f84_7 : decode cJx4a65c_grow_92f84 7 = .ok (.ifCond .gt 13, 3) := by decide +kernel
theorem dJx4a65c_grow_92f84_10 : decode cJx4a65c_grow_92f84 10 = .ok (.aload_n 0, 1) := by decide +kernel
theorem dJx4a65c_grow_92f84_11 : decode cJx4a65c_grow_92f84 11 = .ok (.getfield 9, 3) := by decide +kernel
theorem dJx4a65c_grow_92f84_14 : decode cJx4a65c_grow_92f84 14 = .ok (.getstatic 39, 3) := by decide +kernel
theorem dJx4a65c_grow_92f84_17 : decode cJx4a65c_grow_92f84 17 = .ok (.if_acmp .eq 28, 3) := by decide +kernel
theorem dJx4a65c_grow_92f84_20 : decode cJx4a65c_grow_92f84 20 = .ok (.iload_n 2, 1) := by decide +kernel
theorem dJx4a65c_grow_92f84_21 : decode cJx4a65c_grow_92f84 21 = .ok (.iload_n 1, 1) := by decide +kernel
theorem dJx4a65c_grow_92f84_22 : decode cJx4a65c_grow_92f84 22 = .ok (.iload_n 2, 1) := by decide +kernel
theorem dJx4a65c_grow_92f84_23 : decode cJx4a65c_grow_92f84 23 = .ok (.isub, 1) := by decide +kernel
theorem dJx4a65c_grow_92f84_24 : decode cJx4a65c_grow_92f84 24 = .ok (.iload_n 2, 1) := by decide +kernel
theorem dJx4a65c_grow_92f84_25 : decode cJx4a65c_grow_92f84 25 = .ok (.iconst 1, 1) := by decide +kernel
theorem dJx4a65c_grow_92f84_26 : decode cJx4a65c_grow_92f84 26 = .ok (.ishr, 1) := by decide +kernel
theorem dJx4a65c_grow_92f84_27 : decode cJx4a65c_grow_92f84 27 = .ok (.invokestatic 73, 3) := by decide +kernel
theorem dJx4a65c_grow_92f84_30 : decode cJx4a65c_grow_92f84 30 = .ok (.istore_n 3, 1) := by decide +kernel
theorem dJx4a65c_grow_92f84_31 : decode cJx4a65c_grow_92f84 31 = .ok (.aload_n 0, 1) := by decide +kernel
theorem dJx4a65c_grow_92f84_32 : decode cJx4a65c_grow_92f84 32 = .ok (.aload_n 0, 1) := by decide +kernel
theorem dJx4a65c_grow_92f84_33 : decode cJx4a65c_grow_92f84 33 = .ok (.getfield 9, 3) := by decide +kernel
theorem dJx4a65c_grow_92f84_36 : decode cJx4a65c_grow_92f84 36 = .ok (.iload_n 3, 1) := by decide +kernel
theorem dJx4a65c_grow_92f84_37 : decode cJx4a65c_grow_92f84 37 = .ok (.invokestatic 66, 3) := by decide +kernel
theorem dJx4a65c_grow_92f84_40 : decode cJx4a65c_grow_92f84 40 = .ok (.dup_x1, 1) := by decide +kernel
theorem dJx4a65c_grow_92f84_41 : decode cJx4a65c_grow_92f84 41 = .ok (.putfield 9, 3) := by decide +kernel
theorem dJx4a65c_grow_92f84_44 : decode cJx4a65c_grow_92f84 44 = .ok (.areturn, 1) := by decide +kernel
theorem dJx4a65c_grow_92f84_45 : decode cJx4a65c_grow_92f84 45 = .ok (.aload_n 0, 1) := by decide +kernel
theorem dJx4a65c_grow_92f84_46 : decode cJx4a65c_grow_92f84 46 = .ok (.bipush 10, 2) := by decide +kernel
theorem dJx4a65c_grow_92f84_48 : decode cJx4a65c_grow_92f84 48 = .ok (.iload_n 1, 1) := by decide +kernel
theorem dJx4a65c_grow_92f84_49 : decode cJx4a65c_grow_92f84 49 = .ok (.invokestatic 79, 3) := by decide +kernel
theorem dJx4a65c_grow_92f84_52 : decode cJx4a65c_grow_92f84 52 = .ok (.anewarray 7, 3) := by decide +kernel
theorem dJx4a65c_grow_92f84_55 : decode cJx4a65c_grow_92f84 55 = .ok (.dup_x1, 1) := by decide +kernel
theorem dJx4a65c_grow_92f84_56 : decode cJx4a65c_grow_92f84 56 = .ok (.putfield 9, 3) := by decide +kernel
theorem dJx4a65c_grow_92f84_59 : decode cJx4a65c_grow_92f84 59 = .ok (.areturn, 1) := by decide +kernel
set_option maxRecDepth 20000 in
theorem ggJx4a65c_grow_d5877_Jx4a65c_grow_92f84 : GoodIn wsJx4a65c_grow_d5877 wsJx4a65c_grow_92f84 := goodIn_r _ [6, 7, 8, 9, 10, 11, 12, 13, 14, 15, 16, 17, 18, 19, 20, 21, 22, 23, 24, 25, 26, 27, 28, 29, 30, 31, 32, 33, 34, 35, 36, 37, 38, 39, 40, 41, 42, 43, 44, 45] (by decide +kernel) (by decide +kernel)
set_option maxRecDepth 20000 in
theorem gJx4a65c_grow_d5877_Jx4a65c_grow_92f84 : GoodIn wsJx4a65c_grow_d5877 (wsV RJx4a65c 69 RJx4a65c yJx4a65c_grow_92f84 wsJx4a65c_grow_92f84) := goodIn_app (goodIn_of _ (by decide +kernel)) ggJx4a65c_grow_d5877_Jx4a65c_grow_92f84
theorem dJx4a65c_grow_d5877_0 : decode cJx4a65c_grow_d5877 0 = .ok (.aload_n 0, 1) := by decide +kernel
theorem dJx4a65c_grow_d5877_1 : decode cJx4a65c_grow_d5877 1 = .ok (.aload_n 0, 1) := by decide +kernel
theorem dJx4a65c_grow_d5877_2 : decode cJx4a65c_grow_d5877 2 = .ok (.getfield 48, 3) := by decide +kernel
theorem dJx4a65c_grow_d5877_5 : decode cJx4a65c_grow_d5877 5 = .ok (.iconst 1, 1) := by decide +kernel
theorem dJx4a65c_grow_d5877_6 : decode cJx4a65c_grow_d5877 6 = .ok (.iadd, 1) := by decide +kernel
theorem dJx4a65c_grow_d5877_7 : decode cJx4a65c_grow_d5877 7 = .ok (.invokevirtual 69, 3) := by decide +kernel
theorem dJx4a65c_grow_d5877_10 : decode cJx4a65c_grow_d5877 10 = .ok (.areturn, 1) := by decide +kernel
theorem dJx4a65c_size_8abf5_0 : decode cJx4a65c_size_8abf5 0 = .ok (.aload_n 0, 1) := by decide +kernel
theorem dJx4a65c_size_8abf5_1 : decode cJx4a65c_size_8abf5 1 = .ok (.getfield 48, 3) := by decide +kernel
theorem dJx4a65c_size_8abf5_4 : decode cJx4a65c_size_8abf5 4 = .ok (.ireturn, 1) := by decide +kernel
theorem dJx4a65c_elementData_915e3_0 : decode cJx4a65c_elementData_915e3 0 = .ok (.aload_n 0, 1) := by decide +kernel
theorem dJx4a65c_elementData_915e3_1 : decode cJx4a65c_elementData_915e3 1 = .ok (.getfield 9, 3) := by decide +kernel
theorem dJx4a65c_elementData_915e3_4 : decode cJx4a65c_elementData_915e3 4 = .ok (.iload_n 1, 1) := by decide +kernel
theorem dJx4a65c_elementData_915e3_5 : decode cJx4a65c_elementData_915e3 5 = .ok (.aaload, 1) := by decide +kernel
theorem dJx4a65c_elementData_915e3_6 : decode cJx4a65c_elementData_915e3 6 = .ok (.areturn, 1) := by decide +kernel
set_option maxRecDepth 20000 in
theorem ggJx4a65c_get_915e3_J15_checkIndex_7cf53 : GoodIn wsJx4a65c_get_915e3 wsJ15_checkIndex_7cf53 := goodIn_r _ [5, 6, 7, 8, 9] (by decide +kernel) (by decide +kernel)
set_option maxRecDepth 20000 in
theorem gJx4a65c_get_915e3_J15_checkIndex_7cf53 : GoodIn wsJx4a65c_get_915e3 (va_wsS RJx4a65c 118 yJ15_checkIndex_7cf53 wsJ15_checkIndex_7cf53) := goodIn_app (goodIn_of _ (by decide +kernel)) ggJx4a65c_get_915e3_J15_checkIndex_7cf53
set_option maxRecDepth 20000 in
theorem ggJx4a65c_get_915e3_Jx4a65c_elementData_915e3 : GoodIn wsJx4a65c_get_915e3 wsJx4a65c_elementData_915e3 := goodIn_r _ [14, 15, 16, 17, 18] (by decide +kernel) (by decide +kernel)
set_option maxRecDepth 20000 in
theorem gJx4a65c_get_915e3_Jx4a65c_elementData_915e3 : GoodIn wsJx4a65c_get_915e3 (wsV RJx4a65c 123 RJx4a65c yJx4a65c_elementData_915e3 wsJx4a65c_elementData_915e3) := goodIn_app (goodIn_of _ (by decide +kernel)) ggJx4a65c_get_915e3_Jx4a65c_elementData_915e3
theorem dJx4a65c_get_915e3_0 : decode cJx4a65c_get_915e3 0 = .ok (.iload_n 1, 1) := by decide +kernel
theorem dJx4a65c_get_915e3_1 : decode cJx4a65c_get_915e3 1 = .ok (.aload_n 0, 1) := by decide +kernel
theorem dJx4a65c_get_915e3_2 : decode cJx4a65c_get_915e3 2 = .ok (.getfield 48, 3) := by decide +kernel
theorem dJx4a65c_get_915e3_5 : decode cJx4a65c_get_915e3 5 = .ok (.invokestatic 118, 3) := by decide +kernel
theorem dJx4a65c_get_915e3_8 : decode cJx4a65c_get_915e3 8 = .ok (.pop, 1) := by decide +kernel
theorem dJx4a65c_get_915e3_9 : decode cJx4a65c_get_915e3 9 = .ok (.aload_n 0, 1) := by decide +kernel
theorem dJx4a65c_get_915e3_10 : decode cJx4a65c_get_915e3 10 = .ok (.iload_n 1, 1) := by decide +kernel
theorem dJx4a65c_get_915e3_11 : decode cJx4a65c_get_915e3 11 = .ok (.invokevirtual 123, 3) := by decide +kernel
theorem dJx4a65c_get_915e3_14 : decode cJx4a65c_get_915e3 14 = .ok (.areturn, 1) := by decide +kernel
set_option maxRecDepth 20000 in
theorem ggJx4a65c_add_72be8_Jx4a65c_grow_d5877 : GoodIn wsJx4a65c_add_72be8 wsJx4a65c_grow_d5877 := goodIn_r _ [6, 1, 7, 8, 9, 5, 10, 11, 12, 13, 14, 15, 16, 17, 18, 19, 20, 21, 22, 23, 24, 25, 26, 27, 28, 29, 30, 31, 32, 33, 34, 35, 36, 37, 38, 39, 40, 41, 42, 43, 44, 45, 46, 47, 48, 49] (by decide +kernel) (by decide +kernel)
set_option maxRecDepth 20000 in
theorem gJx4a65c_add_72be8_Jx4a65c_grow_d5877 : GoodIn wsJx4a65c_add_72be8 (wsV RJx4a65c 129 RJx4a65c yJx4a65c_grow_d5877 wsJx4a65c_grow_d5877) := goodIn_app (goodIn_of _ (by decide +kernel)) ggJx4a65c_add_72be8_Jx4a65c_grow_d5877
theorem dJx4a65c_add_72be8_0 : decode cJx4a65c_add_72be8 0 = .ok (.iload_n 3, 1) := by decide +kernel
theorem dJx4a65c_add_72be8_1 : decode cJx4a65c_add_72be8 1 = .ok (.aload_n 2, 1) := by decide +kernel
theorem dJx4a65c_add_72be8_2 : decode cJx4a65c_add_72be8 2 = .ok (.arraylength, 1) := by decide +kernel
theorem dJx4a65c_add_72be8_3 : decode cJx4a65c_add_72be8 3 = .ok (.if_icmp .ne 8, 3) := by decide +kernel
theorem dJx4a65c_add_72be8_6 : decode cJx4a65c_add_72be8 6 = .ok (.aload_n 0, 1) := by decide +kernel
theorem dJx4a65c_add_72be8_7 : decode cJx4a65c_add_72be8 7 = .ok (.invokevirtual 129, 3) := by decide +kernel
theorem dJx4a65c_add_72be8_10 : decode cJx4a65c_add_72be8 10 = .ok (.astore_n 2, 1) := by decide +kernel
theorem dJx4a65c_add_72be8_11 : decode cJx4a65c_add_72be8 11 = .ok (.aload_n 2, 1) := by decide +kernel
theorem dJx4a65c_add_72be8_12 : decode cJx4a65c_add_72be8 12 = .ok (.iload_n 3, 1) := by decide +kernel
theorem dJx4a65c_add_72be8_13 : decode cJx4a65c_add_72be8 13 = .ok (.aload_n 1, 1) := by decide +kernel
theorem dJx4a65c_add_72be8_14 : decode cJx4a65c_add_72be8 14 = .ok (.aastore, 1) := by decide +kernel
theorem dJx4a65c_add_72be8_15 : decode cJx4a65c_add_72be8 15 = .ok (.aload_n 0, 1) := by decide +kernel
theorem dJx4a65c_add_72be8_16 : decode cJx4a65c_add_72be8 16 = .ok (.iload_n 3, 1) := by decide +kernel
theorem dJx4a65c_add_72be8_17 : decode cJx4a65c_add_72be8 17 = .ok (.iconst 1, 1) := by decide +kernel
theorem dJx4a65c_add_72be8_18 : decode cJx4a65c_add_72be8 18 = .ok (.iadd, 1) := by decide +kernel
theorem dJx4a65c_add_72be8_19 : decode cJx4a65c_add_72be8 19 = .ok (.putfield 48, 3) := by decide +kernel
theorem dJx4a65c_add_72be8_22 : decode cJx4a65c_add_72be8 22 = .ok (.return_, 1) := by decide +kernel
set_option maxRecDepth 20000 in
theorem ggJx4a65c_add_9ea2d_Jx4a65c_add_72be8 : GoodIn wsJx4a65c_add_9ea2d wsJx4a65c_add_72be8 := goodIn_r _ [9, 4, 10, 11, 12, 8, 13, 14, 15, 16, 17, 3, 18, 19, 20, 21, 22, 23, 24, 25, 26, 27, 28, 29, 30, 31, 32, 33, 34, 35, 36, 37, 38, 39, 40, 41, 42, 43, 44, 45, 46, 47, 48, 49, 50, 51, 52, 53, 54, 55] (by decide +kernel) (by decide +kernel)
set_option maxRecDepth 20000 in
theorem gJx4a65c_add_9ea2d_Jx4a65c_add_72be8 : GoodIn wsJx4a65c_add_9ea2d (wsV RJx4a65c 131 RJx4a65c yJx4a65c_add_72be8 wsJx4a65c_add_72be8) := goodIn_app (goodIn_of _ (by decide +kernel)) ggJx4a65c_add_9ea2d_Jx4a65c_add_72be8
theorem dJx4a65c_add_9ea2d_0 : decode cJx4a65c_add_9ea2d 0 = .ok (.aload_n 0, 1) := by decide +kernel
theorem dJx4a65c_add_9ea2d_1 : decode cJx4a65c_add_9ea2d 1 = .ok (.dup, 1) := by decide +kernel
theorem dJx4a65c_add_9ea2d_2 : decode cJx4a65c_add_9ea2d 2 = .ok (.getfield 63, 3) := by decide +kernel
theorem dJx4a65c_add_9ea2d_5 : decode cJx4a65c_add_9ea2d 5 = .ok (.iconst 1, 1) := by decide +kernel
theorem dJx4a65c_add_9ea2d_6 : decode cJx4a65c_add_9ea2d 6 = .ok (.iadd, 1) := by decide +kernel
theorem dJx4a65c_add_9ea2d_7 : decode cJx4a65c_add_9ea2d 7 = .ok (.putfield 63, 3) := by decide +kernel
theorem dJx4a65c_add_9ea2d_10 : decode cJx4a65c_add_9ea2d 10 = .ok (.aload_n 0, 1) := by decide +kernel
theorem dJx4a65c_add_9ea2d_11 : decode cJx4a65c_add_9ea2d 11 = .ok (.aload_n 1, 1) := by decide +kernel
theorem dJx4a65c_add_9ea2d_12 : decode cJx4a65c_add_9ea2d 12 = .ok (.aload_n 0, 1) := by decide +kernel
theorem dJx4a65c_add_9ea2d_13 : decode cJx4a65c_add_9ea2d 13 = .ok (.getfield 9, 3) := by decide +kernel
theorem dJx4a65c_add_9ea2d_16 : decode cJx4a65c_add_9ea2d 16 = .ok (.aload_n 0, 1) := by decide +kernel
theorem dJx4a65c_add_9ea2d_17 : decode cJx4a65c_add_9ea2d 17 = .ok (.getfield 48, 3) := by decide +kernel
theorem dJx4a65c_add_9ea2d_20 : decode cJx4a65c_add_9ea2d 20 = .ok (.invokevirtual 131, 3) := by decide +kernel
theorem dJx4a65c_add_9ea2d_23 : decode cJx4a65c_add_9ea2d 23 = .ok (.iconst 1, 1) := by decide +kernel
theorem dJx4a65c_add_9ea2d_24 : decode cJx4a65c_add_9ea2d 24 = .ok (.ireturn, 1) := by decide +kernel
set_option maxRecDepth 20000 in
theorem ggJ7_copyOf_1904c_J7_copyOf_6403c : GoodIn wsJ7_copyOf_1904c wsJ7_copyOf_6403c := goodIn_r _ [8, 9, 10, 11, 12, 13, 14, 15, 16, 17, 18] (by decide +kernel) (by decide +kernel)
set_option maxRecDepth 20000 in
theorem gJ7_copyOf_1904c_J7_copyOf_6403c : GoodIn wsJ7_copyOf_1904c (va_wsS RJ7 300 yJ7_copyOf_6403c wsJ7_copyOf_6403c) := goodIn_app (goodIn_of _ (by decide +kernel)) ggJ7_copyOf_1904c_J7_copyOf_6403c
theorem dJ7_copyOf_1904c_0 : decode cJ7_copyOf_1904c 0 = .ok (.aload_n 0, 1) := by decide +kernel
theorem dJ7_copyOf_1904c_1 : decode cJ7_copyOf_1904c 1 = .ok (.iload_n 1, 1) := by decide +kernel
theorem dJ7_copyOf_1904c_2 : decode cJ7_copyOf_1904c 2 = .ok (.aload_n 0, 1) := by decide +kernel
theorem dJ7_copyOf_1904c_3 : decode cJ7_copyOf_1904c 3 = .ok (.invokevirtual 86, 3) := by decide +kernel
theorem dJ7_copyOf_1904c_6 : decode cJ7_copyOf_1904c 6 = .ok (.invokestatic 300, 3) := by decide +kernel
theorem dJ7_copyOf_1904c_9 : decode cJ7_copyOf_1904c 9 = .ok (.areturn, 1) := by decide +kernel
theorem dJ7_copyOf_6403c_0 : decode cJ7_copyOf_6403c 0 = .ok (.aload_n 2, 1) := by decide +kernel
theorem dJ7_copyOf_6403c_1 : decode cJ7_copyOf_6403c 1 = .ok (.ldc 110, 2) := by decide +kernel
theorem dJ7_copyOf_6403c_3 : decode cJ7_copyOf_6403c 3 = .ok (.if_acmp .ne 10, 3) := by decide +kernel
theorem dJ7_copyOf_6403c_6 : decode cJ7_copyOf_6403c 6 = .ok (.iload_n 1, 1) := by decide +kernel
theorem dJ7_copyOf_6403c_7 : decode cJ7_copyOf_6403c 7 = .ok (.anewarray 2, 3) := by decide +kernel
theorem dJ7_copyOf_6403c_10 : decode cJ7_copyOf_6403c 10 = .ok (.goto 14, 3) := by decide +kernel
theorem dJ7_copyOf_6403c_13 : decode cJ7_copyOf_6403c 13 = .ok (.aload_n 2, 1) := by decide +kernel
theorem dJ7_copyOf_6403c_14 : decode cJ7_copyOf_6403c 14 = .ok (.invokevirtual 90, 3) := by decide +kernel
theorem dJ7_copyOf_6403c_17 : decode cJ7_copyOf_6403c 17 = .ok (.iload_n 1, 1) := by decide +kernel
theorem dJ7_copyOf_6403c_18 : decode cJ7_copyOf_6403c 18 = .ok (.invokestatic 95, 3) := by decide +kernel
theorem dJ7_copyOf_6403c_21 : decode cJ7_copyOf_6403c 21 = .ok (.checkcast 110, 3) := by decide +kernel
theorem dJ7_copyOf_6403c_24 : decode cJ7_copyOf_6403c 24 = .ok (.astore_n 3, 1) := by decide +kernel
theorem dJ7_copyOf_6403c_25 : decode cJ7_copyOf_6403c 25 = .ok (.aload_n 0, 1) := by decide +kernel
theorem dJ7_copyOf_6403c_26 : decode cJ7_copyOf_6403c 26 = .ok (.iconst 0, 1) := by decide +kernel
theorem dJ7_copyOf_6403c_27 : decode cJ7_copyOf_6403c 27 = .ok (.aload_n 3, 1) := by decide +kernel
theorem dJ7_copyOf_6403c_28 : decode cJ7_copyOf_6403c 28 = .ok (.iconst 0, 1) := by decide +kernel
theorem dJ7_copyOf_6403c_29 : decode cJ7_copyOf_6403c 29 = .ok (.aload_n 0, 1) := by decide +kernel
theorem dJ7_copyOf_6403c_30 : decode cJ7_copyOf_6403c 30 = .ok (.arraylength, 1) := by decide +kernel
theorem dJ7_copyOf_6403c_31 : decode cJ7_copyOf_6403c 31 = .ok (.iload_n 1, 1) := by decide +kernel
theorem dJ7_copyOf_6403c_32 : decode cJ7_copyOf_6403c 32 = .ok (.invokestatic 304, 3) := by decide +kernel
theorem dJ7_copyOf_6403c_35 : decode cJ7_copyOf_6403c 35 = .ok (.invokestatic 150, 3) := by decide +kernel
theorem dJ7_copyOf_6403c_38 : decode cJ7_copyOf_6403c 38 = .ok (.aload_n 3, 1) := by decide +kernel
theorem dJ7_copyOf_6403c_39 : decode cJ7_copyOf_6403c 39 = .ok (.areturn, 1) := by decide +kernel
set_option maxRecDepth 20000 in
theorem ggJ15_checkIndex_7cf53_J3_checkIndex_8e157 : GoodIn wsJ15_checkIndex_7cf53 wsJ3_checkIndex_8e157 := goodIn_r _ [4] (by decide +kernel) (by decide +kernel)
set_option maxRecDepth 20000 in
theorem gJ15_checkIndex_7cf53_J3_checkIndex_8e157 : GoodIn wsJ15_checkIndex_7cf53 (va_wsS RJ15 105 yJ3_checkIndex_8e157 wsJ3_checkIndex_8e157) := goodIn_app (goodIn_of _ (by decide +kernel)) ggJ15_checkIndex_7cf53_J3_checkIndex_8e157
theorem dJ15_checkIndex_7cf53_0 : decode cJ15_checkIndex_7cf53 0 = .ok (.iload_n 0, 1) := by decide +kernel
theorem dJ15_checkIndex_7cf53_1 : decode cJ15_checkIndex_7cf53 1 = .ok (.iload_n 1, 1) := by decide +kernel
theorem dJ15_checkIndex_7cf53_2 : decode cJ15_checkIndex_7cf53 2 = .ok (.aconst_null, 1) := by decide +kernel
theorem dJ15_checkIndex_7cf53_3 : decode cJ15_checkIndex_7cf53 3 = .ok (.invokestatic 105, 3) := by decide +kernel
theorem dJ15_checkIndex_7cf53_6 : decode cJ15_checkIndex_7cf53 6 = .ok (.ireturn, 1) := by decide +kernel
set_option maxRecDepth 20000 in
theorem ggJ8_newLength_cabcc_J8_hugeLength_7cf53 : GoodIn wsJ8_newLength_cabcc wsJ8_hugeLength_7cf53 := goodIn_r _ [9, 5] (by decide +kernel) (by decide +kernel)
set_option maxRecDepth 20000 in
theorem gJ8_newLength_cabcc_J8_hugeLength_7cf53 : GoodIn wsJ8_newLength_cabcc (va_wsS RJ8 201 yJ8_hugeLength_7cf53 wsJ8_hugeLength_7cf53) := goodIn_app (goodIn_of _ (by decide +kernel)) ggJ8_newLength_cabcc_J8_hugeLength_7cf53
theorem dJ8_newLength_cabcc_0 : decode cJ8_newLength_cabcc 0 = .ok (.iload_n 0, 1) := by decide +kernel
theorem dJ8_newLength_cabcc_1 : decode cJ8_newLength_cabcc 1 = .ok (.iload_n 1, 1) := by decide +kernel
theorem dJ8_newLength_cabcc_2 : decode cJ8_newLength_cabcc 2 = .ok (.iload_n 2, 1) := by decide +kernel
theorem dJ8_newLength_cabcc_3 : decode cJ8_newLength_cabcc 3 = .ok (.invokestatic 194, 3) := by decide +kernel
theorem dJ8_newLength_cabcc_6 : decode cJ8_newLength_cabcc 6 = .ok (.iadd, 1) := by decide +kernel
theorem dJ8_newLength_cabcc_7 : decode cJ8_newLength_cabcc 7 = .ok (.istore_n 3, 1) := by decide +kernel
theorem dJ8_newLength_cabcc_8 : decode cJ8_newLength_cabcc 8 = .ok (.iconst 0, 1) := by decide +kernel
theorem dJ8_newLength_cabcc_9 : decode cJ8_newLength_cabcc 9 = .ok (.iload_n 3, 1) := by decide +kernel
theorem dJ8_newLength_cabcc_10 : decode cJ8_newLength_cabcc 10 = .ok (.if_icmp .ge 11, 3) := by decide +kernel
theorem dJ8_newLength_cabcc_13 : decode cJ8_newLength_cabcc 13 = .ok (.iload_n 3, 1) := by decide +kernel
theorem dJ8_newLength_cabcc_14 : decode cJ8_newLength_cabcc 14 = .ok (.ldc 200, 2) := by decide +kernel
theorem dJ8_newLength_cabcc_16 : decode cJ8_newLength_cabcc 16 = .ok (.if_icmp .gt 5, 3) := by decide +kernel
theorem dJ8_newLength_cabcc_19 : decode cJ8_newLength_cabcc 19 = .ok (.iload_n 3, 1) := by decide +kernel
theorem dJ8_newLength_cabcc_20 : decode cJ8_newLength_cabcc 20 = .ok (.ireturn, 1) := by decide +kernel
theorem dJ8_newLength_cabcc_21 : decode cJ8_newLength_cabcc 21 = .ok (.iload_n 0, 1) := by decide +kernel
theorem dJ8_newLength_cabcc_22 : decode cJ8_newLength_cabcc 22 = .ok (.iload_n 1, 1) := by decide +kernel
theorem dJ8_newLength_cabcc_23 : decode cJ8_newLength_cabcc 23 = .ok (.invokestatic 201, 3) := by decide +kernel
theorem dJ8_newLength_cabcc_26 : decode cJ8_newLength_cabcc 26 = .ok (.ireturn, 1) := by decide +kernel
theorem dJ8_hugeLength_7cf53_0 : decode cJ8_hugeLength_7cf53 0 = .ok (.iload_n 0, 1) := by decide +kernel
theorem dJ8_hugeLength_7cf53_1 : decode cJ8_hugeLength_7cf53 1 = .ok (.iload_n 1, 1) := by decide +kernel
theorem dJ8_hugeLength_7cf53_2 : decode cJ8_hugeLength_7cf53 2 = .ok (.iadd, 1) := by decide +kernel
theorem dJ8_hugeLength_7cf53_3 : decode cJ8_hugeLength_7cf53 3 = .ok (.istore_n 2, 1) := by decide +kernel
theorem dJ8_hugeLength_7cf53_4 : decode cJ8_hugeLength_7cf53 4 = .ok (.iload_n 2, 1) := by decide +kernel
theorem dJ8_hugeLength_7cf53_5 : decode cJ8_hugeLength_7cf53 5 = .ok (.ifCond .ge 44, 3) := by decide +kernel
theorem dJ8_hugeLength_7cf53_8 : decode cJ8_hugeLength_7cf53 8 = .ok (.new 204, 3) := by decide +kernel
theorem dJ8_hugeLength_7cf53_11 : decode cJ8_hugeLength_7cf53 11 = .ok (.dup, 1) := by decide +kernel
theorem dJ8_hugeLength_7cf53_12 : decode cJ8_hugeLength_7cf53 12 = .ok (.new 89, 3) := by decide +kernel
theorem dJ8_hugeLength_7cf53_15 : decode cJ8_hugeLength_7cf53 15 = .ok (.dup, 1) := by decide +kernel
theorem dJ8_hugeLength_7cf53_16 : decode cJ8_hugeLength_7cf53 16 = .ok (.invokespecial 91, 3) := by decide +kernel
theorem dJ8_hugeLength_7cf53_19 : decode cJ8_hugeLength_7cf53 19 = .ok (.ldc 206, 2) := by decide +kernel
theorem dJ8_hugeLength_7cf53_21 : decode cJ8_hugeLength_7cf53 21 = .ok (.invokevirtual 94, 3) := by decide +kernel
theorem dJ8_hugeLength_7cf53_24 : decode cJ8_hugeLength_7cf53 24 = .ok (.iload_n 0, 1) := by decide +kernel
theorem dJ8_hugeLength_7cf53_25 : decode cJ8_hugeLength_7cf53 25 = .ok (.invokevirtual 98, 3) := by decide +kernel
theorem dJ8_hugeLength_7cf53_28 : decode cJ8_hugeLength_7cf53 28 = .ok (.ldc 208, 2) := by decide +kernel
theorem dJ8_hugeLength_7cf53_30 : decode cJ8_hugeLength_7cf53 30 = .ok (.invokevirtual 94, 3) := by decide +kernel
theorem dJ8_hugeLength_7cf53_33 : decode cJ8_hugeLength_7cf53 33 = .ok (.iload_n 1, 1) := by decide +kernel
theorem dJ8_hugeLength_7cf53_34 : decode cJ8_hugeLength_7cf53 34 = .ok (.invokevirtual 98, 3) := by decide +kernel
theorem dJ8_hugeLength_7cf53_37 : decode cJ8_hugeLength_7cf53 37 = .ok (.ldc 210, 2) := by decide +kernel
theorem dJ8_hugeLength_7cf53_39 : decode cJ8_hugeLength_7cf53 39 = .ok (.invokevirtual 94, 3) := by decide +kernel
theorem dJ8_hugeLength_7cf53_42 : decode cJ8_hugeLength_7cf53 42 = .ok (.invokevirtual 101, 3) := by decide +kernel
theorem dJ8_hugeLength_7cf53_45 : decode cJ8_hugeLength_7cf53 45 = .ok (.invokespecial 212, 3) := by decide +kernel
theorem dJ8_hugeLength_7cf53_48 : decode cJ8_hugeLength_7cf53 48 = .ok (.athrow, 1) := by decide +kernel
theorem dJ8_hugeLength_7cf53_49 : decode cJ8_hugeLength_7cf53 49 = .ok (.iload_n 2, 1) := by decide +kernel
theorem dJ8_hugeLength_7cf53_50 : decode cJ8_hugeLength_7cf53 50 = .ok (.ldc 200, 2) := by decide +kernel
theorem dJ8_hugeLength_7cf53_52 : decode cJ8_hugeLength_7cf53 52 = .ok (.if_icmp .gt 6, 3) := by decide +kernel
theorem dJ8_hugeLength_7cf53_55 : decode cJ8_hugeLength_7cf53 55 = .ok (.ldc 200, 2) := by decide +kernel
theorem dJ8_hugeLength_7cf53_57 : decode cJ8_hugeLength_7cf53 57 = .ok (.ireturn, 1) := by decide +kernel
theorem dJ8_hugeLength_7cf53_58 : decode cJ8_hugeLength_7cf53 58 = .ok (.iload_n 2, 1) := by decide +kernel
theorem dJ8_hugeLength_7cf53_59 : decode cJ8_hugeLength_7cf53 59 = .ok (.ireturn, 1) := by decide +kernel
theorem dJ3_checkIndex_8e157_0 : decode cJ3_checkIndex_8e157 0 = .ok (.iload_n 0, 1) := by decide +kernel
theorem dJ3_checkIndex_8e157_1 : decode cJ3_checkIndex_8e157 1 = .ok (.ifCond .lt 8, 3) := by decide +kernel
theorem dJ3_checkIndex_8e157_4 : decode cJ3_checkIndex_8e157 4 = .ok (.iload_n 0, 1) := by decide +kernel
theorem dJ3_checkIndex_8e157_5 : decode cJ3_checkIndex_8e157 5 = .ok (.iload_n 1, 1) := by decide +kernel
theorem dJ3_checkIndex_8e157_6 : decode cJ3_checkIndex_8e157 6 = .ok (.if_icmp .lt 10, 3) := by decide +kernel
theorem dJ3_checkIndex_8e157_9 : decode cJ3_checkIndex_8e157 9 = .ok (.aload_n 2, 1) := by decide +kernel
theorem dJ3_checkIndex_8e157_10 : decode cJ3_checkIndex_8e157 10 = .ok (.iload_n 0, 1) := by decide +kernel
theorem dJ3_checkIndex_8e157_11 : decode cJ3_checkIndex_8e157 11 = .ok (.iload_n 1, 1) := by decide +kernel
theorem dJ3_checkIndex_8e157_12 : decode cJ3_checkIndex_8e157 12 = .ok (.invokestatic 95, 3) := by decide +kernel
theorem dJ3_checkIndex_8e157_15 : decode cJ3_checkIndex_8e157 15 = .ok (.athrow, 1) := by decide +kernel
theorem dJ3_checkIndex_8e157_16 : decode cJ3_checkIndex_8e157 16 = .ok (.iload_n 0, 1) := by decide +kernel
theorem dJ3_checkIndex_8e157_17 : decode cJ3_checkIndex_8e157 17 = .ok (.ireturn, 1) := by decide +kernel
set_option maxRecDepth 20000 in
theorem ggL_setLimits_X3_setLimits : GoodIn wsL_setLimits wsX3_setLimits := goodIn_ca (goodIn_r _ [6, 7, 8, 9, 10, 5, 11, 12, 13, 14, 15, 16, 17, 18, 19, 20, 21, 22, 23, 24, 25, 26, 27, 28, 29, 30, 31, 32, 33, 34, 35, 36, 37, 38, 39, 40, 41, 42, 43, 44, 45, 46, 47, 48, 49, 50, 51, 52, 53, 54, 55, 56, 57, 58] (by decide +kernel) (by decide +kernel)) (goodIn_sub (fun _ h => List.mem_cons_of_mem _ (List.mem_append_right _ h)) (by decide +kernel))
set_option maxRecDepth 20000 in
theorem gL_setLimits_X3_setLimits : GoodIn wsL_setLimits (wsV RL 7 RX3 yX3_setLimits wsX3_setLimits) := goodIn_app (goodIn_of _ (by decide +kernel)) ggL_setLimits_X3_setLimits
theorem dL_setLimits_0 : decode cL_setLimits 0 = .ok (.aload_n 0, 1) := by decide +kernel
theorem dL_setLimits_1 : decode cL_setLimits 1 = .ok (.iload_n 1, 1) := by decide +kernel
theorem dL_setLimits_2 : decode cL_setLimits 2 = .ok (.iload_n 2, 1) := by decide +kernel
theorem dL_setLimits_3 : decode cL_setLimits 3 = .ok (.iload_n 3, 1) := by decide +kernel
theorem dL_setLimits_4 : decode cL_setLimits 4 = .ok (.invokevirtual 7, 3) := by decide +kernel
theorem dL_setLimits_7 : decode cL_setLimits 7 = .ok (.goto 7, 3) := by decide +kernel
theorem dL_setLimits_10 : decode cL_setLimits 10 = .ok (.astore 4, 2) := by decide +kernel
theorem dL_setLimits_12 : decode cL_setLimits 12 = .ok (.iconst 1, 1) := by decide +kernel
theorem dL_setLimits_13 : decode cL_setLimits 13 = .ok (.ireturn, 1) := by decide +kernel
theorem dL_setLimits_14 : decode cL_setLimits 14 = .ok (.iconst 0, 1) := by decide +kernel
theorem dL_setLimits_15 : decode cL_setLimits 15 = .ok (.ireturn, 1) := by decide +kernel
set_option maxRecDepth 20000 in
theorem ggL_setRates_X3_setRates : GoodIn wsL_setRates wsX3_setRates := goodIn_ca (goodIn_r _ [6, 7, 8, 9, 5, 10, 11, 12, 13, 14, 15, 16, 17, 18, 19, 20, 21, 22, 23, 24, 25, 26, 27, 28, 29, 30, 31, 32, 33, 34, 35, 36, 37, 38, 39, 40, 41, 42, 43, 44, 45, 46, 47, 48, 49, 50, 51, 52, 53, 54, 55, 56, 57, 58] (by decide +kernel) (by decide +kernel)) (goodIn_sub (fun _ h => List.mem_cons_of_mem _ (List.mem_append_right _ h)) (by decide +kernel))
set_option maxRecDepth 20000 in
theorem gL_setRates_X3_setRates : GoodIn wsL_setRates (wsV RL 15 RX3 yX3_setRates wsX3_setRates) := goodIn_app (goodIn_of _ (by decide +kernel)) ggL_setRates_X3_setRates
theorem dL_setRates_0 : decode cL_setRates 0 = .ok (.aload_n 0, 1) := by decide +kernel
theorem dL_setRates_1 : decode cL_setRates 1 = .ok (.iload_n 1, 1) := by decide +kernel
theorem dL_setRates_2 : decode cL_setRates 2 = .ok (.iload_n 2, 1) := by decide +kernel
theorem dL_setRates_3 : decode cL_setRates 3 = .ok (.iload_n 3, 1) := by decide +kernel
theorem dL_setRates_4 : decode cL_setRates 4 = .ok (.iload 4, 2) := by decide +kernel
theorem dL_setRates_6 : decode cL_setRates 6 = .ok (.invokevirtual 15, 3) := by decide +kernel
theorem dL_setRates_9 : decode cL_setRates 9 = .ok (.goto 7, 3) := by decide +kernel
theorem dL_setRates_12 : decode cL_setRates 12 = .ok (.astore 5, 2) := by decide +kernel
theorem dL_setRates_14 : decode cL_setRates 14 = .ok (.iconst 1, 1) := by decide +kernel
theorem dL_setRates_15 : decode cL_setRates 15 = .ok (.ireturn, 1) := by decide +kernel
theorem dL_setRates_16 : decode cL_setRates 16 = .ok (.iconst 0, 1) := by decide +kernel
theorem dL_setRates_17 : decode cL_setRates 17 = .ok (.ireturn, 1) := by decide +kernel
set_option maxRecDepth 20000 in
theorem ggL_tax_X3_tax : GoodIn wsL_tax wsX3_tax := goodIn_ca (goodIn_r _ [6, 7, 8, 9, 10, 5, 11, 12, 13, 14, 15, 16, 17, 18, 19, 20, 21, 22, 23, 24, 25, 26, 27, 28, 29, 30, 31, 32, 33, 34, 35, 36, 37, 38, 39, 40, 41, 42, 43, 44, 45, 46, 47, 48, 49, 50, 51, 52, 53, 54, 55, 56, 57, 58, 59, 60, 61, 62, 63, 64, 65, 66, 67, 68, 69] (by decide +kernel) (by decide +kernel)) (goodIn_sub (fun _ h => List.mem_cons_of_mem _ (List.mem_append_right _ h)) (by decide +kernel))
set_option maxRecDepth 20000 in
theorem gL_tax_X3_tax : GoodIn wsL_tax (wsV RL 19 RX3 yX3_tax wsX3_tax) := goodIn_app (goodIn_of _ (by decide +kernel)) ggL_tax_X3_tax
theorem dL_tax_0 : decode cL_tax 0 = .ok (.aload_n 3, 1) := by decide +kernel
theorem dL_tax_1 : decode cL_tax 1 = .ok (.iconst 0, 1) := by decide +kernel
theorem dL_tax_2 : decode cL_tax 2 = .ok (.aload_n 0, 1) := by decide +kernel
theorem dL_tax_3 : decode cL_tax 3 = .ok (.iload_n 1, 1) := by decide +kernel
theorem dL_tax_4 : decode cL_tax 4 = .ok (.iload_n 2, 1) := by decide +kernel
theorem dL_tax_5 : decode cL_tax 5 = .ok (.invokevirtual 19, 3) := by decide +kernel
theorem dL_tax_8 : decode cL_tax 8 = .ok (.i2l, 1) := by decide +kernel
theorem dL_tax_9 : decode cL_tax 9 = .ok (.lastore, 1) := by decide +kernel
theorem dL_tax_10 : decode cL_tax 10 = .ok (.goto 7, 3) := by decide +kernel
theorem dL_tax_13 : decode cL_tax 13 = .ok (.astore 4, 2) := by decide +kernel
theorem dL_tax_15 : decode cL_tax 15 = .ok (.iconst 1, 1) := by decide +kernel
theorem dL_tax_16 : decode cL_tax 16 = .ok (.ireturn, 1) := by decide +kernel
theorem dL_tax_17 : decode cL_tax 17 = .ok (.iconst 0, 1) := by decide +kernel
theorem dL_tax_18 : decode cL_tax 18 = .ok (.ireturn, 1) := by decide +kernel
set_option maxRecDepth 20000 in
theorem ggL_grossTax_X3_grossTax : GoodIn wsL_grossTax wsX3_grossTax := goodIn_ca (goodIn_r _ [6, 7, 8, 9, 10, 5, 11, 12, 13, 14, 15, 16, 17, 18, 19, 20, 21, 22, 23, 24, 25, 26, 27, 28, 29, 30, 31, 32, 33, 34, 35, 36, 37, 38, 39, 40, 41, 42, 43, 44, 45, 46, 47, 48, 49, 50, 51, 52, 53, 54, 55, 56, 57, 58, 59, 60, 61, 62, 63, 64, 65, 66, 67, 68, 69, 70, 71, 72, 73, 74, 75, 76] (by decide +kernel) (by decide +kernel)) (goodIn_sub (fun _ h => List.mem_cons_of_mem _ (List.mem_append_right _ h)) (by decide +kernel))
set_option maxRecDepth 20000 in
theorem gL_grossTax_X3_grossTax : GoodIn wsL_grossTax (wsV RL 23 RX3 yX3_grossTax wsX3_grossTax) := goodIn_app (goodIn_of _ (by decide +kernel)) ggL_grossTax_X3_grossTax
theorem dL_grossTax_0 : decode cL_grossTax 0 = .ok (.aload_n 3, 1) := by decide +kernel
theorem dL_grossTax_1 : decode cL_grossTax 1 = .ok (.iconst 0, 1) := by decide +kernel
theorem dL_grossTax_2 : decode cL_grossTax 2 = .ok (.aload_n 0, 1) := by decide +kernel
theorem dL_grossTax_3 : decode cL_grossTax 3 = .ok (.iload_n 1, 1) := by decide +kernel
theorem dL_grossTax_4 : decode cL_grossTax 4 = .ok (.iload_n 2, 1) := by decide +kernel
theorem dL_grossTax_5 : decode cL_grossTax 5 = .ok (.invokevirtual 23, 3) := by decide +kernel
theorem dL_grossTax_8 : decode cL_grossTax 8 = .ok (.i2l, 1) := by decide +kernel
theorem dL_grossTax_9 : decode cL_grossTax 9 = .ok (.lastore, 1) := by decide +kernel
theorem dL_grossTax_10 : decode cL_grossTax 10 = .ok (.goto 7, 3) := by decide +kernel
theorem dL_grossTax_13 : decode cL_grossTax 13 = .ok (.astore 4, 2) := by decide +kernel
theorem dL_grossTax_15 : decode cL_grossTax 15 = .ok (.iconst 1, 1) := by decide +kernel
theorem dL_grossTax_16 : decode cL_grossTax 16 = .ok (.ireturn, 1) := by decide +kernel
theorem dL_grossTax_17 : decode cL_grossTax 17 = .ok (.iconst 0, 1) := by decide +kernel
theorem dL_grossTax_18 : decode cL_grossTax 18 = .ok (.ireturn, 1) := by decide +kernel
set_option maxRecDepth 20000 in
theorem ggL_grossTaxByTrying_X3_grossTaxByTrying : GoodIn wsL_grossTaxByTrying wsX3_grossTaxByTrying := goodIn_ca (goodIn_r _ [6, 7, 8, 9, 5, 10, 11, 12, 13, 14, 15, 16, 17, 18, 19, 20, 21, 22, 23, 24, 25, 26, 27, 28, 29, 30, 31, 32, 33, 34, 35, 36, 37, 38, 39, 40, 41, 42, 43, 44, 45, 46, 47, 48, 49, 50, 51, 52, 53, 54, 55, 56, 57, 58, 59, 60, 61, 62, 63, 64, 65, 66, 67, 68, 69, 70, 71, 72, 73, 74, 75] (by decide +kernel) (by decide +kernel)) (goodIn_sub (fun _ h => List.mem_cons_of_mem _ (List.mem_append_right _ h)) (by decide +kernel))
set_option maxRecDepth 20000 in
theorem gL_grossTaxByTrying_X3_grossTaxByTrying : GoodIn wsL_grossTaxByTrying (wsV RL 26 RX3 yX3_grossTaxByTrying wsX3_grossTaxByTrying) := goodIn_app (goodIn_of _ (by decide +kernel)) ggL_grossTaxByTrying_X3_grossTaxByTrying
theorem dL_grossTaxByTrying_0 : decode cL_grossTaxByTrying 0 = .ok (.aload_n 3, 1) := by decide +kernel
theorem dL_grossTaxByTrying_1 : decode cL_grossTaxByTrying 1 = .ok (.iconst 0, 1) := by decide +kernel
theorem dL_grossTaxByTrying_2 : decode cL_grossTaxByTrying 2 = .ok (.aload_n 0, 1) := by decide +kernel
theorem dL_grossTaxByTrying_3 : decode cL_grossTaxByTrying 3 = .ok (.iload_n 1, 1) := by decide +kernel
theorem dL_grossTaxByTrying_4 : decode cL_grossTaxByTrying 4 = .ok (.iload_n 2, 1) := by decide +kernel
theorem dL_grossTaxByTrying_5 : decode cL_grossTaxByTrying 5 = .ok (.invokevirtual 26, 3) := by decide +kernel
theorem dL_grossTaxByTrying_8 : decode cL_grossTaxByTrying 8 = .ok (.i2l, 1) := by decide +kernel
theorem dL_grossTaxByTrying_9 : decode cL_grossTaxByTrying 9 = .ok (.lastore, 1) := by decide +kernel
theorem dL_grossTaxByTrying_10 : decode cL_grossTaxByTrying 10 = .ok (.goto 7, 3) := by decide +kernel
theorem dL_grossTaxByTrying_13 : decode cL_grossTaxByTrying 13 = .ok (.astore 4, 2) := by decide +kernel
theorem dL_grossTaxByTrying_15 : decode cL_grossTaxByTrying 15 = .ok (.iconst 1, 1) := by decide +kernel
theorem dL_grossTaxByTrying_16 : decode cL_grossTaxByTrying 16 = .ok (.ireturn, 1) := by decide +kernel
theorem dL_grossTaxByTrying_17 : decode cL_grossTaxByTrying 17 = .ok (.iconst 0, 1) := by decide +kernel
theorem dL_grossTaxByTrying_18 : decode cL_grossTaxByTrying 18 = .ok (.ireturn, 1) := by decide +kernel
set_option maxRecDepth 20000 in
theorem ggL_add_X3_add : GoodIn wsL_add wsX3_add := goodIn_ca (goodIn_ca (goodIn_r _ [7, 8, 9, 10, 11, 12, 13, 14, 15, 16, 17, 18, 19, 6, 20, 21, 22, 23, 24, 25, 26, 27, 28, 29, 30, 31, 32, 33, 34, 35, 36, 37, 38, 39, 40, 41, 42, 43, 44, 45, 46, 47, 48, 49, 50, 51, 52, 53, 54, 55, 56, 57, 58, 59, 60, 61, 62, 63, 64, 65, 66, 67, 68, 69, 70, 71, 72, 73, 74, 75, 76, 77, 78, 79, 80, 81, 82, 83, 84, 85, 86, 87, 88, 89, 90, 91, 92, 93, 94, 95, 96, 97, 98, 99, 100, 101, 102, 103, 104, 105, 106, 107, 108, 109, 110, 111, 112, 113, 114, 115, 116, 117, 118, 119, 120, 121, 122, 123, 124, 125, 126, 127, 128, 129, 130, 131, 132, 133, 134, 135, 136, 137, 138, 139, 140, 141, 142, 143] (by decide +kernel) (by decide +kernel)) (goodIn_sub (fun _ h => List.mem_cons_of_mem _ (List.mem_append_left _ (List.mem_append_right _ h))) (by decide +kernel))) (goodIn_sub (fun _ h => List.mem_cons_of_mem _ (List.mem_append_right _ h)) (by decide +kernel))
set_option maxRecDepth 20000 in
theorem gL_add_X3_add : GoodIn wsL_add (wsV RL 29 RX3 yX3_add wsX3_add) := goodIn_app (goodIn_of _ (by decide +kernel)) ggL_add_X3_add
theorem dL_add_0 : decode cL_add 0 = .ok (.aload 4, 2) := by decide +kernel
theorem dL_add_2 : decode cL_add 2 = .ok (.iconst 0, 1) := by decide +kernel
theorem dL_add_3 : decode cL_add 3 = .ok (.aload_n 0, 1) := by decide +kernel
theorem dL_add_4 : decode cL_add 4 = .ok (.iload_n 1, 1) := by decide +kernel
theorem dL_add_5 : decode cL_add 5 = .ok (.iload_n 2, 1) := by decide +kernel
theorem dL_add_6 : decode cL_add 6 = .ok (.iload_n 3, 1) := by decide +kernel
theorem dL_add_7 : decode cL_add 7 = .ok (.invokevirtual 29, 3) := by decide +kernel
theorem dL_add_10 : decode cL_add 10 = .ok (.i2l, 1) := by decide +kernel
theorem dL_add_11 : decode cL_add 11 = .ok (.lastore, 1) := by decide +kernel
theorem dL_add_12 : decode cL_add 12 = .ok (.goto 11, 3) := by decide +kernel
theorem dL_add_15 : decode cL_add 15 = .ok (.astore 5, 2) := by decide +kernel
theorem dL_add_17 : decode cL_add 17 = .ok (.iconst 1, 1) := by decide +kernel
theorem dL_add_18 : decode cL_add 18 = .ok (.ireturn, 1) := by decide +kernel
theorem dL_add_19 : decode cL_add 19 = .ok (.astore 5, 2) := by decide +kernel
theorem dL_add_21 : decode cL_add 21 = .ok (.iconst 2, 1) := by decide +kernel
theorem dL_add_22 : decode cL_add 22 = .ok (.ireturn, 1) := by decide +kernel
theorem dL_add_23 : decode cL_add 23 = .ok (.iconst 0, 1) := by decide +kernel
theorem dL_add_24 : decode cL_add 24 = .ok (.ireturn, 1) := by decide +kernel
set_option maxRecDepth 20000 in
theorem ggL_setAbroad_X3_setAbroad : GoodIn wsL_setAbroad wsX3_setAbroad := goodIn_ca (goodIn_ca (goodIn_r _ [7, 8, 9, 10, 6, 11, 12, 13, 14, 15, 16, 17, 18, 19, 20, 21, 22, 23, 24, 25, 26, 27, 28, 29, 30, 31, 32, 33, 34, 35, 36, 37, 38, 39, 40, 41, 42, 43, 44, 45, 46, 47, 48, 49, 50, 51, 52, 53, 54, 55, 56, 57, 58, 59, 60, 61, 62, 63] (by decide +kernel) (by decide +kernel)) (goodIn_sub (fun _ h => List.mem_cons_of_mem _ (List.mem_append_left _ (List.mem_append_right _ h))) (by decide +kernel))) (goodIn_sub (fun _ h => List.mem_cons_of_mem _ (List.mem_append_right _ h)) (by decide +kernel))
set_option maxRecDepth 20000 in
theorem gL_setAbroad_X3_setAbroad : GoodIn wsL_setAbroad (wsV RL 35 RX3 yX3_setAbroad wsX3_setAbroad) := goodIn_app (goodIn_of _ (by decide +kernel)) ggL_setAbroad_X3_setAbroad
theorem dL_setAbroad_0 : decode cL_setAbroad 0 = .ok (.aload 4, 2) := by decide +kernel
theorem dL_setAbroad_2 : decode cL_setAbroad 2 = .ok (.iconst 0, 1) := by decide +kernel
theorem dL_setAbroad_3 : decode cL_setAbroad 3 = .ok (.aload_n 0, 1) := by decide +kernel
theorem dL_setAbroad_4 : decode cL_setAbroad 4 = .ok (.iload_n 1, 1) := by decide +kernel
theorem dL_setAbroad_5 : decode cL_setAbroad 5 = .ok (.iload_n 2, 1) := by decide +kernel
theorem dL_setAbroad_6 : decode cL_setAbroad 6 = .ok (.iload_n 3, 1) := by decide +kernel
theorem dL_setAbroad_7 : decode cL_setAbroad 7 = .ok (.invokevirtual 35, 3) := by decide +kernel
theorem dL_setAbroad_10 : decode cL_setAbroad 10 = .ok (.i2l, 1) := by decide +kernel
theorem dL_setAbroad_11 : decode cL_setAbroad 11 = .ok (.lastore, 1) := by decide +kernel
theorem dL_setAbroad_12 : decode cL_setAbroad 12 = .ok (.goto 11, 3) := by decide +kernel
theorem dL_setAbroad_15 : decode cL_setAbroad 15 = .ok (.astore 5, 2) := by decide +kernel
theorem dL_setAbroad_17 : decode cL_setAbroad 17 = .ok (.iconst 1, 1) := by decide +kernel
theorem dL_setAbroad_18 : decode cL_setAbroad 18 = .ok (.ireturn, 1) := by decide +kernel
theorem dL_setAbroad_19 : decode cL_setAbroad 19 = .ok (.astore 5, 2) := by decide +kernel
theorem dL_setAbroad_21 : decode cL_setAbroad 21 = .ok (.iconst 2, 1) := by decide +kernel
theorem dL_setAbroad_22 : decode cL_setAbroad 22 = .ok (.ireturn, 1) := by decide +kernel
theorem dL_setAbroad_23 : decode cL_setAbroad 23 = .ok (.iconst 0, 1) := by decide +kernel
theorem dL_setAbroad_24 : decode cL_setAbroad 24 = .ok (.ireturn, 1) := by decide +kernel
set_option maxRecDepth 20000 in
theorem ggL_setPay_X3_setPay : GoodIn wsL_setPay wsX3_setPay := goodIn_ca (goodIn_ca (goodIn_r _ [7, 8, 9, 10, 11, 6, 12, 13, 14, 15, 16, 17, 18, 19, 20, 21, 22, 23, 24, 25, 26, 27, 28, 29, 30, 31, 32, 33, 34, 35, 36, 37, 38, 39, 40, 41, 42, 43, 44, 45, 46, 47, 48, 49, 50, 51, 52, 53, 54, 55, 56, 57] (by decide +kernel) (by decide +kernel)) (goodIn_sub (fun _ h => List.mem_cons_of_mem _ (List.mem_append_left _ (List.mem_append_right _ h))) (by decide +kernel))) (goodIn_sub (fun _ h => List.mem_cons_of_mem _ (List.mem_append_right _ h)) (by decide +kernel))
set_option maxRecDepth 20000 in
theorem gL_setPay_X3_setPay : GoodIn wsL_setPay (wsV RL 40 RX3 yX3_setPay wsX3_setPay) := goodIn_app (goodIn_of _ (by decide +kernel)) ggL_setPay_X3_setPay
theorem dL_setPay_0 : decode cL_setPay 0 = .ok (.aload_n 3, 1) := by decide +kernel
theorem dL_setPay_1 : decode cL_setPay 1 = .ok (.iconst 0, 1) := by decide +kernel
theorem dL_setPay_2 : decode cL_setPay 2 = .ok (.aload_n 0, 1) := by decide +kernel
theorem dL_setPay_3 : decode cL_setPay 3 = .ok (.iload_n 1, 1) := by decide +kernel
theorem dL_setPay_4 : decode cL_setPay 4 = .ok (.iload_n 2, 1) := by decide +kernel
theorem dL_setPay_5 : decode cL_setPay 5 = .ok (.invokevirtual 40, 3) := by decide +kernel
theorem dL_setPay_8 : decode cL_setPay 8 = .ok (.i2l, 1) := by decide +kernel
theorem dL_setPay_9 : decode cL_setPay 9 = .ok (.lastore, 1) := by decide +kernel
theorem dL_setPay_10 : decode cL_setPay 10 = .ok (.goto 11, 3) := by decide +kernel
theorem dL_setPay_13 : decode cL_setPay 13 = .ok (.astore 4, 2) := by decide +kernel
theorem dL_setPay_15 : decode cL_setPay 15 = .ok (.iconst 1, 1) := by decide +kernel
theorem dL_setPay_16 : decode cL_setPay 16 = .ok (.ireturn, 1) := by decide +kernel
theorem dL_setPay_17 : decode cL_setPay 17 = .ok (.astore 4, 2) := by decide +kernel
theorem dL_setPay_19 : decode cL_setPay 19 = .ok (.iconst 2, 1) := by decide +kernel
theorem dL_setPay_20 : decode cL_setPay 20 = .ok (.ireturn, 1) := by decide +kernel
theorem dL_setPay_21 : decode cL_setPay 21 = .ok (.iconst 0, 1) := by decide +kernel
theorem dL_setPay_22 : decode cL_setPay 22 = .ok (.ireturn, 1) := by decide +kernel
set_option maxRecDepth 20000 in
theorem ggL_setHousing_X3_setHousing : GoodIn wsL_setHousing wsX3_setHousing := goodIn_ca (goodIn_ca (goodIn_r _ [7, 8, 9, 10, 11, 6, 12, 13, 14, 15, 16, 17, 18, 19, 20, 21, 22, 23, 24, 25, 26, 27, 28, 29, 30, 31, 32, 33, 34, 35, 36, 37, 38, 39, 40, 41, 42, 43, 44, 45, 46, 47, 48, 49, 50, 51, 52, 53, 54, 55, 56, 57, 58, 59, 60, 61, 62, 63, 64, 65, 66, 67, 68, 69] (by decide +kernel) (by decide +kernel)) (goodIn_sub (fun _ h => List.mem_cons_of_mem _ (List.mem_append_left _ (List.mem_append_right _ h))) (by decide +kernel))) (goodIn_sub (fun _ h => List.mem_cons_of_mem _ (List.mem_append_right _ h)) (by decide +kernel))
set_option maxRecDepth 20000 in
theorem gL_setHousing_X3_setHousing : GoodIn wsL_setHousing (wsV RL 43 RX3 yX3_setHousing wsX3_setHousing) := goodIn_app (goodIn_of _ (by decide +kernel)) ggL_setHousing_X3_setHousing
theorem dL_setHousing_0 : decode cL_setHousing 0 = .ok (.aload 4, 2) := by decide +kernel
theorem dL_setHousing_2 : decode cL_setHousing 2 = .ok (.iconst 0, 1) := by decide +kernel
theorem dL_setHousing_3 : decode cL_setHousing 3 = .ok (.aload_n 0, 1) := by decide +kernel
theorem dL_setHousing_4 : decode cL_setHousing 4 = .ok (.iload_n 1, 1) := by decide +kernel
theorem dL_setHousing_5 : decode cL_setHousing 5 = .ok (.iload_n 2, 1) := by decide +kernel
theorem dL_setHousing_6 : decode cL_setHousing 6 = .ok (.iload_n 3, 1) := by decide +kernel
theorem dL_setHousing_7 : decode cL_setHousing 7 = .ok (.invokevirtual 43, 3) := by decide +kernel
theorem dL_setHousing_10 : decode cL_setHousing 10 = .ok (.i2l, 1) := by decide +kernel
theorem dL_setHousing_11 : decode cL_setHousing 11 = .ok (.lastore, 1) := by decide +kernel
theorem dL_setHousing_12 : decode cL_setHousing 12 = .ok (.goto 11, 3) := by decide +kernel
theorem dL_setHousing_15 : decode cL_setHousing 15 = .ok (.astore 5, 2) := by decide +kernel
theorem dL_setHousing_17 : decode cL_setHousing 17 = .ok (.iconst 1, 1) := by decide +kernel
theorem dL_setHousing_18 : decode cL_setHousing 18 = .ok (.ireturn, 1) := by decide +kernel
theorem dL_setHousing_19 : decode cL_setHousing 19 = .ok (.astore 5, 2) := by decide +kernel
theorem dL_setHousing_21 : decode cL_setHousing 21 = .ok (.iconst 2, 1) := by decide +kernel
theorem dL_setHousing_22 : decode cL_setHousing 22 = .ok (.ireturn, 1) := by decide +kernel
theorem dL_setHousing_23 : decode cL_setHousing 23 = .ok (.iconst 0, 1) := by decide +kernel
theorem dL_setHousing_24 : decode cL_setHousing 24 = .ok (.ireturn, 1) := by decide +kernel
set_option maxRecDepth 20000 in
theorem ggL_addBonus_X3_addBonus : GoodIn wsL_addBonus wsX3_addBonus := goodIn_ca (goodIn_ca (goodIn_ca (goodIn_r _ [8, 9, 10, 11, 12, 13, 14, 15, 16, 17, 7, 18, 19, 20, 21, 22, 23, 24, 25, 26, 27, 28, 29, 30, 31, 32, 33, 34, 35, 36, 37, 38, 39, 40, 41, 42, 43, 44, 45, 46, 47, 48, 49, 50, 51, 52, 53, 54, 55, 56, 57, 58, 59, 60, 61, 62, 63, 64, 65, 66, 67, 68, 69, 70, 71, 72, 73, 74, 75, 76, 77, 78, 79, 80, 81, 82, 83, 84, 85, 86, 87, 88, 89, 90, 91, 92, 93, 94, 95, 96, 97, 98, 99, 100, 101, 102, 103, 104, 105, 106, 107, 108, 109, 110, 111, 112, 113, 114, 115, 116, 117, 118, 119, 120, 121, 122, 123, 124, 125, 126, 127, 128] (by decide +kernel) (by decide +kernel)) (goodIn_sub (fun _ h => List.mem_cons_of_mem _ (List.mem_append_left _ (List.mem_append_left _ (List.mem_append_right _ h)))) (by decide +kernel))) (goodIn_sub (fun _ h => List.mem_cons_of_mem _ (List.mem_append_left _ (List.mem_append_right _ h))) (by decide +kernel))) (goodIn_sub (fun _ h => List.mem_cons_of_mem _ (List.mem_append_right _ h)) (by decide +kernel))
set_option maxRecDepth 20000 in
theorem gL_addBonus_X3_addBonus : GoodIn wsL_addBonus (wsV RL 46 RX3 yX3_addBonus wsX3_addBonus) := goodIn_app (goodIn_of _ (by decide +kernel)) ggL_addBonus_X3_addBonus
theorem dL_addBonus_0 : decode cL_addBonus 0 = .ok (.aload 5, 2) := by decide +kernel
theorem dL_addBonus_2 : decode cL_addBonus 2 = .ok (.iconst 0, 1) := by decide +kernel
theorem dL_addBonus_3 : decode cL_addBonus 3 = .ok (.aload_n 0, 1) := by decide +kernel
theorem dL_addBonus_4 : decode cL_addBonus 4 = .ok (.iload_n 1, 1) := by decide +kernel
theorem dL_addBonus_5 : decode cL_addBonus 5 = .ok (.iload_n 2, 1) := by decide +kernel
theorem dL_addBonus_6 : decode cL_addBonus 6 = .ok (.iload_n 3, 1) := by decide +kernel
theorem dL_addBonus_7 : decode cL_addBonus 7 = .ok (.iload 4, 2) := by decide +kernel
theorem dL_addBonus_9 : decode cL_addBonus 9 = .ok (.invokevirtual 46, 3) := by decide +kernel
theorem dL_addBonus_12 : decode cL_addBonus 12 = .ok (.i2l, 1) := by decide +kernel
theorem dL_addBonus_13 : decode cL_addBonus 13 = .ok (.lastore, 1) := by decide +kernel
theorem dL_addBonus_14 : decode cL_addBonus 14 = .ok (.goto 15, 3) := by decide +kernel
theorem dL_addBonus_17 : decode cL_addBonus 17 = .ok (.astore 6, 2) := by decide +kernel
theorem dL_addBonus_19 : decode cL_addBonus 19 = .ok (.iconst 1, 1) := by decide +kernel
theorem dL_addBonus_20 : decode cL_addBonus 20 = .ok (.ireturn, 1) := by decide +kernel
theorem dL_addBonus_21 : decode cL_addBonus 21 = .ok (.astore 6, 2) := by decide +kernel
theorem dL_addBonus_23 : decode cL_addBonus 23 = .ok (.iconst 2, 1) := by decide +kernel
theorem dL_addBonus_24 : decode cL_addBonus 24 = .ok (.ireturn, 1) := by decide +kernel
theorem dL_addBonus_25 : decode cL_addBonus 25 = .ok (.astore 6, 2) := by decide +kernel
theorem dL_addBonus_27 : decode cL_addBonus 27 = .ok (.iconst 3, 1) := by decide +kernel
theorem dL_addBonus_28 : decode cL_addBonus 28 = .ok (.ireturn, 1) := by decide +kernel
theorem dL_addBonus_29 : decode cL_addBonus 29 = .ok (.iconst 0, 1) := by decide +kernel
theorem dL_addBonus_30 : decode cL_addBonus 30 = .ok (.ireturn, 1) := by decide +kernel
set_option maxRecDepth 20000 in
theorem ggL_abroadPart_X3_abroadPart : GoodIn wsL_abroadPart wsX3_abroadPart := goodIn_ca (goodIn_r _ [6, 7, 8, 9, 10, 11, 12, 5, 13, 14, 15, 16, 17, 18, 19, 20, 21, 22, 23, 24, 25, 26, 27, 28, 29, 30, 31, 32, 33, 34, 35, 36, 37, 38, 39, 40, 41, 42, 43, 44, 45, 46, 47, 48, 49, 50, 51, 52, 53, 54, 55, 56, 57, 58, 59, 60, 61, 62, 63, 64, 65, 66, 67, 68] (by decide +kernel) (by decide +kernel)) (goodIn_sub (fun _ h => List.mem_cons_of_mem _ (List.mem_append_right _ h)) (by decide +kernel))
set_option maxRecDepth 20000 in
theorem gL_abroadPart_X3_abroadPart : GoodIn wsL_abroadPart (wsV RL 50 RX3 yX3_abroadPart wsX3_abroadPart) := goodIn_app (goodIn_of _ (by decide +kernel)) ggL_abroadPart_X3_abroadPart
theorem dL_abroadPart_0 : decode cL_abroadPart 0 = .ok (.aload_n 3, 1) := by decide +kernel
theorem dL_abroadPart_1 : decode cL_abroadPart 1 = .ok (.iconst 0, 1) := by decide +kernel
theorem dL_abroadPart_2 : decode cL_abroadPart 2 = .ok (.aload_n 0, 1) := by decide +kernel
theorem dL_abroadPart_3 : decode cL_abroadPart 3 = .ok (.iload_n 1, 1) := by decide +kernel
theorem dL_abroadPart_4 : decode cL_abroadPart 4 = .ok (.iload_n 2, 1) := by decide +kernel
theorem dL_abroadPart_5 : decode cL_abroadPart 5 = .ok (.invokevirtual 50, 3) := by decide +kernel
theorem dL_abroadPart_8 : decode cL_abroadPart 8 = .ok (.i2l, 1) := by decide +kernel
theorem dL_abroadPart_9 : decode cL_abroadPart 9 = .ok (.lastore, 1) := by decide +kernel
theorem dL_abroadPart_10 : decode cL_abroadPart 10 = .ok (.goto 7, 3) := by decide +kernel
theorem dL_abroadPart_13 : decode cL_abroadPart 13 = .ok (.astore 4, 2) := by decide +kernel
theorem dL_abroadPart_15 : decode cL_abroadPart 15 = .ok (.iconst 1, 1) := by decide +kernel
theorem dL_abroadPart_16 : decode cL_abroadPart 16 = .ok (.ireturn, 1) := by decide +kernel
theorem dL_abroadPart_17 : decode cL_abroadPart 17 = .ok (.iconst 0, 1) := by decide +kernel
theorem dL_abroadPart_18 : decode cL_abroadPart 18 = .ok (.ireturn, 1) := by decide +kernel
set_option maxRecDepth 20000 in
theorem ggL_held_X3_held : GoodIn wsL_held wsX3_held := goodIn_ca (goodIn_ca (goodIn_r _ [7, 8, 9, 10, 6, 11, 12, 13, 14, 15, 16, 17, 18, 19, 20, 21, 22, 23, 24, 25, 26, 27, 28, 29, 30, 31, 32, 33, 34, 35, 36, 37, 38, 39, 40, 41, 42, 43, 44, 45, 46, 47, 48, 49, 50, 51, 52, 53, 54, 55, 56, 57, 58, 59, 60, 61, 62, 63, 64, 65, 66, 67, 68, 69, 70, 71, 72, 73, 74, 75, 76, 77, 78, 79, 80, 81, 82, 83, 84, 85, 86, 87, 88, 89, 90, 91, 92] (by decide +kernel) (by decide +kernel)) (goodIn_sub (fun _ h => List.mem_cons_of_mem _ (List.mem_append_left _ (List.mem_append_right _ h))) (by decide +kernel))) (goodIn_sub (fun _ h => List.mem_cons_of_mem _ (List.mem_append_right _ h)) (by decide +kernel))
set_option maxRecDepth 20000 in
theorem gL_held_X3_held : GoodIn wsL_held (wsV RL 53 RX3 yX3_held wsX3_held) := goodIn_app (goodIn_of _ (by decide +kernel)) ggL_held_X3_held
theorem dL_held_0 : decode cL_held 0 = .ok (.aload_n 3, 1) := by decide +kernel
theorem dL_held_1 : decode cL_held 1 = .ok (.iconst 0, 1) := by decide +kernel
theorem dL_held_2 : decode cL_held 2 = .ok (.aload_n 0, 1) := by decide +kernel
theorem dL_held_3 : decode cL_held 3 = .ok (.iload_n 1, 1) := by decide +kernel
theorem dL_held_4 : decode cL_held 4 = .ok (.iload_n 2, 1) := by decide +kernel
theorem dL_held_5 : decode cL_held 5 = .ok (.invokevirtual 53, 3) := by decide +kernel
theorem dL_held_8 : decode cL_held 8 = .ok (.i2l, 1) := by decide +kernel
theorem dL_held_9 : decode cL_held 9 = .ok (.lastore, 1) := by decide +kernel
theorem dL_held_10 : decode cL_held 10 = .ok (.goto 11, 3) := by decide +kernel
theorem dL_held_13 : decode cL_held 13 = .ok (.astore 4, 2) := by decide +kernel
theorem dL_held_15 : decode cL_held 15 = .ok (.iconst 1, 1) := by decide +kernel
theorem dL_held_16 : decode cL_held 16 = .ok (.ireturn, 1) := by decide +kernel
theorem dL_held_17 : decode cL_held 17 = .ok (.astore 4, 2) := by decide +kernel
theorem dL_held_19 : decode cL_held 19 = .ok (.iconst 2, 1) := by decide +kernel
theorem dL_held_20 : decode cL_held 20 = .ok (.ireturn, 1) := by decide +kernel
theorem dL_held_21 : decode cL_held 21 = .ok (.iconst 0, 1) := by decide +kernel
theorem dL_held_22 : decode cL_held 22 = .ok (.ireturn, 1) := by decide +kernel
set_option maxRecDepth 20000 in
theorem ggL_supposedTax_X3_supposedTax : GoodIn wsL_supposedTax wsX3_supposedTax := goodIn_ca (goodIn_r _ [6, 7, 8, 9, 5, 10, 11, 12, 13, 14, 15, 16, 17, 18, 19, 20, 21, 22, 23, 24, 25, 26, 27, 28, 29, 30, 31, 32, 33, 34, 35, 36, 37, 38, 39, 40, 41, 42, 43, 44, 45, 46, 47, 48, 49, 50, 51, 52, 53, 54, 55, 56, 57, 58, 59, 60, 61, 62, 63, 64, 65, 66, 67, 68, 69, 70, 71, 72, 73, 74, 75, 76, 77, 78, 79, 80, 81, 82, 83, 84, 85, 86, 87, 88, 89, 90, 91] (by decide +kernel) (by decide +kernel)) (goodIn_sub (fun _ h => List.mem_cons_of_mem _ (List.mem_append_right _ h)) (by decide +kernel))
set_option maxRecDepth 20000 in
theorem gL_supposedTax_X3_supposedTax : GoodIn wsL_supposedTax (wsV RL 56 RX3 yX3_supposedTax wsX3_supposedTax) := goodIn_app (goodIn_of _ (by decide +kernel)) ggL_supposedTax_X3_supposedTax
theorem dL_supposedTax_0 : decode cL_supposedTax 0 = .ok (.aload_n 2, 1) := by decide +kernel
theorem dL_supposedTax_1 : decode cL_supposedTax 1 = .ok (.iconst 0, 1) := by decide +kernel
theorem dL_supposedTax_2 : decode cL_supposedTax 2 = .ok (.aload_n 0, 1) := by decide +kernel
theorem dL_supposedTax_3 : decode cL_supposedTax 3 = .ok (.iload_n 1, 1) := by decide +kernel
theorem dL_supposedTax_4 : decode cL_supposedTax 4 = .ok (.invokevirtual 56, 3) := by decide +kernel
theorem dL_supposedTax_7 : decode cL_supposedTax 7 = .ok (.i2l, 1) := by decide +kernel
theorem dL_supposedTax_8 : decode cL_supposedTax 8 = .ok (.lastore, 1) := by decide +kernel
theorem dL_supposedTax_9 : decode cL_supposedTax 9 = .ok (.goto 6, 3) := by decide +kernel
theorem dL_supposedTax_12 : decode cL_supposedTax 12 = .ok (.astore_n 3, 1) := by decide +kernel
theorem dL_supposedTax_13 : decode cL_supposedTax 13 = .ok (.iconst 1, 1) := by decide +kernel
theorem dL_supposedTax_14 : decode cL_supposedTax 14 = .ok (.ireturn, 1) := by decide +kernel
theorem dL_supposedTax_15 : decode cL_supposedTax 15 = .ok (.iconst 0, 1) := by decide +kernel
theorem dL_supposedTax_16 : decode cL_supposedTax 16 = .ok (.ireturn, 1) := by decide +kernel
set_option maxRecDepth 20000 in
theorem ggL_homeIncome_X3_homeIncome : GoodIn wsL_homeIncome wsX3_homeIncome := goodIn_ca (goodIn_r _ [6, 7, 8, 9, 5, 10, 11, 12, 13, 14, 15, 16, 17, 18, 19, 20, 21, 22, 23, 24, 25, 26, 27, 28, 29, 30, 31, 32, 33, 34, 35, 36, 37, 38, 39, 40, 41, 42, 43, 44, 45, 46, 47, 48, 49, 50, 51, 52, 53, 54, 55, 56, 57, 58, 59, 60, 61, 62, 63, 64, 65, 66, 67, 68, 69, 70, 71, 72, 73, 74, 75, 76, 77, 78, 79, 80] (by decide +kernel) (by decide +kernel)) (goodIn_sub (fun _ h => List.mem_cons_of_mem _ (List.mem_append_right _ h)) (by decide +kernel))
set_option maxRecDepth 20000 in
theorem gL_homeIncome_X3_homeIncome : GoodIn wsL_homeIncome (wsV RL 60 RX3 yX3_homeIncome wsX3_homeIncome) := goodIn_app (goodIn_of _ (by decide +kernel)) ggL_homeIncome_X3_homeIncome
theorem dL_homeIncome_0 : decode cL_homeIncome 0 = .ok (.aload_n 2, 1) := by decide +kernel
theorem dL_homeIncome_1 : decode cL_homeIncome 1 = .ok (.iconst 0, 1) := by decide +kernel
theorem dL_homeIncome_2 : decode cL_homeIncome 2 = .ok (.aload_n 0, 1) := by decide +kernel
theorem dL_homeIncome_3 : decode cL_homeIncome 3 = .ok (.iload_n 1, 1) := by decide +kernel
theorem dL_homeIncome_4 : decode cL_homeIncome 4 = .ok (.invokevirtual 60, 3) := by decide +kernel
theorem dL_homeIncome_7 : decode cL_homeIncome 7 = .ok (.i2l, 1) := by decide +kernel
theorem dL_homeIncome_8 : decode cL_homeIncome 8 = .ok (.lastore, 1) := by decide +kernel
theorem dL_homeIncome_9 : decode cL_homeIncome 9 = .ok (.goto 6, 3) := by decide +kernel
theorem dL_homeIncome_12 : decode cL_homeIncome 12 = .ok (.astore_n 3, 1) := by decide +kernel
theorem dL_homeIncome_13 : decode cL_homeIncome 13 = .ok (.iconst 1, 1) := by decide +kernel
theorem dL_homeIncome_14 : decode cL_homeIncome 14 = .ok (.ireturn, 1) := by decide +kernel
theorem dL_homeIncome_15 : decode cL_homeIncome 15 = .ok (.iconst 0, 1) := by decide +kernel
theorem dL_homeIncome_16 : decode cL_homeIncome 16 = .ok (.ireturn, 1) := by decide +kernel
set_option maxRecDepth 20000 in
theorem ggL_homeTax_X3_homeTax : GoodIn wsL_homeTax wsX3_homeTax := goodIn_ca (goodIn_r _ [6, 7, 8, 9, 5, 10, 11, 12, 13, 14, 15, 16, 17, 18, 19, 20, 21, 22, 23, 24, 25, 26, 27, 28, 29, 30, 31, 32, 33, 34, 35, 36, 37, 38, 39, 40, 41, 42, 43, 44, 45, 46, 47, 48, 49, 50, 51, 52, 53, 54, 55, 56, 57, 58, 59, 60, 61, 62, 63, 64, 65, 66, 67, 68, 69, 70, 71, 72, 73, 74, 75, 76, 77, 78, 79, 80, 81, 82, 83, 84, 85, 86, 87, 88, 89, 90, 91, 92, 93, 94, 95, 96, 97, 98, 99, 100, 101, 102, 103, 104, 105, 106, 107] (by decide +kernel) (by decide +kernel)) (goodIn_sub (fun _ h => List.mem_cons_of_mem _ (List.mem_append_right _ h)) (by decide +kernel))
set_option maxRecDepth 20000 in
theorem gL_homeTax_X3_homeTax : GoodIn wsL_homeTax (wsV RL 63 RX3 yX3_homeTax wsX3_homeTax) := goodIn_app (goodIn_of _ (by decide +kernel)) ggL_homeTax_X3_homeTax
theorem dL_homeTax_0 : decode cL_homeTax 0 = .ok (.aload_n 2, 1) := by decide +kernel
theorem dL_homeTax_1 : decode cL_homeTax 1 = .ok (.iconst 0, 1) := by decide +kernel
theorem dL_homeTax_2 : decode cL_homeTax 2 = .ok (.aload_n 0, 1) := by decide +kernel
theorem dL_homeTax_3 : decode cL_homeTax 3 = .ok (.iload_n 1, 1) := by decide +kernel
theorem dL_homeTax_4 : decode cL_homeTax 4 = .ok (.invokevirtual 63, 3) := by decide +kernel
theorem dL_homeTax_7 : decode cL_homeTax 7 = .ok (.i2l, 1) := by decide +kernel
theorem dL_homeTax_8 : decode cL_homeTax 8 = .ok (.lastore, 1) := by decide +kernel
theorem dL_homeTax_9 : decode cL_homeTax 9 = .ok (.goto 6, 3) := by decide +kernel
theorem dL_homeTax_12 : decode cL_homeTax 12 = .ok (.astore_n 3, 1) := by decide +kernel
theorem dL_homeTax_13 : decode cL_homeTax 13 = .ok (.iconst 1, 1) := by decide +kernel
theorem dL_homeTax_14 : decode cL_homeTax 14 = .ok (.ireturn, 1) := by decide +kernel
theorem dL_homeTax_15 : decode cL_homeTax 15 = .ok (.iconst 0, 1) := by decide +kernel
theorem dL_homeTax_16 : decode cL_homeTax 16 = .ok (.ireturn, 1) := by decide +kernel
set_option maxRecDepth 20000 in
theorem ggL_hostIncome_X3_hostIncome : GoodIn wsL_hostIncome wsX3_hostIncome := goodIn_ca (goodIn_r _ [6, 7, 8, 9, 5, 10, 11, 12, 13, 14, 15, 16, 17, 18, 19, 20, 21, 22, 23, 24, 25, 26, 27, 28, 29, 30, 31, 32, 33, 34, 35, 36, 37, 38, 39, 40, 41, 42, 43, 44, 45, 46, 47, 48, 49, 50, 51, 52, 53, 54, 55, 56, 57, 58, 59, 60, 61, 62, 63, 64, 65, 66, 67, 68, 69, 70, 71, 72, 73, 74, 75, 76, 77, 78, 79, 80, 81, 82, 83, 84, 85, 86, 87, 88, 89, 90] (by decide +kernel) (by decide +kernel)) (goodIn_sub (fun _ h => List.mem_cons_of_mem _ (List.mem_append_right _ h)) (by decide +kernel))
set_option maxRecDepth 20000 in
theorem gL_hostIncome_X3_hostIncome : GoodIn wsL_hostIncome (wsV RL 66 RX3 yX3_hostIncome wsX3_hostIncome) := goodIn_app (goodIn_of _ (by decide +kernel)) ggL_hostIncome_X3_hostIncome
theorem dL_hostIncome_0 : decode cL_hostIncome 0 = .ok (.aload_n 2, 1) := by decide +kernel
theorem dL_hostIncome_1 : decode cL_hostIncome 1 = .ok (.iconst 0, 1) := by decide +kernel
theorem dL_hostIncome_2 : decode cL_hostIncome 2 = .ok (.aload_n 0, 1) := by decide +kernel
theorem dL_hostIncome_3 : decode cL_hostIncome 3 = .ok (.iload_n 1, 1) := by decide +kernel
theorem dL_hostIncome_4 : decode cL_hostIncome 4 = .ok (.invokevirtual 66, 3) := by decide +kernel
theorem dL_hostIncome_7 : decode cL_hostIncome 7 = .ok (.i2l, 1) := by decide +kernel
theorem dL_hostIncome_8 : decode cL_hostIncome 8 = .ok (.lastore, 1) := by decide +kernel
theorem dL_hostIncome_9 : decode cL_hostIncome 9 = .ok (.goto 6, 3) := by decide +kernel
theorem dL_hostIncome_12 : decode cL_hostIncome 12 = .ok (.astore_n 3, 1) := by decide +kernel
theorem dL_hostIncome_13 : decode cL_hostIncome 13 = .ok (.iconst 1, 1) := by decide +kernel
theorem dL_hostIncome_14 : decode cL_hostIncome 14 = .ok (.ireturn, 1) := by decide +kernel
theorem dL_hostIncome_15 : decode cL_hostIncome 15 = .ok (.iconst 0, 1) := by decide +kernel
theorem dL_hostIncome_16 : decode cL_hostIncome 16 = .ok (.ireturn, 1) := by decide +kernel
set_option maxRecDepth 20000 in
theorem ggL_hostTax_X3_hostTax : GoodIn wsL_hostTax wsX3_hostTax := goodIn_ca (goodIn_r _ [6, 7, 8, 9, 5, 10, 11, 12, 13, 14, 15, 16, 17, 18, 19, 20, 21, 22, 23, 24, 25, 26, 27, 28, 29, 30, 31, 32, 33, 34, 35, 36, 37, 38, 39, 40, 41, 42, 43, 44, 45, 46, 47, 48, 49, 50, 51, 52, 53, 54, 55, 56, 57, 58, 59, 60, 61, 62, 63, 64, 65, 66, 67, 68, 69, 70, 71, 72, 73, 74, 75, 76, 77, 78, 79, 80, 81, 82, 83, 84, 85, 86, 87, 88, 89, 90, 91, 92, 93, 94, 95, 96, 97, 98, 99, 100, 101, 102, 103, 104, 105, 106, 107, 108, 109, 110, 111, 112, 113, 114, 115, 116, 117, 118, 119, 120] (by decide +kernel) (by decide +kernel)) (goodIn_sub (fun _ h => List.mem_cons_of_mem _ (List.mem_append_right _ h)) (by decide +kernel))
set_option maxRecDepth 20000 in
theorem gL_hostTax_X3_hostTax : GoodIn wsL_hostTax (wsV RL 69 RX3 yX3_hostTax wsX3_hostTax) := goodIn_app (goodIn_of _ (by decide +kernel)) ggL_hostTax_X3_hostTax
theorem dL_hostTax_0 : decode cL_hostTax 0 = .ok (.aload_n 2, 1) := by decide +kernel
theorem dL_hostTax_1 : decode cL_hostTax 1 = .ok (.iconst 0, 1) := by decide +kernel
theorem dL_hostTax_2 : decode cL_hostTax 2 = .ok (.aload_n 0, 1) := by decide +kernel
theorem dL_hostTax_3 : decode cL_hostTax 3 = .ok (.iload_n 1, 1) := by decide +kernel
theorem dL_hostTax_4 : decode cL_hostTax 4 = .ok (.invokevirtual 69, 3) := by decide +kernel
theorem dL_hostTax_7 : decode cL_hostTax 7 = .ok (.i2l, 1) := by decide +kernel
theorem dL_hostTax_8 : decode cL_hostTax 8 = .ok (.lastore, 1) := by decide +kernel
theorem dL_hostTax_9 : decode cL_hostTax 9 = .ok (.goto 6, 3) := by decide +kernel
theorem dL_hostTax_12 : decode cL_hostTax 12 = .ok (.astore_n 3, 1) := by decide +kernel
theorem dL_hostTax_13 : decode cL_hostTax 13 = .ok (.iconst 1, 1) := by decide +kernel
theorem dL_hostTax_14 : decode cL_hostTax 14 = .ok (.ireturn, 1) := by decide +kernel
theorem dL_hostTax_15 : decode cL_hostTax 15 = .ok (.iconst 0, 1) := by decide +kernel
theorem dL_hostTax_16 : decode cL_hostTax 16 = .ok (.ireturn, 1) := by decide +kernel
set_option maxRecDepth 20000 in
theorem ggL_borne_X3_borne : GoodIn wsL_borne wsX3_borne := goodIn_ca (goodIn_r _ [6, 7, 8, 9, 5, 10, 11, 12, 13, 14, 15, 16, 17, 18, 19, 20, 21, 22, 23, 24, 25, 26, 27, 28, 29, 30, 31, 32, 33, 34, 35, 36, 37, 38, 39, 40, 41, 42, 43, 44, 45, 46, 47, 48, 49, 50, 51, 52, 53, 54, 55, 56, 57, 58, 59, 60, 61, 62, 63, 64, 65, 66, 67, 68, 69, 70, 71, 72, 73, 74, 75, 76, 77, 78, 79, 80, 81, 82, 83, 84, 85, 86, 87, 88, 89, 90, 91, 92, 93, 94, 95, 96, 97, 98, 99, 100, 101, 102, 103, 104, 105, 106, 107, 108, 109, 110, 111, 112, 113, 114, 115, 116, 117, 118, 119] (by decide +kernel) (by decide +kernel)) (goodIn_sub (fun _ h => List.mem_cons_of_mem _ (List.mem_append_right _ h)) (by decide +kernel))
set_option maxRecDepth 20000 in
theorem gL_borne_X3_borne : GoodIn wsL_borne (wsV RL 72 RX3 yX3_borne wsX3_borne) := goodIn_app (goodIn_of _ (by decide +kernel)) ggL_borne_X3_borne
theorem dL_borne_0 : decode cL_borne 0 = .ok (.aload_n 2, 1) := by decide +kernel
theorem dL_borne_1 : decode cL_borne 1 = .ok (.iconst 0, 1) := by decide +kernel
theorem dL_borne_2 : decode cL_borne 2 = .ok (.aload_n 0, 1) := by decide +kernel
theorem dL_borne_3 : decode cL_borne 3 = .ok (.iload_n 1, 1) := by decide +kernel
theorem dL_borne_4 : decode cL_borne 4 = .ok (.invokevirtual 72, 3) := by decide +kernel
theorem dL_borne_7 : decode cL_borne 7 = .ok (.i2l, 1) := by decide +kernel
theorem dL_borne_8 : decode cL_borne 8 = .ok (.lastore, 1) := by decide +kernel
theorem dL_borne_9 : decode cL_borne 9 = .ok (.goto 6, 3) := by decide +kernel
theorem dL_borne_12 : decode cL_borne 12 = .ok (.astore_n 3, 1) := by decide +kernel
theorem dL_borne_13 : decode cL_borne 13 = .ok (.iconst 1, 1) := by decide +kernel
theorem dL_borne_14 : decode cL_borne 14 = .ok (.ireturn, 1) := by decide +kernel
theorem dL_borne_15 : decode cL_borne 15 = .ok (.iconst 0, 1) := by decide +kernel
theorem dL_borne_16 : decode cL_borne 16 = .ok (.ireturn, 1) := by decide +kernel
set_option maxRecDepth 20000 in
theorem ggL_settlement_X3_settlement : GoodIn wsL_settlement wsX3_settlement := goodIn_ca (goodIn_r _ [6, 7, 8, 9, 5, 10, 11, 12, 13, 14, 15, 16, 17, 18, 19, 20, 21, 22, 23, 24, 25, 26, 27, 28, 29, 30, 31, 32, 33, 34, 35, 36, 37, 38, 39, 40, 41, 42, 43, 44, 45, 46, 47, 48, 49, 50, 51, 52, 53, 54, 55, 56, 57, 58, 59, 60, 61, 62, 63, 64, 65, 66, 67, 68, 69, 70, 71, 72, 73, 74, 75, 76, 77, 78, 79, 80, 81, 82, 83, 84, 85, 86, 87, 88, 89, 90, 91, 92, 93, 94, 95, 96, 97, 98, 99, 100, 101, 102, 103, 104, 105, 106, 107, 108, 109, 110, 111, 112, 113, 114, 115, 116, 117, 118, 119, 120, 121, 122, 123, 124, 125, 126, 127] (by decide +kernel) (by decide +kernel)) (goodIn_sub (fun _ h => List.mem_cons_of_mem _ (List.mem_append_right _ h)) (by decide +kernel))
set_option maxRecDepth 20000 in
theorem gL_settlement_X3_settlement : GoodIn wsL_settlement (wsV RL 75 RX3 yX3_settlement wsX3_settlement) := goodIn_app (goodIn_of _ (by decide +kernel)) ggL_settlement_X3_settlement
theorem dL_settlement_0 : decode cL_settlement 0 = .ok (.aload_n 2, 1) := by decide +kernel
theorem dL_settlement_1 : decode cL_settlement 1 = .ok (.iconst 0, 1) := by decide +kernel
theorem dL_settlement_2 : decode cL_settlement 2 = .ok (.aload_n 0, 1) := by decide +kernel
theorem dL_settlement_3 : decode cL_settlement 3 = .ok (.iload_n 1, 1) := by decide +kernel
theorem dL_settlement_4 : decode cL_settlement 4 = .ok (.invokevirtual 75, 3) := by decide +kernel
theorem dL_settlement_7 : decode cL_settlement 7 = .ok (.i2l, 1) := by decide +kernel
theorem dL_settlement_8 : decode cL_settlement 8 = .ok (.lastore, 1) := by decide +kernel
theorem dL_settlement_9 : decode cL_settlement 9 = .ok (.goto 6, 3) := by decide +kernel
theorem dL_settlement_12 : decode cL_settlement 12 = .ok (.astore_n 3, 1) := by decide +kernel
theorem dL_settlement_13 : decode cL_settlement 13 = .ok (.iconst 1, 1) := by decide +kernel
theorem dL_settlement_14 : decode cL_settlement 14 = .ok (.ireturn, 1) := by decide +kernel
theorem dL_settlement_15 : decode cL_settlement 15 = .ok (.iconst 0, 1) := by decide +kernel
theorem dL_settlement_16 : decode cL_settlement 16 = .ok (.ireturn, 1) := by decide +kernel
set_option maxRecDepth 20000 in
theorem ggL_cost_X3_cost : GoodIn wsL_cost wsX3_cost := goodIn_ca (goodIn_r _ [6, 7, 8, 9, 5, 10, 11, 12, 13, 14, 15, 16, 17, 18, 19, 20, 21, 22, 23, 24, 25, 26, 27, 28, 29, 30, 31, 32, 33, 34, 35, 36, 37, 38, 39, 40, 41, 42, 43, 44, 45, 46, 47, 48, 49, 50, 51, 52, 53, 54, 55, 56, 57, 58, 59, 60, 61, 62, 63, 64, 65, 66, 67, 68, 69, 70, 71, 72, 73, 74, 75, 76, 77, 78, 79, 80, 81, 82, 83, 84, 85, 86, 87, 88, 89, 90, 91, 92, 93, 94, 95, 96, 97, 98, 99, 100, 101, 102, 103, 104, 105, 106, 107, 108, 109, 110, 111, 112, 113, 114, 115, 116, 117, 118, 119, 120, 121, 122, 123, 124, 125, 126, 127, 128, 129, 130, 131, 132, 133, 134, 135, 136, 137, 138, 139, 140, 141, 142, 143, 144, 145, 146, 147, 148, 149, 150, 151, 152, 153, 154, 155, 156, 157, 158] (by decide +kernel) (by decide +kernel)) (goodIn_sub (fun _ h => List.mem_cons_of_mem _ (List.mem_append_right _ h)) (by decide +kernel))
set_option maxRecDepth 20000 in
theorem gL_cost_X3_cost : GoodIn wsL_cost (wsV RL 78 RX3 yX3_cost wsX3_cost) := goodIn_app (goodIn_of _ (by decide +kernel)) ggL_cost_X3_cost
theorem dL_cost_0 : decode cL_cost 0 = .ok (.aload_n 2, 1) := by decide +kernel
theorem dL_cost_1 : decode cL_cost 1 = .ok (.iconst 0, 1) := by decide +kernel
theorem dL_cost_2 : decode cL_cost 2 = .ok (.aload_n 0, 1) := by decide +kernel
theorem dL_cost_3 : decode cL_cost 3 = .ok (.iload_n 1, 1) := by decide +kernel
theorem dL_cost_4 : decode cL_cost 4 = .ok (.invokevirtual 78, 3) := by decide +kernel
theorem dL_cost_7 : decode cL_cost 7 = .ok (.i2l, 1) := by decide +kernel
theorem dL_cost_8 : decode cL_cost 8 = .ok (.lastore, 1) := by decide +kernel
theorem dL_cost_9 : decode cL_cost 9 = .ok (.goto 6, 3) := by decide +kernel
theorem dL_cost_12 : decode cL_cost 12 = .ok (.astore_n 3, 1) := by decide +kernel
theorem dL_cost_13 : decode cL_cost 13 = .ok (.iconst 1, 1) := by decide +kernel
theorem dL_cost_14 : decode cL_cost 14 = .ok (.ireturn, 1) := by decide +kernel
theorem dL_cost_15 : decode cL_cost 15 = .ok (.iconst 0, 1) := by decide +kernel
theorem dL_cost_16 : decode cL_cost 16 = .ok (.ireturn, 1) := by decide +kernel
set_option maxRecDepth 20000 in
theorem ggL_law_X3_init : GoodIn wsL_law wsX3_init := goodIn_r _ [9, 10, 11, 12, 13, 14, 15, 16, 17, 18, 19, 20, 21, 22, 23, 24, 25, 26, 27, 28, 29, 30, 31, 32, 33, 34, 35, 36, 37, 38, 39, 40, 41, 42, 43, 44, 45, 46, 47, 48, 49, 50, 51, 52, 53, 54, 55, 56, 57, 58, 59, 60, 61, 62, 63, 64, 65, 66, 67, 68, 69, 70, 71, 72, 73, 74, 75, 76, 77, 78, 79, 80, 81, 82, 83, 84, 85, 86, 87, 88, 89, 90, 91, 92, 93, 94, 95, 96, 97, 641, 642, 643, 623, 624, 644, 645, 646, 647, 648] (by decide +kernel) (by decide +kernel)
set_option maxRecDepth 20000 in
theorem gL_law_X3_init : GoodIn wsL_law (wsX3_init) := ggL_law_X3_init
set_option maxRecDepth 20000 in
theorem ggL_law_X4_init : GoodIn wsL_law wsX4_init := goodIn_r _ [100, 101, 11, 12, 102, 103, 104, 105, 106, 107, 108, 109, 110, 111, 112, 113, 114, 115, 116, 117, 625, 626, 627, 628, 629, 630, 631, 632, 633, 634, 635, 636, 637, 638, 639, 640] (by decide +kernel) (by decide +kernel)
set_option maxRecDepth 20000 in
theorem gL_law_X4_init : GoodIn wsL_law (wsX4_init) := ggL_law_X4_init
set_option maxRecDepth 20000 in
theorem ggL_law_L_setLimits : GoodIn wsL_law wsL_setLimits := goodIn_ca (goodIn_r _ [121, 122, 123, 124, 125, 2, 126, 127, 128, 129, 130, 131, 132, 133, 16, 134, 135, 136, 137, 15, 138, 51, 139, 140, 141, 142, 143, 144, 145, 146, 147, 148, 149, 150, 151, 152, 153, 154, 25, 155, 156, 157, 158, 159, 160, 20, 161, 39, 41, 623, 624, 641, 642, 643, 644, 645, 646, 647, 648] (by decide +kernel) (by decide +kernel)) (goodIn_sub (fun _ h => List.mem_append_left _ (List.mem_append_left _ (List.mem_append_right _ h))) (by decide +kernel))
set_option maxRecDepth 20000 in
theorem gL_law_L_setLimits : GoodIn wsL_law (va_wsS RL 85 yL_setLimits wsL_setLimits) := goodIn_app (goodIn_of _ (by decide +kernel)) ggL_law_L_setLimits
set_option maxRecDepth 20000 in
theorem ggL_law_X4_setLimits : GoodIn wsL_law wsX4_setLimits := goodIn_r _ [165, 166, 167, 103, 104, 168, 169, 5, 170, 171, 172, 173, 625, 626, 627, 628, 629, 630, 631, 632, 633, 634, 635, 636, 637, 638, 639, 640] (by decide +kernel) (by decide +kernel)
set_option maxRecDepth 20000 in
theorem gL_law_X4_setLimits : GoodIn wsL_law (wsV RL 90 RX4 yX4_setLimits wsX4_setLimits) := goodIn_app (goodIn_of _ (by decide +kernel)) ggL_law_X4_setLimits
set_option maxRecDepth 20000 in
theorem ggL_law_X4_thrown : GoodIn wsL_law wsX4_thrown := goodIn_r _ [177, 167, 625, 626, 627, 628, 629, 630, 631, 632, 633, 634, 635, 636, 637, 638, 639, 640] (by decide +kernel) (by decide +kernel)
set_option maxRecDepth 20000 in
theorem gL_law_X4_thrown : GoodIn wsL_law (wsV RL 91 RX4 yX4_thrown wsX4_thrown) := goodIn_app (goodIn_of _ (by decide +kernel)) ggL_law_X4_thrown
set_option maxRecDepth 20000 in
theorem ggL_law_L_setRates : GoodIn wsL_law wsL_setRates := goodIn_ca (goodIn_r _ [180, 122, 181, 182, 183, 2, 184, 128, 129, 130, 131, 132, 133, 16, 134, 135, 136, 137, 15, 138, 51, 139, 140, 141, 142, 143, 144, 145, 146, 147, 148, 149, 150, 151, 152, 153, 154, 25, 155, 156, 157, 185, 186, 187, 20, 188, 42, 43, 44, 623, 624, 641, 642, 643, 644, 645, 646, 647, 648] (by decide +kernel) (by decide +kernel)) (goodIn_sub (fun _ h => List.mem_append_left _ (List.mem_append_left _ (List.mem_append_right _ h))) (by decide +kernel))
set_option maxRecDepth 20000 in
theorem gL_law_L_setRates : GoodIn wsL_law (va_wsS RL 95 yL_setRates wsL_setRates) := goodIn_app (goodIn_of _ (by decide +kernel)) ggL_law_L_setRates
set_option maxRecDepth 20000 in
theorem ggL_law_X4_setRates : GoodIn wsL_law wsX4_setRates := goodIn_r _ [192, 167, 105, 168, 169, 5, 170, 171, 172, 173, 625, 626, 627, 628, 629, 630, 631, 632, 633, 634, 635, 636, 637, 638, 639, 640] (by decide +kernel) (by decide +kernel)
set_option maxRecDepth 20000 in
theorem gL_law_X4_setRates : GoodIn wsL_law (wsV RL 98 RX4 yX4_setRates wsX4_setRates) := goodIn_app (goodIn_of _ (by decide +kernel)) ggL_law_X4_setRates
set_option maxRecDepth 20000 in
theorem ggL_law_L_tax : GoodIn wsL_law wsL_tax := goodIn_ca (goodIn_r _ [195, 122, 196, 197, 198, 2, 199, 200, 128, 129, 130, 131, 132, 133, 16, 134, 135, 136, 137, 15, 138, 51, 139, 140, 141, 142, 143, 144, 145, 146, 147, 148, 149, 150, 151, 152, 153, 154, 25, 155, 156, 157, 201, 202, 203, 20, 204, 39, 205, 92, 66, 93, 41, 206, 65, 67, 42, 43, 44, 207, 623, 624, 641, 642, 643, 644, 645, 646, 647, 648] (by decide +kernel) (by decide +kernel)) (goodIn_sub (fun _ h => List.mem_append_left _ (List.mem_append_left _ (List.mem_append_right _ h))) (by decide +kernel))
set_option maxRecDepth 20000 in
theorem gL_law_L_tax : GoodIn wsL_law (va_wsS RL 99 yL_tax wsL_tax) := goodIn_app (goodIn_of _ (by decide +kernel)) ggL_law_L_tax
set_option maxRecDepth 20000 in
theorem ggL_law_X4_tax : GoodIn wsL_law wsX4_tax := goodIn_r _ [211, 167, 212, 168, 169, 5, 170, 171, 172, 173, 213, 214, 215, 216, 103, 104, 105, 217, 218, 219, 220, 221, 625, 626, 627, 628, 629, 630, 631, 632, 633, 634, 635, 636, 637, 638, 639, 640] (by decide +kernel) (by decide +kernel)
set_option maxRecDepth 20000 in
theorem gL_law_X4_tax : GoodIn wsL_law (wsV RL 102 RX4 yX4_tax wsX4_tax) := goodIn_app (goodIn_of _ (by decide +kernel)) ggL_law_X4_tax
set_option maxRecDepth 20000 in
theorem ggL_law_L_grossTax : GoodIn wsL_law wsL_grossTax := goodIn_ca (goodIn_r _ [224, 122, 225, 226, 227, 2, 228, 200, 128, 129, 130, 131, 132, 133, 16, 134, 135, 136, 137, 15, 138, 51, 139, 140, 141, 142, 143, 144, 145, 146, 147, 148, 149, 150, 151, 152, 153, 154, 25, 155, 156, 157, 229, 230, 231, 20, 232, 233, 234, 235, 236, 202, 203, 204, 39, 205, 92, 66, 93, 41, 206, 65, 67, 42, 43, 44, 207, 623, 624, 641, 642, 643, 644, 645, 646, 647, 648] (by decide +kernel) (by decide +kernel)) (goodIn_sub (fun _ h => List.mem_append_left _ (List.mem_append_left _ (List.mem_append_right _ h))) (by decide +kernel))
set_option maxRecDepth 20000 in
theorem gL_law_L_grossTax : GoodIn wsL_law (va_wsS RL 103 yL_grossTax wsL_grossTax) := goodIn_app (goodIn_of _ (by decide +kernel)) ggL_law_L_grossTax
set_option maxRecDepth 20000 in
theorem ggL_law_X4_grossTax : GoodIn wsL_law wsX4_grossTax := goodIn_r _ [240, 167, 212, 168, 169, 5, 170, 171, 172, 173, 241, 242, 243, 244, 245, 213, 214, 215, 216, 103, 104, 105, 217, 218, 219, 220, 221, 625, 626, 627, 628, 629, 630, 631, 632, 633, 634, 635, 636, 637, 638, 639, 640] (by decide +kernel) (by decide +kernel)
set_option maxRecDepth 20000 in
theorem gL_law_X4_grossTax : GoodIn wsL_law (wsV RL 105 RX4 yX4_grossTax wsX4_grossTax) := goodIn_app (goodIn_of _ (by decide +kernel)) ggL_law_X4_grossTax
set_option maxRecDepth 20000 in
theorem ggL_law_L_grossTaxByTrying : GoodIn wsL_law wsL_grossTaxByTrying := goodIn_ca (goodIn_r _ [248, 122, 249, 250, 251, 2, 252, 128, 129, 130, 131, 132, 133, 16, 134, 135, 136, 137, 15, 138, 51, 139, 140, 141, 142, 143, 144, 145, 146, 147, 148, 149, 150, 151, 152, 153, 154, 25, 155, 156, 157, 253, 254, 255, 20, 256, 233, 234, 235, 236, 202, 203, 204, 39, 205, 92, 66, 93, 41, 206, 65, 67, 42, 43, 44, 207, 623, 624, 641, 642, 643, 644, 645, 646, 647, 648] (by decide +kernel) (by decide +kernel)) (goodIn_sub (fun _ h => List.mem_append_left _ (List.mem_append_left _ (List.mem_append_right _ h))) (by decide +kernel))
set_option maxRecDepth 20000 in
theorem gL_law_L_grossTaxByTrying : GoodIn wsL_law (va_wsS RL 106 yL_grossTaxByTrying wsL_grossTaxByTrying) := goodIn_app (goodIn_of _ (by decide +kernel)) ggL_law_L_grossTaxByTrying
set_option maxRecDepth 20000 in
theorem ggL_law_X4_grossTaxByTrying : GoodIn wsL_law wsX4_grossTaxByTrying := goodIn_r _ [260, 167, 168, 169, 5, 170, 171, 172, 173, 241, 242, 243, 244, 245, 213, 214, 215, 216, 103, 104, 105, 217, 218, 219, 220, 221, 625, 626, 627, 628, 629, 630, 631, 632, 633, 634, 635, 636, 637, 638, 639, 640] (by decide +kernel) (by decide +kernel)
set_option maxRecDepth 20000 in
theorem gL_law_X4_grossTaxByTrying : GoodIn wsL_law (wsV RL 108 RX4 yX4_grossTaxByTrying wsX4_grossTaxByTrying) := goodIn_app (goodIn_of _ (by decide +kernel)) ggL_law_X4_grossTaxByTrying
set_option maxRecDepth 20000 in
theorem ggL_law_L_add : GoodIn wsL_law wsL_add := goodIn_ca (goodIn_ca (goodIn_r _ [263, 122, 264, 265, 266, 267, 2, 268, 132, 133, 269, 270, 271, 17, 272, 273, 274, 128, 129, 130, 131, 16, 134, 135, 136, 137, 15, 138, 51, 139, 140, 141, 142, 143, 144, 145, 146, 147, 148, 149, 150, 151, 152, 153, 154, 25, 155, 156, 157, 275, 276, 277, 278, 11, 12, 279, 14, 280, 281, 282, 283, 284, 285, 286, 287, 288, 22, 23, 24, 26, 27, 28, 29, 30, 31, 32, 33, 34, 35, 45, 46, 47, 48, 49, 50, 52, 53, 54, 55, 56, 57, 58, 59, 60, 61, 62, 63, 64, 65, 66, 67, 68, 69, 70, 71, 72, 73, 74, 75, 76, 77, 78, 79, 80, 81, 82, 83, 84, 85, 86, 87, 88, 89, 90, 91, 92, 93, 94, 95, 96, 97, 623, 624, 649, 650, 651, 652, 653, 654, 655, 656, 641, 642, 643] (by decide +kernel) (by decide +kernel)) (goodIn_sub (fun _ h => List.mem_append_left _ (List.mem_append_left _ (List.mem_append_right _ h))) (by decide +kernel))) (goodIn_sub (fun _ h => List.mem_append_left _ (List.mem_append_right _ h)) (by decide +kernel))
set_option maxRecDepth 20000 in
theorem gL_law_L_add : GoodIn wsL_law (va_wsS RL 109 yL_add wsL_add) := goodIn_app (goodIn_of _ (by decide +kernel)) ggL_law_L_add
set_option maxRecDepth 20000 in
theorem ggL_law_X4_add : GoodIn wsL_law wsX4_add := goodIn_r _ [292, 167, 293, 294, 106, 107, 108, 168, 169, 5, 170, 171, 172, 173, 218, 219, 220, 221, 625, 626, 627, 628, 629, 630, 631, 632, 633, 634, 635, 636, 637, 638, 639, 640] (by decide +kernel) (by decide +kernel)
set_option maxRecDepth 20000 in
theorem gL_law_X4_add : GoodIn wsL_law (wsV RL 112 RX4 yX4_add wsX4_add) := goodIn_app (goodIn_of _ (by decide +kernel)) ggL_law_X4_add
set_option maxRecDepth 20000 in
theorem ggL_law_L_setAbroad : GoodIn wsL_law wsL_setAbroad := goodIn_ca (goodIn_ca (goodIn_r _ [297, 298, 122, 299, 300, 301, 2, 302, 303, 304, 305, 306, 307, 308, 17, 309, 135, 136, 137, 15, 138, 51, 139, 140, 141, 142, 143, 144, 145, 146, 147, 148, 149, 150, 151, 152, 153, 154, 25, 155, 156, 157, 132, 133, 310, 311, 312, 274, 313, 282, 281, 649, 650, 651, 652, 653, 654, 655, 656, 623, 624, 641, 642, 643] (by decide +kernel) (by decide +kernel)) (goodIn_sub (fun _ h => List.mem_append_right _ h) (by decide +kernel))) (goodIn_sub (fun _ h => List.mem_append_left _ (List.mem_append_left _ (List.mem_append_right _ h))) (by decide +kernel))
set_option maxRecDepth 20000 in
theorem gL_law_L_setAbroad : GoodIn wsL_law (va_wsS RL 113 yL_setAbroad wsL_setAbroad) := goodIn_app (goodIn_of _ (by decide +kernel)) ggL_law_L_setAbroad
set_option maxRecDepth 20000 in
theorem ggL_law_X4_setAbroad : GoodIn wsL_law wsX4_setAbroad := goodIn_r _ [317, 110, 109, 318, 319, 320, 5, 321, 294, 167, 171, 172, 173, 218, 219, 220, 221, 625, 626, 627, 628, 629, 630, 631, 632, 633, 634, 635, 636, 637, 638, 639, 640] (by decide +kernel) (by decide +kernel)
set_option maxRecDepth 20000 in
theorem gL_law_X4_setAbroad : GoodIn wsL_law (wsV RL 115 RX4 yX4_setAbroad wsX4_setAbroad) := goodIn_app (goodIn_of _ (by decide +kernel)) ggL_law_X4_setAbroad
set_option maxRecDepth 20000 in
theorem ggL_law_L_setPay : GoodIn wsL_law wsL_setPay := goodIn_ca (goodIn_ca (goodIn_r _ [324, 298, 122, 325, 326, 327, 2, 328, 271, 303, 304, 305, 306, 307, 308, 17, 309, 135, 136, 137, 15, 138, 51, 139, 140, 141, 142, 143, 144, 145, 146, 147, 148, 149, 150, 151, 152, 153, 154, 25, 155, 156, 157, 132, 133, 649, 650, 651, 652, 653, 654, 655, 656, 623, 624, 641, 642, 643] (by decide +kernel) (by decide +kernel)) (goodIn_sub (fun _ h => List.mem_append_right _ h) (by decide +kernel))) (goodIn_sub (fun _ h => List.mem_append_left _ (List.mem_append_left _ (List.mem_append_right _ h))) (by decide +kernel))
set_option maxRecDepth 20000 in
theorem gL_law_L_setPay : GoodIn wsL_law (va_wsS RL 116 yL_setPay wsL_setPay) := goodIn_app (goodIn_of _ (by decide +kernel)) ggL_law_L_setPay
set_option maxRecDepth 20000 in
theorem ggL_law_X4_setPay : GoodIn wsL_law wsX4_setPay := goodIn_r _ [332, 293, 108, 318, 319, 320, 5, 321, 294, 167, 171, 172, 173, 218, 219, 220, 221, 625, 626, 627, 628, 629, 630, 631, 632, 633, 634, 635, 636, 637, 638, 639, 640] (by decide +kernel) (by decide +kernel)
set_option maxRecDepth 20000 in
theorem gL_law_X4_setPay : GoodIn wsL_law (wsV RL 118 RX4 yX4_setPay wsX4_setPay) := goodIn_app (goodIn_of _ (by decide +kernel)) ggL_law_X4_setPay
set_option maxRecDepth 20000 in
theorem ggL_law_L_setHousing : GoodIn wsL_law wsL_setHousing := goodIn_ca (goodIn_ca (goodIn_r _ [335, 298, 122, 336, 337, 338, 2, 339, 340, 303, 304, 305, 306, 307, 308, 17, 309, 135, 136, 137, 15, 138, 51, 139, 140, 141, 142, 143, 144, 145, 146, 147, 148, 149, 150, 151, 152, 153, 154, 25, 155, 156, 157, 132, 133, 341, 342, 343, 274, 344, 283, 287, 284, 345, 92, 66, 93, 649, 650, 651, 652, 653, 654, 655, 656, 623, 624, 641, 642, 643] (by decide +kernel) (by decide +kernel)) (goodIn_sub (fun _ h => List.mem_append_right _ h) (by decide +kernel))) (goodIn_sub (fun _ h => List.mem_append_left _ (List.mem_append_left _ (List.mem_append_right _ h))) (by decide +kernel))
set_option maxRecDepth 20000 in
theorem gL_law_L_setHousing : GoodIn wsL_law (va_wsS RL 119 yL_setHousing wsL_setHousing) := goodIn_app (goodIn_of _ (by decide +kernel)) ggL_law_L_setHousing
set_option maxRecDepth 20000 in
theorem ggL_law_X4_setHousing : GoodIn wsL_law wsX4_setHousing := goodIn_r _ [349, 350, 111, 112, 318, 319, 320, 5, 321, 294, 167, 171, 172, 173, 218, 219, 220, 221, 351, 352, 353, 354, 108, 625, 626, 627, 628, 629, 630, 631, 632, 633, 634, 635, 636, 637, 638, 639, 640] (by decide +kernel) (by decide +kernel)
set_option maxRecDepth 20000 in
theorem gL_law_X4_setHousing : GoodIn wsL_law (wsV RL 121 RX4 yX4_setHousing wsX4_setHousing) := goodIn_app (goodIn_of _ (by decide +kernel)) ggL_law_X4_setHousing
set_option maxRecDepth 20000 in
theorem ggL_law_L_addBonus : GoodIn wsL_law wsL_addBonus := goodIn_ca (goodIn_ca (goodIn_ca (goodIn_r _ [357, 298, 122, 264, 358, 359, 360, 2, 361, 269, 270, 362, 363, 364, 365, 303, 304, 305, 306, 307, 308, 17, 309, 135, 136, 137, 15, 138, 51, 139, 140, 141, 142, 143, 144, 145, 146, 147, 148, 149, 150, 151, 152, 153, 154, 25, 155, 156, 157, 132, 133, 366, 367, 368, 369, 11, 12, 370, 371, 372, 45, 46, 47, 48, 49, 50, 52, 53, 54, 55, 56, 57, 58, 59, 60, 61, 62, 63, 24, 64, 65, 66, 67, 68, 69, 70, 71, 72, 73, 74, 75, 76, 77, 78, 79, 80, 81, 82, 83, 84, 85, 86, 87, 88, 89, 90, 91, 92, 93, 94, 95, 96, 97, 649, 650, 651, 652, 653, 654, 655, 656, 657, 658, 659, 623, 624, 641, 642, 643] (by decide +kernel) (by decide +kernel)) (goodIn_sub (fun _ h => List.mem_append_left _ (List.mem_append_right _ h)) (by decide +kernel))) (goodIn_sub (fun _ h => List.mem_append_right _ h) (by decide +kernel))) (goodIn_sub (fun _ h => List.mem_append_left _ (List.mem_append_left _ (List.mem_append_right _ h))) (by decide +kernel))
set_option maxRecDepth 20000 in
theorem gL_law_L_addBonus : GoodIn wsL_law (va_wsS RL 122 yL_addBonus wsL_addBonus) := goodIn_app (goodIn_of _ (by decide +kernel)) ggL_law_L_addBonus
set_option maxRecDepth 20000 in
theorem ggL_law_X4_addBonus : GoodIn wsL_law wsX4_addBonus := goodIn_r _ [376, 377, 113, 114, 115, 116, 318, 319, 320, 5, 321, 294, 167, 171, 172, 173, 218, 219, 220, 221, 625, 626, 627, 628, 629, 630, 631, 632, 633, 634, 635, 636, 637, 638, 639, 640] (by decide +kernel) (by decide +kernel)
set_option maxRecDepth 20000 in
theorem gL_law_X4_addBonus : GoodIn wsL_law (wsV RL 125 RX4 yX4_addBonus wsX4_addBonus) := goodIn_app (goodIn_of _ (by decide +kernel)) ggL_law_X4_addBonus
set_option maxRecDepth 20000 in
theorem ggL_law_X3_people : GoodIn wsL_law wsX3_people := goodIn_r _ [381, 17, 135, 136, 137, 15, 138, 51, 623, 624, 641, 642, 643] (by decide +kernel) (by decide +kernel)
set_option maxRecDepth 20000 in
theorem gL_law_X3_people : GoodIn wsL_law (wsV RL 126 RX3 yX3_people wsX3_people) := goodIn_app (goodIn_of _ (by decide +kernel)) ggL_law_X3_people
set_option maxRecDepth 20000 in
theorem ggL_law_X4_people : GoodIn wsL_law wsX4_people := goodIn_r _ [385, 167, 294, 625, 626, 627, 628, 629, 630, 631, 632, 633, 634, 635, 636, 637, 638, 639, 640] (by decide +kernel) (by decide +kernel)
set_option maxRecDepth 20000 in
theorem gL_law_X4_people : GoodIn wsL_law (wsV RL 129 RX4 yX4_people wsX4_people) := goodIn_app (goodIn_of _ (by decide +kernel)) ggL_law_X4_people
set_option maxRecDepth 20000 in
theorem ggL_law_L_abroadPart : GoodIn wsL_law wsL_abroadPart := goodIn_ca (goodIn_r _ [388, 298, 389, 390, 391, 2, 392, 307, 308, 393, 303, 304, 305, 306, 17, 309, 135, 136, 137, 15, 138, 51, 139, 140, 141, 142, 143, 144, 145, 146, 147, 148, 149, 150, 151, 152, 153, 154, 25, 394, 395, 396, 274, 397, 282, 345, 92, 66, 93, 281, 398, 65, 67, 649, 650, 651, 652, 653, 654, 655, 656, 623, 624, 641, 642, 643, 657, 658, 659] (by decide +kernel) (by decide +kernel)) (goodIn_sub (fun _ h => List.mem_append_right _ h) (by decide +kernel))
set_option maxRecDepth 20000 in
theorem gL_law_L_abroadPart : GoodIn wsL_law (va_wsS RL 130 yL_abroadPart wsL_abroadPart) := goodIn_app (goodIn_of _ (by decide +kernel)) ggL_law_L_abroadPart
set_option maxRecDepth 20000 in
theorem ggL_law_X4_abroadPart : GoodIn wsL_law wsX4_abroadPart := goodIn_r _ [402, 167, 294, 113, 171, 172, 5, 173, 403, 404, 405, 406, 115, 116, 109, 110, 114, 218, 219, 220, 221, 625, 626, 627, 628, 629, 630, 631, 632, 633, 634, 635, 636, 637, 638, 639, 640] (by decide +kernel) (by decide +kernel)
set_option maxRecDepth 20000 in
theorem gL_law_X4_abroadPart : GoodIn wsL_law (wsV RL 132 RX4 yX4_abroadPart wsX4_abroadPart) := goodIn_app (goodIn_of _ (by decide +kernel)) ggL_law_X4_abroadPart
set_option maxRecDepth 20000 in
theorem ggL_law_L_held : GoodIn wsL_law wsL_held := goodIn_ca (goodIn_ca (goodIn_r _ [409, 298, 122, 410, 411, 412, 2, 413, 303, 304, 305, 306, 307, 308, 17, 309, 135, 136, 137, 15, 138, 51, 139, 140, 141, 142, 143, 144, 145, 146, 147, 148, 149, 150, 151, 152, 153, 154, 25, 155, 156, 157, 132, 133, 414, 415, 416, 274, 417, 281, 282, 418, 419, 420, 421, 285, 287, 422, 202, 203, 20, 204, 39, 205, 92, 66, 93, 41, 206, 65, 67, 42, 43, 44, 207, 623, 624, 641, 642, 643, 649, 650, 651, 652, 653, 654, 655, 656, 644, 645, 646, 647, 648] (by decide +kernel) (by decide +kernel)) (goodIn_sub (fun _ h => List.mem_append_right _ h) (by decide +kernel))) (goodIn_sub (fun _ h => List.mem_append_left _ (List.mem_append_left _ (List.mem_append_right _ h))) (by decide +kernel))
set_option maxRecDepth 20000 in
theorem gL_law_L_held : GoodIn wsL_law (va_wsS RL 133 yL_held wsL_held) := goodIn_app (goodIn_of _ (by decide +kernel)) ggL_law_L_held
set_option maxRecDepth 20000 in
theorem ggL_law_X4_held : GoodIn wsL_law wsX4_held := goodIn_r _ [426, 109, 110, 318, 319, 320, 5, 321, 294, 167, 171, 172, 173, 218, 219, 220, 221, 427, 428, 429, 430, 106, 108, 431, 213, 214, 215, 216, 103, 104, 105, 217, 625, 626, 627, 628, 629, 630, 631, 632, 633, 634, 635, 636, 637, 638, 639, 640] (by decide +kernel) (by decide +kernel)
set_option maxRecDepth 20000 in
theorem gL_law_X4_held : GoodIn wsL_law (wsV RL 135 RX4 yX4_held wsX4_held) := goodIn_app (goodIn_of _ (by decide +kernel)) ggL_law_X4_held
set_option maxRecDepth 20000 in
theorem ggL_law_L_supposedTax : GoodIn wsL_law wsL_supposedTax := goodIn_ca (goodIn_r _ [434, 298, 435, 436, 437, 2, 438, 303, 304, 305, 306, 307, 308, 17, 309, 135, 136, 137, 15, 138, 51, 139, 140, 141, 142, 143, 144, 145, 146, 147, 148, 149, 150, 151, 152, 153, 154, 25, 439, 440, 441, 274, 442, 285, 443, 444, 445, 446, 287, 280, 447, 448, 449, 422, 202, 203, 20, 204, 39, 205, 92, 66, 93, 41, 206, 65, 67, 42, 43, 44, 207, 623, 624, 641, 642, 643, 649, 650, 651, 652, 653, 654, 655, 656, 657, 658, 659, 644, 645, 646, 647, 648] (by decide +kernel) (by decide +kernel)) (goodIn_sub (fun _ h => List.mem_append_right _ h) (by decide +kernel))
set_option maxRecDepth 20000 in
theorem gL_law_L_supposedTax : GoodIn wsL_law (va_wsS RL 136 yL_supposedTax wsL_supposedTax) := goodIn_app (goodIn_of _ (by decide +kernel)) ggL_law_L_supposedTax
set_option maxRecDepth 20000 in
theorem ggL_law_X4_supposedTax : GoodIn wsL_law wsX4_supposedTax := goodIn_r _ [453, 318, 319, 320, 5, 321, 294, 167, 171, 172, 173, 454, 455, 456, 457, 106, 458, 459, 460, 461, 108, 113, 114, 213, 214, 215, 216, 103, 104, 105, 217, 625, 626, 627, 628, 629, 630, 631, 632, 633, 634, 635, 636, 637, 638, 639, 640] (by decide +kernel) (by decide +kernel)
set_option maxRecDepth 20000 in
theorem gL_law_X4_supposedTax : GoodIn wsL_law (wsV RL 139 RX4 yX4_supposedTax wsX4_supposedTax) := goodIn_app (goodIn_of _ (by decide +kernel)) ggL_law_X4_supposedTax
set_option maxRecDepth 20000 in
theorem ggL_law_L_homeIncome : GoodIn wsL_law wsL_homeIncome := goodIn_ca (goodIn_r _ [464, 298, 465, 466, 467, 2, 468, 303, 304, 305, 306, 307, 308, 17, 309, 135, 136, 137, 15, 138, 51, 139, 140, 141, 142, 143, 144, 145, 146, 147, 148, 149, 150, 151, 152, 153, 154, 25, 469, 470, 471, 274, 472, 287, 280, 447, 473, 311, 312, 313, 282, 281, 448, 449, 474, 395, 396, 397, 345, 92, 66, 93, 398, 65, 67, 623, 624, 641, 642, 643, 649, 650, 651, 652, 653, 654, 655, 656, 657, 658, 659] (by decide +kernel) (by decide +kernel)) (goodIn_sub (fun _ h => List.mem_append_right _ h) (by decide +kernel))
set_option maxRecDepth 20000 in
theorem gL_law_L_homeIncome : GoodIn wsL_law (va_wsS RL 140 yL_homeIncome wsL_homeIncome) := goodIn_app (goodIn_of _ (by decide +kernel)) ggL_law_L_homeIncome
set_option maxRecDepth 20000 in
theorem ggL_law_X4_homeIncome : GoodIn wsL_law wsX4_homeIncome := goodIn_r _ [478, 318, 319, 320, 5, 321, 294, 167, 171, 172, 173, 479, 480, 481, 482, 108, 458, 459, 460, 461, 113, 114, 483, 484, 485, 486, 110, 109, 487, 488, 489, 490, 403, 404, 405, 406, 115, 116, 625, 626, 627, 628, 629, 630, 631, 632, 633, 634, 635, 636, 637, 638, 639, 640] (by decide +kernel) (by decide +kernel)
set_option maxRecDepth 20000 in
theorem gL_law_X4_homeIncome : GoodIn wsL_law (wsV RL 142 RX4 yX4_homeIncome wsX4_homeIncome) := goodIn_app (goodIn_of _ (by decide +kernel)) ggL_law_X4_homeIncome
set_option maxRecDepth 20000 in
theorem ggL_law_L_homeTax : GoodIn wsL_law wsL_homeTax := goodIn_ca (goodIn_r _ [493, 298, 494, 495, 496, 2, 497, 303, 304, 305, 306, 307, 308, 17, 309, 135, 136, 137, 15, 138, 51, 139, 140, 141, 142, 143, 144, 145, 146, 147, 148, 149, 150, 151, 152, 153, 154, 25, 498, 499, 500, 274, 501, 285, 443, 444, 445, 446, 287, 280, 447, 448, 449, 422, 202, 203, 20, 204, 39, 205, 92, 66, 93, 41, 206, 65, 67, 42, 43, 44, 207, 502, 470, 471, 472, 473, 311, 312, 313, 282, 281, 474, 395, 396, 397, 345, 398, 623, 624, 641, 642, 643, 649, 650, 651, 652, 653, 654, 655, 656, 657, 658, 659, 644, 645, 646, 647, 648] (by decide +kernel) (by decide +kernel)) (goodIn_sub (fun _ h => List.mem_append_right _ h) (by decide +kernel))
set_option maxRecDepth 20000 in
theorem gL_law_L_homeTax : GoodIn wsL_law (va_wsS RL 143 yL_homeTax wsL_homeTax) := goodIn_app (goodIn_of _ (by decide +kernel)) ggL_law_L_homeTax
set_option maxRecDepth 20000 in
theorem ggL_law_X4_homeTax : GoodIn wsL_law wsX4_homeTax := goodIn_r _ [506, 318, 319, 320, 5, 321, 294, 167, 171, 172, 173, 507, 508, 509, 510, 106, 458, 459, 460, 461, 108, 113, 114, 213, 214, 215, 216, 103, 104, 105, 217, 479, 480, 481, 482, 483, 484, 485, 486, 110, 109, 487, 488, 489, 490, 403, 404, 405, 406, 115, 116, 625, 626, 627, 628, 629, 630, 631, 632, 633, 634, 635, 636, 637, 638, 639, 640] (by decide +kernel) (by decide +kernel)
set_option maxRecDepth 20000 in
theorem gL_law_X4_homeTax : GoodIn wsL_law (wsV RL 145 RX4 yX4_homeTax wsX4_homeTax) := goodIn_app (goodIn_of _ (by decide +kernel)) ggL_law_X4_homeTax
set_option maxRecDepth 20000 in
theorem ggL_law_L_hostIncome : GoodIn wsL_law wsL_hostIncome := goodIn_ca (goodIn_r _ [513, 298, 514, 515, 516, 2, 517, 303, 304, 305, 306, 307, 308, 17, 309, 135, 136, 137, 15, 138, 51, 139, 140, 141, 142, 143, 144, 145, 146, 147, 148, 149, 150, 151, 152, 153, 154, 25, 518, 519, 520, 274, 521, 287, 280, 447, 473, 311, 312, 313, 282, 281, 522, 523, 524, 525, 283, 526, 342, 343, 344, 284, 345, 92, 66, 93, 448, 449, 474, 395, 396, 397, 398, 65, 67, 623, 624, 641, 642, 643, 649, 650, 651, 652, 653, 654, 655, 656, 657, 658, 659] (by decide +kernel) (by decide +kernel)) (goodIn_sub (fun _ h => List.mem_append_right _ h) (by decide +kernel))
set_option maxRecDepth 20000 in
theorem gL_law_L_hostIncome : GoodIn wsL_law (va_wsS RL 146 yL_hostIncome wsL_hostIncome) := goodIn_app (goodIn_of _ (by decide +kernel)) ggL_law_L_hostIncome
set_option maxRecDepth 20000 in
theorem ggL_law_X4_hostIncome : GoodIn wsL_law wsX4_hostIncome := goodIn_r _ [530, 318, 319, 320, 5, 321, 294, 167, 171, 172, 173, 531, 532, 533, 534, 108, 111, 483, 484, 485, 486, 110, 109, 487, 488, 489, 490, 113, 403, 404, 405, 406, 115, 116, 114, 351, 352, 353, 354, 112, 625, 626, 627, 628, 629, 630, 631, 632, 633, 634, 635, 636, 637, 638, 639, 640] (by decide +kernel) (by decide +kernel)
set_option maxRecDepth 20000 in
theorem gL_law_X4_hostIncome : GoodIn wsL_law (wsV RL 148 RX4 yX4_hostIncome wsX4_hostIncome) := goodIn_app (goodIn_of _ (by decide +kernel)) ggL_law_X4_hostIncome
set_option maxRecDepth 20000 in
theorem ggL_law_L_hostTax : GoodIn wsL_law wsL_hostTax := goodIn_ca (goodIn_r _ [537, 298, 538, 539, 540, 2, 541, 303, 304, 305, 306, 307, 308, 17, 309, 135, 136, 137, 15, 138, 51, 139, 140, 141, 142, 143, 144, 145, 146, 147, 148, 149, 150, 151, 152, 153, 154, 25, 542, 543, 544, 274, 545, 286, 546, 519, 520, 521, 287, 280, 447, 473, 311, 312, 313, 282, 281, 522, 523, 524, 525, 283, 526, 342, 343, 344, 284, 345, 92, 66, 93, 448, 449, 474, 395, 396, 397, 398, 65, 67, 547, 230, 231, 20, 232, 233, 234, 235, 236, 202, 203, 204, 39, 205, 41, 206, 42, 43, 44, 207, 623, 624, 641, 642, 643, 649, 650, 651, 652, 653, 654, 655, 656, 657, 658, 659, 644, 645, 646, 647, 648] (by decide +kernel) (by decide +kernel)) (goodIn_sub (fun _ h => List.mem_append_right _ h) (by decide +kernel))
set_option maxRecDepth 20000 in
theorem gL_law_L_hostTax : GoodIn wsL_law (va_wsS RL 149 yL_hostTax wsL_hostTax) := goodIn_app (goodIn_of _ (by decide +kernel)) ggL_law_L_hostTax
set_option maxRecDepth 20000 in
theorem ggL_law_X4_hostTax : GoodIn wsL_law wsX4_hostTax := goodIn_r _ [551, 107, 318, 319, 320, 5, 321, 294, 167, 171, 172, 173, 531, 532, 533, 534, 108, 111, 483, 484, 485, 486, 110, 109, 487, 488, 489, 490, 113, 403, 404, 405, 406, 115, 116, 114, 351, 352, 353, 354, 112, 241, 242, 243, 244, 245, 213, 214, 215, 216, 103, 104, 105, 217, 625, 626, 627, 628, 629, 630, 631, 632, 633, 634, 635, 636, 637, 638, 639, 640] (by decide +kernel) (by decide +kernel)
set_option maxRecDepth 20000 in
theorem gL_law_X4_hostTax : GoodIn wsL_law (wsV RL 151 RX4 yX4_hostTax wsX4_hostTax) := goodIn_app (goodIn_of _ (by decide +kernel)) ggL_law_X4_hostTax
set_option maxRecDepth 20000 in
theorem ggL_law_L_borne : GoodIn wsL_law wsL_borne := goodIn_ca (goodIn_r _ [554, 298, 555, 556, 557, 2, 558, 303, 304, 305, 306, 307, 308, 17, 309, 135, 136, 137, 15, 138, 51, 139, 140, 141, 142, 143, 144, 145, 146, 147, 148, 149, 150, 151, 152, 153, 154, 25, 559, 560, 561, 274, 562, 563, 564, 565, 566, 473, 311, 312, 313, 282, 281, 567, 419, 420, 421, 285, 287, 422, 202, 203, 20, 204, 39, 205, 92, 66, 93, 41, 206, 65, 67, 42, 43, 44, 207, 568, 499, 500, 501, 443, 444, 445, 446, 280, 447, 448, 449, 502, 470, 471, 472, 474, 395, 396, 397, 345, 398, 623, 624, 641, 642, 643, 649, 650, 651, 652, 653, 654, 655, 656, 644, 645, 646, 647, 648, 657, 658, 659] (by decide +kernel) (by decide +kernel)) (goodIn_sub (fun _ h => List.mem_append_right _ h) (by decide +kernel))
set_option maxRecDepth 20000 in
theorem gL_law_L_borne : GoodIn wsL_law (va_wsS RL 152 yL_borne wsL_borne) := goodIn_app (goodIn_of _ (by decide +kernel)) ggL_law_L_borne
set_option maxRecDepth 20000 in
theorem ggL_law_X4_borne : GoodIn wsL_law wsX4_borne := goodIn_r _ [572, 318, 319, 320, 5, 321, 294, 167, 171, 172, 173, 573, 574, 575, 576, 427, 428, 429, 430, 106, 108, 431, 213, 214, 215, 216, 103, 104, 105, 217, 483, 484, 485, 486, 110, 109, 507, 508, 509, 510, 458, 459, 460, 461, 113, 114, 479, 480, 481, 482, 487, 488, 489, 490, 403, 404, 405, 406, 115, 116, 625, 626, 627, 628, 629, 630, 631, 632, 633, 634, 635, 636, 637, 638, 639, 640] (by decide +kernel) (by decide +kernel)
set_option maxRecDepth 20000 in
theorem gL_law_X4_borne : GoodIn wsL_law (wsV RL 154 RX4 yX4_borne wsX4_borne) := goodIn_app (goodIn_of _ (by decide +kernel)) ggL_law_X4_borne
set_option maxRecDepth 20000 in
theorem ggL_law_L_settlement : GoodIn wsL_law wsL_settlement := goodIn_ca (goodIn_r _ [579, 298, 580, 581, 582, 2, 583, 303, 304, 305, 306, 307, 308, 17, 309, 135, 136, 137, 15, 138, 51, 139, 140, 141, 142, 143, 144, 145, 146, 147, 148, 149, 150, 151, 152, 153, 154, 25, 584, 585, 586, 274, 587, 588, 440, 441, 442, 285, 443, 444, 445, 446, 287, 280, 447, 448, 449, 422, 202, 203, 20, 204, 39, 205, 92, 66, 93, 41, 206, 65, 67, 42, 43, 44, 207, 589, 560, 561, 562, 563, 564, 565, 566, 473, 311, 312, 313, 282, 281, 567, 419, 420, 421, 568, 499, 500, 501, 502, 470, 471, 472, 474, 395, 396, 397, 345, 398, 623, 624, 641, 642, 643, 649, 650, 651, 652, 653, 654, 655, 656, 657, 658, 659, 644, 645, 646, 647, 648] (by decide +kernel) (by decide +kernel)) (goodIn_sub (fun _ h => List.mem_append_right _ h) (by decide +kernel))
set_option maxRecDepth 20000 in
theorem gL_law_L_settlement : GoodIn wsL_law (va_wsS RL 155 yL_settlement wsL_settlement) := goodIn_app (goodIn_of _ (by decide +kernel)) ggL_law_L_settlement
set_option maxRecDepth 20000 in
theorem ggL_law_X4_settlement : GoodIn wsL_law wsX4_settlement := goodIn_r _ [593, 318, 319, 320, 5, 321, 294, 167, 171, 172, 173, 454, 455, 456, 457, 106, 458, 459, 460, 461, 108, 113, 114, 213, 214, 215, 216, 103, 104, 105, 217, 573, 574, 575, 576, 427, 428, 429, 430, 431, 483, 484, 485, 486, 110, 109, 507, 508, 509, 510, 479, 480, 481, 482, 487, 488, 489, 490, 403, 404, 405, 406, 115, 116, 625, 626, 627, 628, 629, 630, 631, 632, 633, 634, 635, 636, 637, 638, 639, 640] (by decide +kernel) (by decide +kernel)
set_option maxRecDepth 20000 in
theorem gL_law_X4_settlement : GoodIn wsL_law (wsV RL 157 RX4 yX4_settlement wsX4_settlement) := goodIn_app (goodIn_of _ (by decide +kernel)) ggL_law_X4_settlement
set_option maxRecDepth 20000 in
theorem ggL_law_L_cost : GoodIn wsL_law wsL_cost := goodIn_ca (goodIn_r _ [596, 298, 597, 598, 599, 2, 600, 303, 304, 305, 306, 307, 308, 17, 309, 135, 136, 137, 15, 138, 51, 139, 140, 141, 142, 143, 144, 145, 146, 147, 148, 149, 150, 151, 152, 153, 154, 25, 601, 602, 603, 274, 604, 605, 543, 544, 545, 286, 546, 519, 520, 521, 287, 280, 447, 473, 311, 312, 313, 282, 281, 522, 523, 524, 525, 283, 526, 342, 343, 344, 284, 345, 92, 66, 93, 448, 449, 474, 395, 396, 397, 398, 65, 67, 547, 230, 231, 20, 232, 233, 234, 235, 236, 202, 203, 204, 39, 205, 41, 206, 42, 43, 44, 207, 563, 564, 565, 566, 567, 419, 420, 421, 285, 422, 606, 585, 586, 587, 588, 440, 441, 442, 443, 444, 445, 446, 589, 560, 561, 562, 568, 499, 500, 501, 502, 470, 471, 472, 623, 624, 641, 642, 643, 649, 650, 651, 652, 653, 654, 655, 656, 657, 658, 659, 644, 645, 646, 647, 648] (by decide +kernel) (by decide +kernel)) (goodIn_sub (fun _ h => List.mem_append_right _ h) (by decide +kernel))
set_option maxRecDepth 20000 in
theorem gL_law_L_cost : GoodIn wsL_law (va_wsS RL 158 yL_cost wsL_cost) := goodIn_app (goodIn_of _ (by decide +kernel)) ggL_law_L_cost
set_option maxRecDepth 20000 in
theorem ggL_law_X4_cost : GoodIn wsL_law wsX4_cost := goodIn_r _ [610, 318, 319, 320, 5, 321, 294, 167, 171, 172, 173, 611, 612, 613, 614, 107, 111, 531, 532, 533, 534, 108, 483, 484, 485, 486, 110, 109, 487, 488, 489, 490, 113, 403, 404, 405, 406, 115, 116, 114, 351, 352, 353, 354, 112, 241, 242, 243, 244, 245, 213, 214, 215, 216, 103, 104, 105, 217, 427, 428, 429, 430, 106, 431, 454, 455, 456, 457, 458, 459, 460, 461, 573, 574, 575, 576, 507, 508, 509, 510, 479, 480, 481, 482, 625, 626, 627, 628, 629, 630, 631, 632, 633, 634, 635, 636, 637, 638, 639, 640] (by decide +kernel) (by decide +kernel)
set_option maxRecDepth 20000 in
theorem gL_law_X4_cost : GoodIn wsL_law (wsV RL 160 RX4 yX4_cost wsX4_cost) := goodIn_app (goodIn_of _ (by decide +kernel)) ggL_law_X4_cost
set_option maxRecDepth 20000 in
theorem ggL_law_X3_dearest : GoodIn wsL_law wsX3_dearest := goodIn_r _ [618, 17, 309, 135, 136, 137, 15, 138, 51, 139, 140, 141, 142, 143, 144, 145, 146, 147, 148, 149, 150, 151, 152, 153, 154, 25, 601, 602, 603, 274, 604, 605, 543, 544, 545, 286, 546, 519, 520, 521, 287, 280, 447, 473, 311, 312, 313, 282, 281, 522, 523, 524, 525, 283, 526, 342, 343, 344, 284, 345, 92, 66, 93, 448, 449, 474, 395, 396, 397, 398, 65, 67, 547, 230, 231, 20, 232, 233, 234, 235, 236, 202, 203, 204, 39, 205, 41, 206, 42, 43, 44, 207, 563, 564, 565, 566, 567, 419, 420, 421, 285, 422, 606, 585, 586, 587, 588, 440, 441, 442, 443, 444, 445, 446, 589, 560, 561, 562, 568, 499, 500, 501, 502, 470, 471, 472, 623, 624, 641, 642, 643, 649, 650, 651, 652, 653, 654, 655, 656, 657, 658, 659, 644, 645, 646, 647, 648] (by decide +kernel) (by decide +kernel)
set_option maxRecDepth 20000 in
theorem gL_law_X3_dearest : GoodIn wsL_law (wsV RL 161 RX3 yX3_dearest wsX3_dearest) := goodIn_app (goodIn_of _ (by decide +kernel)) ggL_law_X3_dearest
set_option maxRecDepth 20000 in
theorem ggL_law_X4_dearest : GoodIn wsL_law wsX4_dearest := goodIn_r _ [622, 167, 294, 611, 612, 613, 5, 614, 107, 111, 531, 532, 533, 534, 108, 483, 484, 485, 486, 110, 109, 487, 488, 489, 490, 113, 403, 404, 405, 406, 115, 116, 114, 351, 352, 353, 354, 112, 241, 242, 243, 244, 245, 213, 214, 215, 216, 103, 104, 105, 217, 427, 428, 429, 430, 106, 431, 454, 455, 456, 457, 458, 459, 460, 461, 573, 574, 575, 576, 507, 508, 509, 510, 479, 480, 481, 482, 625, 626, 627, 628, 629, 630, 631, 632, 633, 634, 635, 636, 637, 638, 639, 640] (by decide +kernel) (by decide +kernel)
set_option maxRecDepth 20000 in
theorem gL_law_X4_dearest : GoodIn wsL_law (wsV RL 164 RX4 yX4_dearest wsX4_dearest) := goodIn_app (goodIn_of _ (by decide +kernel)) ggL_law_X4_dearest
theorem dL_law_0 : decode cL_law 0 = .ok (.new 8, 3) := by decide +kernel
theorem dL_law_3 : decode cL_law 3 = .ok (.dup, 1) := by decide +kernel
theorem dL_law_4 : decode cL_law 4 = .ok (.invokespecial 81, 3) := by decide +kernel
theorem dL_law_7 : decode cL_law 7 = .ok (.astore_n 1, 1) := by decide +kernel
theorem dL_law_8 : decode cL_law 8 = .ok (.new 82, 3) := by decide +kernel
theorem dL_law_11 : decode cL_law 11 = .ok (.dup, 1) := by decide +kernel
theorem dL_law_12 : decode cL_law 12 = .ok (.invokespecial 84, 3) := by decide +kernel
theorem dL_law_15 : decode cL_law 15 = .ok (.astore_n 2, 1) := by decide +kernel
theorem dL_law_16 : decode cL_law 16 = .ok (.iconst 1, 1) := by decide +kernel
theorem dL_law_17 : decode cL_law 17 = .ok (.newarray .long, 2) := by decide +kernel
theorem dL_law_19 : decode cL_law 19 = .ok (.astore_n 3, 1) := by decide +kernel
theorem dL_law_20 : decode cL_law 20 = .ok (.iconst 0, 1) := by decide +kernel
theorem dL_law_21 : decode cL_law 21 = .ok (.istore 4, 2) := by decide +kernel
theorem dL_law_23 : decode cL_law 23 = .ok (.iload 4, 2) := by decide +kernel
theorem dL_law_25 : decode cL_law 25 = .ok (.aload_n 0, 1) := by decide +kernel
theorem dL_law_26 : decode cL_law 26 = .ok (.arraylength, 1) := by decide +kernel
theorem dL_law_27 : decode cL_law 27 = .ok (.iconst 5, 1) := by decide +kernel
theorem dL_law_28 : decode cL_law 28 = .ok (.isub, 1) := by decide +kernel
theorem dL_law_29 : decode cL_law 29 = .ok (.if_icmp .gt 1463, 3) := by decide +kernel
theorem dL_law_32 : decode cL_law 32 = .ok (.aload_n 0, 1) := by decide +kernel
theorem dL_law_33 : decode cL_law 33 = .ok (.iload 4, 2) := by decide +kernel
theorem dL_law_35 : decode cL_law 35 = .ok (.iaload, 1) := by decide +kernel
theorem dL_law_36 : decode cL_law 36 = .ok (.bipush 31, 2) := by decide +kernel
theorem dL_law_38 : decode cL_law 38 = .ok (.iand, 1) := by decide +kernel
theorem dL_law_39 : decode cL_law 39 = .ok (.tableswitch 1447 0 21 #[101, 161, 233, 301, 369, 437, 517, 597, 665, 745, 837, 850, 918, 986, 1042, 1098, 1154, 1210, 1266, 1322, 1378, 1434], 101) := by decide +kernel
theorem dL_law_140 : decode cL_law 140 = .ok (.aload_n 1, 1) := by decide +kernel
end
section
theorem dL_law_141 : decode cL_law 141 = .ok (.aload_n 0, 1) := by decide +kernel
theorem dL_law_142 : decode cL_law 142 = .ok (.iload 4, 2) := by decide +kernel
theorem dL_law_144 : decode cL_law 144 = .ok (.iconst 1, 1) := by decide +kernel
theorem dL_law_145 : decode cL_law 145 = .ok (.iadd, 1) := by decide +kernel
theorem dL_law_146 : decode cL_law 146 = .ok (.iaload, 1) := by decide +kernel
theorem dL_law_147 : decode cL_law 147 = .ok (.aload_n 0, 1) := by decide +kernel
theorem dL_law_148 : decode cL_law 148 = .ok (.iload 4, 2) := by decide +kernel
theorem dL_law_150 : decode cL_law 150 = .ok (.iconst 2, 1) := by decide +kernel
theorem dL_law_151 : decode cL_law 151 = .ok (.iadd, 1) := by decide +kernel
theorem dL_law_152 : decode cL_law 152 = .ok (.iaload, 1) := by decide +kernel
theorem dL_law_153 : decode cL_law 153 = .ok (.aload_n 0, 1) := by decide +kernel
theorem dL_law_154 : decode cL_law 154 = .ok (.iload 4, 2) := by decide +kernel
theorem dL_law_156 : decode cL_law 156 = .ok (.iconst 3, 1) := by decide +kernel
theorem dL_law_157 : decode cL_law 157 = .ok (.iadd, 1) := by decide +kernel
theorem dL_law_158 : decode cL_law 158 = .ok (.iaload, 1) := by decide +kernel
theorem dL_law_159 : decode cL_law 159 = .ok (.invokestatic 85, 3) := by decide +kernel
theorem dL_law_162 : decode cL_law 162 = .ok (.istore 5, 2) := by decide +kernel
theorem dL_law_164 : decode cL_law 164 = .ok (.aload_n 2, 1) := by decide +kernel
theorem dL_law_165 : decode cL_law 165 = .ok (.aload_n 0, 1) := by decide +kernel
theorem dL_law_166 : decode cL_law 166 = .ok (.iload 4, 2) := by decide +kernel
theorem dL_law_168 : decode cL_law 168 = .ok (.iconst 1, 1) := by decide +kernel
theorem dL_law_169 : decode cL_law 169 = .ok (.iadd, 1) := by decide +kernel
theorem dL_law_170 : decode cL_law 170 = .ok (.iaload, 1) := by decide +kernel
theorem dL_law_171 : decode cL_law 171 = .ok (.aload_n 0, 1) := by decide +kernel
theorem dL_law_172 : decode cL_law 172 = .ok (.iload 4, 2) := by decide +kernel
theorem dL_law_174 : decode cL_law 174 = .ok (.iconst 2, 1) := by decide +kernel
theorem dL_law_175 : decode cL_law 175 = .ok (.iadd, 1) := by decide +kernel
theorem dL_law_176 : decode cL_law 176 = .ok (.iaload, 1) := by decide +kernel
theorem dL_law_177 : decode cL_law 177 = .ok (.aload_n 0, 1) := by decide +kernel
theorem dL_law_178 : decode cL_law 178 = .ok (.iload 4, 2) := by decide +kernel
theorem dL_law_180 : decode cL_law 180 = .ok (.iconst 3, 1) := by decide +kernel
theorem dL_law_181 : decode cL_law 181 = .ok (.iadd, 1) := by decide +kernel
theorem dL_law_182 : decode cL_law 182 = .ok (.iaload, 1) := by decide +kernel
theorem dL_law_183 : decode cL_law 183 = .ok (.invokevirtual 90, 3) := by decide +kernel
theorem dL_law_186 : decode cL_law 186 = .ok (.aload_n 2, 1) := by decide +kernel
theorem dL_law_187 : decode cL_law 187 = .ok (.invokevirtual 91, 3) := by decide +kernel
theorem dL_law_190 : decode cL_law 190 = .ok (.iload 5, 2) := by decide +kernel
theorem dL_law_192 : decode cL_law 192 = .ok (.if_icmp .eq 5, 3) := by decide +kernel
theorem dL_law_195 : decode cL_law 195 = .ok (.iconst 0, 1) := by decide +kernel
theorem dL_law_196 : decode cL_law 196 = .ok (.ireturn, 1) := by decide +kernel
theorem dL_law_197 : decode cL_law 197 = .ok (.goto 1289, 3) := by decide +kernel
theorem dL_law_200 : decode cL_law 200 = .ok (.aload_n 1, 1) := by decide +kernel
theorem dL_law_201 : decode cL_law 201 = .ok (.aload_n 0, 1) := by decide +kernel
theorem dL_law_202 : decode cL_law 202 = .ok (.iload 4, 2) := by decide +kernel
theorem dL_law_204 : decode cL_law 204 = .ok (.iconst 1, 1) := by decide +kernel
theorem dL_law_205 : decode cL_law 205 = .ok (.iadd, 1) := by decide +kernel
theorem dL_law_206 : decode cL_law 206 = .ok (.iaload, 1) := by decide +kernel
theorem dL_law_207 : decode cL_law 207 = .ok (.aload_n 0, 1) := by decide +kernel
theorem dL_law_208 : decode cL_law 208 = .ok (.iload 4, 2) := by decide +kernel
theorem dL_law_210 : decode cL_law 210 = .ok (.iconst 2, 1) := by decide +kernel
theorem dL_law_211 : decode cL_law 211 = .ok (.iadd, 1) := by decide +kernel
theorem dL_law_212 : decode cL_law 212 = .ok (.iaload, 1) := by decide +kernel
theorem dL_law_213 : decode cL_law 213 = .ok (.aload_n 0, 1) := by decide +kernel
theorem dL_law_214 : decode cL_law 214 = .ok (.iload 4, 2) := by decide +kernel
theorem dL_law_216 : decode cL_law 216 = .ok (.iconst 3, 1) := by decide +kernel
theorem dL_law_217 : decode cL_law 217 = .ok (.iadd, 1) := by decide +kernel
theorem dL_law_218 : decode cL_law 218 = .ok (.iaload, 1) := by decide +kernel
theorem dL_law_219 : decode cL_law 219 = .ok (.aload_n 0, 1) := by decide +kernel
theorem dL_law_220 : decode cL_law 220 = .ok (.iload 4, 2) := by decide +kernel
theorem dL_law_222 : decode cL_law 222 = .ok (.iconst 4, 1) := by decide +kernel
theorem dL_law_223 : decode cL_law 223 = .ok (.iadd, 1) := by decide +kernel
theorem dL_law_224 : decode cL_law 224 = .ok (.iaload, 1) := by decide +kernel
theorem dL_law_225 : decode cL_law 225 = .ok (.invokestatic 95, 3) := by decide +kernel
theorem dL_law_228 : decode cL_law 228 = .ok (.istore 5, 2) := by decide +kernel
theorem dL_law_230 : decode cL_law 230 = .ok (.aload_n 2, 1) := by decide +kernel
theorem dL_law_231 : decode cL_law 231 = .ok (.aload_n 0, 1) := by decide +kernel
theorem dL_law_232 : decode cL_law 232 = .ok (.iload 4, 2) := by decide +kernel
theorem dL_law_234 : decode cL_law 234 = .ok (.iconst 1, 1) := by decide +kernel
theorem dL_law_235 : decode cL_law 235 = .ok (.iadd, 1) := by decide +kernel
theorem dL_law_236 : decode cL_law 236 = .ok (.iaload, 1) := by decide +kernel
theorem dL_law_237 : decode cL_law 237 = .ok (.aload_n 0, 1) := by decide +kernel
theorem dL_law_238 : decode cL_law 238 = .ok (.iload 4, 2) := by decide +kernel
theorem dL_law_240 : decode cL_law 240 = .ok (.iconst 2, 1) := by decide +kernel
theorem dL_law_241 : decode cL_law 241 = .ok (.iadd, 1) := by decide +kernel
theorem dL_law_242 : decode cL_law 242 = .ok (.iaload, 1) := by decide +kernel
theorem dL_law_243 : decode cL_law 243 = .ok (.aload_n 0, 1) := by decide +kernel
theorem dL_law_244 : decode cL_law 244 = .ok (.iload 4, 2) := by decide +kernel
theorem dL_law_246 : decode cL_law 246 = .ok (.iconst 3, 1) := by decide +kernel
theorem dL_law_247 : decode cL_law 247 = .ok (.iadd, 1) := by decide +kernel
theorem dL_law_248 : decode cL_law 248 = .ok (.iaload, 1) := by decide +kernel
theorem dL_law_249 : decode cL_law 249 = .ok (.aload_n 0, 1) := by decide +kernel
theorem dL_law_250 : decode cL_law 250 = .ok (.iload 4, 2) := by decide +kernel
theorem dL_law_252 : decode cL_law 252 = .ok (.iconst 4, 1) := by decide +kernel
theorem dL_law_253 : decode cL_law 253 = .ok (.iadd, 1) := by decide +kernel
theorem dL_law_254 : decode cL_law 254 = .ok (.iaload, 1) := by decide +kernel
theorem dL_law_255 : decode cL_law 255 = .ok (.invokevirtual 98, 3) := by decide +kernel
theorem dL_law_258 : decode cL_law 258 = .ok (.aload_n 2, 1) := by decide +kernel
theorem dL_law_259 : decode cL_law 259 = .ok (.invokevirtual 91, 3) := by decide +kernel
theorem dL_law_262 : decode cL_law 262 = .ok (.iload 5, 2) := by decide +kernel
theorem dL_law_264 : decode cL_law 264 = .ok (.if_icmp .eq 5, 3) := by decide +kernel
theorem dL_law_267 : decode cL_law 267 = .ok (.iconst 0, 1) := by decide +kernel
theorem dL_law_268 : decode cL_law 268 = .ok (.ireturn, 1) := by decide +kernel
theorem dL_law_269 : decode cL_law 269 = .ok (.goto 1217, 3) := by decide +kernel
theorem dL_law_272 : decode cL_law 272 = .ok (.aload_n 1, 1) := by decide +kernel
theorem dL_law_273 : decode cL_law 273 = .ok (.aload_n 0, 1) := by decide +kernel
theorem dL_law_274 : decode cL_law 274 = .ok (.iload 4, 2) := by decide +kernel
theorem dL_law_276 : decode cL_law 276 = .ok (.iconst 1, 1) := by decide +kernel
theorem dL_law_277 : decode cL_law 277 = .ok (.iadd, 1) := by decide +kernel
theorem dL_law_278 : decode cL_law 278 = .ok (.iaload, 1) := by decide +kernel
theorem dL_law_279 : decode cL_law 279 = .ok (.aload_n 0, 1) := by decide +kernel
theorem dL_law_280 : decode cL_law 280 = .ok (.iload 4, 2) := by decide +kernel
theorem dL_law_282 : decode cL_law 282 = .ok (.iconst 2, 1) := by decide +kernel
theorem dL_law_283 : decode cL_law 283 = .ok (.iadd, 1) := by decide +kernel
theorem dL_law_284 : decode cL_law 284 = .ok (.iaload, 1) := by decide +kernel
theorem dL_law_285 : decode cL_law 285 = .ok (.aload_n 3, 1) := by decide +kernel
theorem dL_law_286 : decode cL_law 286 = .ok (.invokestatic 99, 3) := by decide +kernel
theorem dL_law_289 : decode cL_law 289 = .ok (.istore 5, 2) := by decide +kernel
theorem dL_law_291 : decode cL_law 291 = .ok (.aload_n 2, 1) := by decide +kernel
theorem dL_law_292 : decode cL_law 292 = .ok (.aload_n 0, 1) := by decide +kernel
theorem dL_law_293 : decode cL_law 293 = .ok (.iload 4, 2) := by decide +kernel
theorem dL_law_295 : decode cL_law 295 = .ok (.iconst 1, 1) := by decide +kernel
theorem dL_law_296 : decode cL_law 296 = .ok (.iadd, 1) := by decide +kernel
theorem dL_law_297 : decode cL_law 297 = .ok (.iaload, 1) := by decide +kernel
theorem dL_law_298 : decode cL_law 298 = .ok (.aload_n 0, 1) := by decide +kernel
theorem dL_law_299 : decode cL_law 299 = .ok (.iload 4, 2) := by decide +kernel
theorem dL_law_301 : decode cL_law 301 = .ok (.iconst 2, 1) := by decide +kernel
theorem dL_law_302 : decode cL_law 302 = .ok (.iadd, 1) := by decide +kernel
theorem dL_law_303 : decode cL_law 303 = .ok (.iaload, 1) := by decide +kernel
theorem dL_law_304 : decode cL_law 304 = .ok (.invokevirtual 102, 3) := by decide +kernel
theorem dL_law_307 : decode cL_law 307 = .ok (.istore 6, 2) := by decide +kernel
theorem dL_law_309 : decode cL_law 309 = .ok (.aload_n 2, 1) := by decide +kernel
theorem dL_law_310 : decode cL_law 310 = .ok (.invokevirtual 91, 3) := by decide +kernel
theorem dL_law_313 : decode cL_law 313 = .ok (.iload 5, 2) := by decide +kernel
theorem dL_law_315 : decode cL_law 315 = .ok (.if_icmp .eq 5, 3) := by decide +kernel
theorem dL_law_318 : decode cL_law 318 = .ok (.iconst 0, 1) := by decide +kernel
theorem dL_law_319 : decode cL_law 319 = .ok (.ireturn, 1) := by decide +kernel
theorem dL_law_320 : decode cL_law 320 = .ok (.iload 5, 2) := by decide +kernel
theorem dL_law_322 : decode cL_law 322 = .ok (.ifCond .ne 15, 3) := by decide +kernel
theorem dL_law_325 : decode cL_law 325 = .ok (.aload_n 3, 1) := by decide +kernel
theorem dL_law_326 : decode cL_law 326 = .ok (.iconst 0, 1) := by decide +kernel
theorem dL_law_327 : decode cL_law 327 = .ok (.laload, 1) := by decide +kernel
theorem dL_law_328 : decode cL_law 328 = .ok (.iload 6, 2) := by decide +kernel
theorem dL_law_330 : decode cL_law 330 = .ok (.i2l, 1) := by decide +kernel
theorem dL_law_331 : decode cL_law 331 = .ok (.lcmp, 1) := by decide +kernel
theorem dL_law_332 : decode cL_law 332 = .ok (.ifCond .eq 5, 3) := by decide +kernel
theorem dL_law_335 : decode cL_law 335 = .ok (.iconst 0, 1) := by decide +kernel
theorem dL_law_336 : decode cL_law 336 = .ok (.ireturn, 1) := by decide +kernel
theorem dL_law_337 : decode cL_law 337 = .ok (.goto 1149, 3) := by decide +kernel
theorem dL_law_340 : decode cL_law 340 = .ok (.aload_n 1, 1) := by decide +kernel
theorem dL_law_341 : decode cL_law 341 = .ok (.aload_n 0, 1) := by decide +kernel
theorem dL_law_342 : decode cL_law 342 = .ok (.iload 4, 2) := by decide +kernel
theorem dL_law_344 : decode cL_law 344 = .ok (.iconst 1, 1) := by decide +kernel
theorem dL_law_345 : decode cL_law 345 = .ok (.iadd, 1) := by decide +kernel
theorem dL_law_346 : decode cL_law 346 = .ok (.iaload, 1) := by decide +kernel
theorem dL_law_347 : decode cL_law 347 = .ok (.aload_n 0, 1) := by decide +kernel
theorem dL_law_348 : decode cL_law 348 = .ok (.iload 4, 2) := by decide +kernel
theorem dL_law_350 : decode cL_law 350 = .ok (.iconst 2, 1) := by decide +kernel
theorem dL_law_351 : decode cL_law 351 = .ok (.iadd, 1) := by decide +kernel
theorem dL_law_352 : decode cL_law 352 = .ok (.iaload, 1) := by decide +kernel
theorem dL_law_353 : decode cL_law 353 = .ok (.aload_n 3, 1) := by decide +kernel
theorem dL_law_354 : decode cL_law 354 = .ok (.invokestatic 103, 3) := by decide +kernel
theorem dL_law_357 : decode cL_law 357 = .ok (.istore 5, 2) := by decide +kernel
theorem dL_law_359 : decode cL_law 359 = .ok (.aload_n 2, 1) := by decide +kernel
theorem dL_law_360 : decode cL_law 360 = .ok (.aload_n 0, 1) := by decide +kernel
theorem dL_law_361 : decode cL_law 361 = .ok (.iload 4, 2) := by decide +kernel
theorem dL_law_363 : decode cL_law 363 = .ok (.iconst 1, 1) := by decide +kernel
theorem dL_law_364 : decode cL_law 364 = .ok (.iadd, 1) := by decide +kernel
theorem dL_law_365 : decode cL_law 365 = .ok (.iaload, 1) := by decide +kernel
theorem dL_law_366 : decode cL_law 366 = .ok (.aload_n 0, 1) := by decide +kernel
theorem dL_law_367 : decode cL_law 367 = .ok (.iload 4, 2) := by decide +kernel
theorem dL_law_369 : decode cL_law 369 = .ok (.iconst 2, 1) := by decide +kernel
theorem dL_law_370 : decode cL_law 370 = .ok (.iadd, 1) := by decide +kernel
theorem dL_law_371 : decode cL_law 371 = .ok (.iaload, 1) := by decide +kernel
theorem dL_law_372 : decode cL_law 372 = .ok (.invokevirtual 105, 3) := by decide +kernel
theorem dL_law_375 : decode cL_law 375 = .ok (.istore 6, 2) := by decide +kernel
theorem dL_law_377 : decode cL_law 377 = .ok (.aload_n 2, 1) := by decide +kernel
theorem dL_law_378 : decode cL_law 378 = .ok (.invokevirtual 91, 3) := by decide +kernel
theorem dL_law_381 : decode cL_law 381 = .ok (.iload 5, 2) := by decide +kernel
theorem dL_law_383 : decode cL_law 383 = .ok (.if_icmp .eq 5, 3) := by decide +kernel
theorem dL_law_386 : decode cL_law 386 = .ok (.iconst 0, 1) := by decide +kernel
theorem dL_law_387 : decode cL_law 387 = .ok (.ireturn, 1) := by decide +kernel
theorem dL_law_388 : decode cL_law 388 = .ok (.iload 5, 2) := by decide +kernel
theorem dL_law_390 : decode cL_law 390 = .ok (.ifCond .ne 15, 3) := by decide +kernel
theorem dL_law_393 : decode cL_law 393 = .ok (.aload_n 3, 1) := by decide +kernel
theorem dL_law_394 : decode cL_law 394 = .ok (.iconst 0, 1) := by decide +kernel
theorem dL_law_395 : decode cL_law 395 = .ok (.laload, 1) := by decide +kernel
theorem dL_law_396 : decode cL_law 396 = .ok (.iload 6, 2) := by decide +kernel
theorem dL_law_398 : decode cL_law 398 = .ok (.i2l, 1) := by decide +kernel
theorem dL_law_399 : decode cL_law 399 = .ok (.lcmp, 1) := by decide +kernel
theorem dL_law_400 : decode cL_law 400 = .ok (.ifCond .eq 5, 3) := by decide +kernel
theorem dL_law_403 : decode cL_law 403 = .ok (.iconst 0, 1) := by decide +kernel
theorem dL_law_404 : decode cL_law 404 = .ok (.ireturn, 1) := by decide +kernel
theorem dL_law_405 : decode cL_law 405 = .ok (.goto 1081, 3) := by decide +kernel
theorem dL_law_408 : decode cL_law 408 = .ok (.aload_n 1, 1) := by decide +kernel
theorem dL_law_409 : decode cL_law 409 = .ok (.aload_n 0, 1) := by decide +kernel
theorem dL_law_410 : decode cL_law 410 = .ok (.iload 4, 2) := by decide +kernel
theorem dL_law_412 : decode cL_law 412 = .ok (.iconst 1, 1) := by decide +kernel
theorem dL_law_413 : decode cL_law 413 = .ok (.iadd, 1) := by decide +kernel
theorem dL_law_414 : decode cL_law 414 = .ok (.iaload, 1) := by decide +kernel
theorem dL_law_415 : decode cL_law 415 = .ok (.aload_n 0, 1) := by decide +kernel
theorem dL_law_416 : decode cL_law 416 = .ok (.iload 4, 2) := by decide +kernel
theorem dL_law_418 : decode cL_law 418 = .ok (.iconst 2, 1) := by decide +kernel
theorem dL_law_419 : decode cL_law 419 = .ok (.iadd, 1) := by decide +kernel
theorem dL_law_420 : decode cL_law 420 = .ok (.iaload, 1) := by decide +kernel
theorem dL_law_421 : decode cL_law 421 = .ok (.aload_n 3, 1) := by decide +kernel
theorem dL_law_422 : decode cL_law 422 = .ok (.invokestatic 106, 3) := by decide +kernel
theorem dL_law_425 : decode cL_law 425 = .ok (.istore 5, 2) := by decide +kernel
theorem dL_law_427 : decode cL_law 427 = .ok (.aload_n 2, 1) := by decide +kernel
theorem dL_law_428 : decode cL_law 428 = .ok (.aload_n 0, 1) := by decide +kernel
theorem dL_law_429 : decode cL_law 429 = .ok (.iload 4, 2) := by decide +kernel
theorem dL_law_431 : decode cL_law 431 = .ok (.iconst 1, 1) := by decide +kernel
theorem dL_law_432 : decode cL_law 432 = .ok (.iadd, 1) := by decide +kernel
theorem dL_law_433 : decode cL_law 433 = .ok (.iaload, 1) := by decide +kernel
theorem dL_law_434 : decode cL_law 434 = .ok (.aload_n 0, 1) := by decide +kernel
theorem dL_law_435 : decode cL_law 435 = .ok (.iload 4, 2) := by decide +kernel
theorem dL_law_437 : decode cL_law 437 = .ok (.iconst 2, 1) := by decide +kernel
theorem dL_law_438 : decode cL_law 438 = .ok (.iadd, 1) := by decide +kernel
theorem dL_law_439 : decode cL_law 439 = .ok (.iaload, 1) := by decide +kernel
theorem dL_law_440 : decode cL_law 440 = .ok (.invokevirtual 108, 3) := by decide +kernel
theorem dL_law_443 : decode cL_law 443 = .ok (.istore 6, 2) := by decide +kernel
theorem dL_law_445 : decode cL_law 445 = .ok (.aload_n 2, 1) := by decide +kernel
theorem dL_law_446 : decode cL_law 446 = .ok (.invokevirtual 91, 3) := by decide +kernel
theorem dL_law_449 : decode cL_law 449 = .ok (.iload 5, 2) := by decide +kernel
theorem dL_law_451 : decode cL_law 451 = .ok (.if_icmp .eq 5, 3) := by decide +kernel
theorem dL_law_454 : decode cL_law 454 = .ok (.iconst 0, 1) := by decide +kernel
theorem dL_law_455 : decode cL_law 455 = .ok (.ireturn, 1) := by decide +kernel
theorem dL_law_456 : decode cL_law 456 = .ok (.iload 5, 2) := by decide +kernel
theorem dL_law_458 : decode cL_law 458 = .ok (.ifCond .ne 15, 3) := by decide +kernel
theorem dL_law_461 : decode cL_law 461 = .ok (.aload_n 3, 1) := by decide +kernel
theorem dL_law_462 : decode cL_law 462 = .ok (.iconst 0, 1) := by decide +kernel
theorem dL_law_463 : decode cL_law 463 = .ok (.laload, 1) := by decide +kernel
theorem dL_law_464 : decode cL_law 464 = .ok (.iload 6, 2) := by decide +kernel
theorem dL_law_466 : decode cL_law 466 = .ok (.i2l, 1) := by decide +kernel
theorem dL_law_467 : decode cL_law 467 = .ok (.lcmp, 1) := by decide +kernel
theorem dL_law_468 : decode cL_law 468 = .ok (.ifCond .eq 5, 3) := by decide +kernel
theorem dL_law_471 : decode cL_law 471 = .ok (.iconst 0, 1) := by decide +kernel
theorem dL_law_472 : decode cL_law 472 = .ok (.ireturn, 1) := by decide +kernel
theorem dL_law_473 : decode cL_law 473 = .ok (.goto 1013, 3) := by decide +kernel
theorem dL_law_476 : decode cL_law 476 = .ok (.aload_n 1, 1) := by decide +kernel
theorem dL_law_477 : decode cL_law 477 = .ok (.aload_n 0, 1) := by decide +kernel
theorem dL_law_478 : decode cL_law 478 = .ok (.iload 4, 2) := by decide +kernel
theorem dL_law_480 : decode cL_law 480 = .ok (.iconst 1, 1) := by decide +kernel
theorem dL_law_481 : decode cL_law 481 = .ok (.iadd, 1) := by decide +kernel
theorem dL_law_482 : decode cL_law 482 = .ok (.iaload, 1) := by decide +kernel
theorem dL_law_483 : decode cL_law 483 = .ok (.aload_n 0, 1) := by decide +kernel
theorem dL_law_484 : decode cL_law 484 = .ok (.iload 4, 2) := by decide +kernel
theorem dL_law_486 : decode cL_law 486 = .ok (.iconst 2, 1) := by decide +kernel
theorem dL_law_487 : decode cL_law 487 = .ok (.iadd, 1) := by decide +kernel
theorem dL_law_488 : decode cL_law 488 = .ok (.iaload, 1) := by decide +kernel
theorem dL_law_489 : decode cL_law 489 = .ok (.aload_n 0, 1) := by decide +kernel
theorem dL_law_490 : decode cL_law 490 = .ok (.iload 4, 2) := by decide +kernel
theorem dL_law_492 : decode cL_law 492 = .ok (.iconst 3, 1) := by decide +kernel
theorem dL_law_493 : decode cL_law 493 = .ok (.iadd, 1) := by decide +kernel
theorem dL_law_494 : decode cL_law 494 = .ok (.iaload, 1) := by decide +kernel
theorem dL_law_495 : decode cL_law 495 = .ok (.aload_n 3, 1) := by decide +kernel
theorem dL_law_496 : decode cL_law 496 = .ok (.invokestatic 109, 3) := by decide +kernel
theorem dL_law_499 : decode cL_law 499 = .ok (.istore 5, 2) := by decide +kernel
theorem dL_law_501 : decode cL_law 501 = .ok (.aload_n 2, 1) := by decide +kernel
theorem dL_law_502 : decode cL_law 502 = .ok (.aload_n 0, 1) := by decide +kernel
theorem dL_law_503 : decode cL_law 503 = .ok (.iload 4, 2) := by decide +kernel
theorem dL_law_505 : decode cL_law 505 = .ok (.iconst 1, 1) := by decide +kernel
theorem dL_law_506 : decode cL_law 506 = .ok (.iadd, 1) := by decide +kernel
theorem dL_law_507 : decode cL_law 507 = .ok (.iaload, 1) := by decide +kernel
theorem dL_law_508 : decode cL_law 508 = .ok (.aload_n 0, 1) := by decide +kernel
theorem dL_law_509 : decode cL_law 509 = .ok (.iload 4, 2) := by decide +kernel
theorem dL_law_511 : decode cL_law 511 = .ok (.iconst 2, 1) := by decide +kernel
theorem dL_law_512 : decode cL_law 512 = .ok (.iadd, 1) := by decide +kernel
theorem dL_law_513 : decode cL_law 513 = .ok (.iaload, 1) := by decide +kernel
theorem dL_law_514 : decode cL_law 514 = .ok (.aload_n 0, 1) := by decide +kernel
theorem dL_law_515 : decode cL_law 515 = .ok (.iload 4, 2) := by decide +kernel
theorem dL_law_517 : decode cL_law 517 = .ok (.iconst 3, 1) := by decide +kernel
theorem dL_law_518 : decode cL_law 518 = .ok (.iadd, 1) := by decide +kernel
theorem dL_law_519 : decode cL_law 519 = .ok (.iaload, 1) := by decide +kernel
theorem dL_law_520 : decode cL_law 520 = .ok (.invokevirtual 112, 3) := by decide +kernel
theorem dL_law_523 : decode cL_law 523 = .ok (.istore 6, 2) := by decide +kernel
theorem dL_law_525 : decode cL_law 525 = .ok (.aload_n 2, 1) := by decide +kernel
theorem dL_law_526 : decode cL_law 526 = .ok (.invokevirtual 91, 3) := by decide +kernel
theorem dL_law_529 : decode cL_law 529 = .ok (.iload 5, 2) := by decide +kernel
theorem dL_law_531 : decode cL_law 531 = .ok (.if_icmp .eq 5, 3) := by decide +kernel
theorem dL_law_534 : decode cL_law 534 = .ok (.iconst 0, 1) := by decide +kernel
theorem dL_law_535 : decode cL_law 535 = .ok (.ireturn, 1) := by decide +kernel
theorem dL_law_536 : decode cL_law 536 = .ok (.iload 5, 2) := by decide +kernel
theorem dL_law_538 : decode cL_law 538 = .ok (.ifCond .ne 15, 3) := by decide +kernel
theorem dL_law_541 : decode cL_law 541 = .ok (.aload_n 3, 1) := by decide +kernel
theorem dL_law_542 : decode cL_law 542 = .ok (.iconst 0, 1) := by decide +kernel
theorem dL_law_543 : decode cL_law 543 = .ok (.laload, 1) := by decide +kernel
theorem dL_law_544 : decode cL_law 544 = .ok (.iload 6, 2) := by decide +kernel
theorem dL_law_546 : decode cL_law 546 = .ok (.i2l, 1) := by decide +kernel
theorem dL_law_547 : decode cL_law 547 = .ok (.lcmp, 1) := by decide +kernel
theorem dL_law_548 : decode cL_law 548 = .ok (.ifCond .eq 5, 3) := by decide +kernel
theorem dL_law_551 : decode cL_law 551 = .ok (.iconst 0, 1) := by decide +kernel
theorem dL_law_552 : decode cL_law 552 = .ok (.ireturn, 1) := by decide +kernel
theorem dL_law_553 : decode cL_law 553 = .ok (.goto 933, 3) := by decide +kernel
theorem dL_law_556 : decode cL_law 556 = .ok (.aload_n 1, 1) := by decide +kernel
theorem dL_law_557 : decode cL_law 557 = .ok (.aload_n 0, 1) := by decide +kernel
theorem dL_law_558 : decode cL_law 558 = .ok (.iload 4, 2) := by decide +kernel
theorem dL_law_560 : decode cL_law 560 = .ok (.iconst 1, 1) := by decide +kernel
theorem dL_law_561 : decode cL_law 561 = .ok (.iadd, 1) := by decide +kernel
theorem dL_law_562 : decode cL_law 562 = .ok (.iaload, 1) := by decide +kernel
theorem dL_law_563 : decode cL_law 563 = .ok (.aload_n 0, 1) := by decide +kernel
theorem dL_law_564 : decode cL_law 564 = .ok (.iload 4, 2) := by decide +kernel
theorem dL_law_566 : decode cL_law 566 = .ok (.iconst 2, 1) := by decide +kernel
theorem dL_law_567 : decode cL_law 567 = .ok (.iadd, 1) := by decide +kernel
theorem dL_law_568 : decode cL_law 568 = .ok (.iaload, 1) := by decide +kernel
theorem dL_law_569 : decode cL_law 569 = .ok (.aload_n 0, 1) := by decide +kernel
theorem dL_law_570 : decode cL_law 570 = .ok (.iload 4, 2) := by decide +kernel
theorem dL_law_572 : decode cL_law 572 = .ok (.iconst 3, 1) := by decide +kernel
theorem dL_law_573 : decode cL_law 573 = .ok (.iadd, 1) := by decide +kernel
theorem dL_law_574 : decode cL_law 574 = .ok (.iaload, 1) := by decide +kernel
theorem dL_law_575 : decode cL_law 575 = .ok (.aload_n 3, 1) := by decide +kernel
theorem dL_law_576 : decode cL_law 576 = .ok (.invokestatic 113, 3) := by decide +kernel
theorem dL_law_579 : decode cL_law 579 = .ok (.istore 5, 2) := by decide +kernel
theorem dL_law_581 : decode cL_law 581 = .ok (.aload_n 2, 1) := by decide +kernel
theorem dL_law_582 : decode cL_law 582 = .ok (.aload_n 0, 1) := by decide +kernel
theorem dL_law_583 : decode cL_law 583 = .ok (.iload 4, 2) := by decide +kernel
theorem dL_law_585 : decode cL_law 585 = .ok (.iconst 1, 1) := by decide +kernel
theorem dL_law_586 : decode cL_law 586 = .ok (.iadd, 1) := by decide +kernel
theorem dL_law_587 : decode cL_law 587 = .ok (.iaload, 1) := by decide +kernel
theorem dL_law_588 : decode cL_law 588 = .ok (.aload_n 0, 1) := by decide +kernel
theorem dL_law_589 : decode cL_law 589 = .ok (.iload 4, 2) := by decide +kernel
theorem dL_law_591 : decode cL_law 591 = .ok (.iconst 2, 1) := by decide +kernel
theorem dL_law_592 : decode cL_law 592 = .ok (.iadd, 1) := by decide +kernel
theorem dL_law_593 : decode cL_law 593 = .ok (.iaload, 1) := by decide +kernel
theorem dL_law_594 : decode cL_law 594 = .ok (.aload_n 0, 1) := by decide +kernel
theorem dL_law_595 : decode cL_law 595 = .ok (.iload 4, 2) := by decide +kernel
theorem dL_law_597 : decode cL_law 597 = .ok (.iconst 3, 1) := by decide +kernel
theorem dL_law_598 : decode cL_law 598 = .ok (.iadd, 1) := by decide +kernel
theorem dL_law_599 : decode cL_law 599 = .ok (.iaload, 1) := by decide +kernel
theorem dL_law_600 : decode cL_law 600 = .ok (.invokevirtual 115, 3) := by decide +kernel
theorem dL_law_603 : decode cL_law 603 = .ok (.istore 6, 2) := by decide +kernel
theorem dL_law_605 : decode cL_law 605 = .ok (.aload_n 2, 1) := by decide +kernel
theorem dL_law_606 : decode cL_law 606 = .ok (.invokevirtual 91, 3) := by decide +kernel
theorem dL_law_609 : decode cL_law 609 = .ok (.iload 5, 2) := by decide +kernel
theorem dL_law_611 : decode cL_law 611 = .ok (.if_icmp .eq 5, 3) := by decide +kernel
theorem dL_law_614 : decode cL_law 614 = .ok (.iconst 0, 1) := by decide +kernel
theorem dL_law_615 : decode cL_law 615 = .ok (.ireturn, 1) := by decide +kernel
theorem dL_law_616 : decode cL_law 616 = .ok (.iload 5, 2) := by decide +kernel
theorem dL_law_618 : decode cL_law 618 = .ok (.ifCond .ne 15, 3) := by decide +kernel
theorem dL_law_621 : decode cL_law 621 = .ok (.aload_n 3, 1) := by decide +kernel
theorem dL_law_622 : decode cL_law 622 = .ok (.iconst 0, 1) := by decide +kernel
theorem dL_law_623 : decode cL_law 623 = .ok (.laload, 1) := by decide +kernel
theorem dL_law_624 : decode cL_law 624 = .ok (.iload 6, 2) := by decide +kernel
theorem dL_law_626 : decode cL_law 626 = .ok (.i2l, 1) := by decide +kernel
theorem dL_law_627 : decode cL_law 627 = .ok (.lcmp, 1) := by decide +kernel
theorem dL_law_628 : decode cL_law 628 = .ok (.ifCond .eq 5, 3) := by decide +kernel
theorem dL_law_631 : decode cL_law 631 = .ok (.iconst 0, 1) := by decide +kernel
theorem dL_law_632 : decode cL_law 632 = .ok (.ireturn, 1) := by decide +kernel
theorem dL_law_633 : decode cL_law 633 = .ok (.goto 853, 3) := by decide +kernel
theorem dL_law_636 : decode cL_law 636 = .ok (.aload_n 1, 1) := by decide +kernel
theorem dL_law_637 : decode cL_law 637 = .ok (.aload_n 0, 1) := by decide +kernel
theorem dL_law_638 : decode cL_law 638 = .ok (.iload 4, 2) := by decide +kernel
theorem dL_law_640 : decode cL_law 640 = .ok (.iconst 1, 1) := by decide +kernel
theorem dL_law_641 : decode cL_law 641 = .ok (.iadd, 1) := by decide +kernel
theorem dL_law_642 : decode cL_law 642 = .ok (.iaload, 1) := by decide +kernel
theorem dL_law_643 : decode cL_law 643 = .ok (.aload_n 0, 1) := by decide +kernel
theorem dL_law_644 : decode cL_law 644 = .ok (.iload 4, 2) := by decide +kernel
theorem dL_law_646 : decode cL_law 646 = .ok (.iconst 2, 1) := by decide +kernel
theorem dL_law_647 : decode cL_law 647 = .ok (.iadd, 1) := by decide +kernel
theorem dL_law_648 : decode cL_law 648 = .ok (.iaload, 1) := by decide +kernel
theorem dL_law_649 : decode cL_law 649 = .ok (.aload_n 3, 1) := by decide +kernel
theorem dL_law_650 : decode cL_law 650 = .ok (.invokestatic 116, 3) := by decide +kernel
theorem dL_law_653 : decode cL_law 653 = .ok (.istore 5, 2) := by decide +kernel
theorem dL_law_655 : decode cL_law 655 = .ok (.aload_n 2, 1) := by decide +kernel
theorem dL_law_656 : decode cL_law 656 = .ok (.aload_n 0, 1) := by decide +kernel
theorem dL_law_657 : decode cL_law 657 = .ok (.iload 4, 2) := by decide +kernel
theorem dL_law_659 : decode cL_law 659 = .ok (.iconst 1, 1) := by decide +kernel
theorem dL_law_660 : decode cL_law 660 = .ok (.iadd, 1) := by decide +kernel
theorem dL_law_661 : decode cL_law 661 = .ok (.iaload, 1) := by decide +kernel
theorem dL_law_662 : decode cL_law 662 = .ok (.aload_n 0, 1) := by decide +kernel
theorem dL_law_663 : decode cL_law 663 = .ok (.iload 4, 2) := by decide +kernel
theorem dL_law_665 : decode cL_law 665 = .ok (.iconst 2, 1) := by decide +kernel
theorem dL_law_666 : decode cL_law 666 = .ok (.iadd, 1) := by decide +kernel
theorem dL_law_667 : decode cL_law 667 = .ok (.iaload, 1) := by decide +kernel
theorem dL_law_668 : decode cL_law 668 = .ok (.invokevirtual 118, 3) := by decide +kernel
theorem dL_law_671 : decode cL_law 671 = .ok (.istore 6, 2) := by decide +kernel
theorem dL_law_673 : decode cL_law 673 = .ok (.aload_n 2, 1) := by decide +kernel
theorem dL_law_674 : decode cL_law 674 = .ok (.invokevirtual 91, 3) := by decide +kernel
theorem dL_law_677 : decode cL_law 677 = .ok (.iload 5, 2) := by decide +kernel
theorem dL_law_679 : decode cL_law 679 = .ok (.if_icmp .eq 5, 3) := by decide +kernel
theorem dL_law_682 : decode cL_law 682 = .ok (.iconst 0, 1) := by decide +kernel
theorem dL_law_683 : decode cL_law 683 = .ok (.ireturn, 1) := by decide +kernel
theorem dL_law_684 : decode cL_law 684 = .ok (.iload 5, 2) := by decide +kernel
theorem dL_law_686 : decode cL_law 686 = .ok (.ifCond .ne 15, 3) := by decide +kernel
theorem dL_law_689 : decode cL_law 689 = .ok (.aload_n 3, 1) := by decide +kernel
theorem dL_law_690 : decode cL_law 690 = .ok (.iconst 0, 1) := by decide +kernel
theorem dL_law_691 : decode cL_law 691 = .ok (.laload, 1) := by decide +kernel
theorem dL_law_692 : decode cL_law 692 = .ok (.iload 6, 2) := by decide +kernel
theorem dL_law_694 : decode cL_law 694 = .ok (.i2l, 1) := by decide +kernel
theorem dL_law_695 : decode cL_law 695 = .ok (.lcmp, 1) := by decide +kernel
theorem dL_law_696 : decode cL_law 696 = .ok (.ifCond .eq 5, 3) := by decide +kernel
theorem dL_law_699 : decode cL_law 699 = .ok (.iconst 0, 1) := by decide +kernel
theorem dL_law_700 : decode cL_law 700 = .ok (.ireturn, 1) := by decide +kernel
theorem dL_law_701 : decode cL_law 701 = .ok (.goto 785, 3) := by decide +kernel
theorem dL_law_704 : decode cL_law 704 = .ok (.aload_n 1, 1) := by decide +kernel
theorem dL_law_705 : decode cL_law 705 = .ok (.aload_n 0, 1) := by decide +kernel
theorem dL_law_706 : decode cL_law 706 = .ok (.iload 4, 2) := by decide +kernel
theorem dL_law_708 : decode cL_law 708 = .ok (.iconst 1, 1) := by decide +kernel
theorem dL_law_709 : decode cL_law 709 = .ok (.iadd, 1) := by decide +kernel
theorem dL_law_710 : decode cL_law 710 = .ok (.iaload, 1) := by decide +kernel
theorem dL_law_711 : decode cL_law 711 = .ok (.aload_n 0, 1) := by decide +kernel
theorem dL_law_712 : decode cL_law 712 = .ok (.iload 4, 2) := by decide +kernel
theorem dL_law_714 : decode cL_law 714 = .ok (.iconst 2, 1) := by decide +kernel
theorem dL_law_715 : decode cL_law 715 = .ok (.iadd, 1) := by decide +kernel
theorem dL_law_716 : decode cL_law 716 = .ok (.iaload, 1) := by decide +kernel
theorem dL_law_717 : decode cL_law 717 = .ok (.aload_n 0, 1) := by decide +kernel
theorem dL_law_718 : decode cL_law 718 = .ok (.iload 4, 2) := by decide +kernel
theorem dL_law_720 : decode cL_law 720 = .ok (.iconst 3, 1) := by decide +kernel
theorem dL_law_721 : decode cL_law 721 = .ok (.iadd, 1) := by decide +kernel
theorem dL_law_722 : decode cL_law 722 = .ok (.iaload, 1) := by decide +kernel
theorem dL_law_723 : decode cL_law 723 = .ok (.aload_n 3, 1) := by decide +kernel
theorem dL_law_724 : decode cL_law 724 = .ok (.invokestatic 119, 3) := by decide +kernel
theorem dL_law_727 : decode cL_law 727 = .ok (.istore 5, 2) := by decide +kernel
theorem dL_law_729 : decode cL_law 729 = .ok (.aload_n 2, 1) := by decide +kernel
theorem dL_law_730 : decode cL_law 730 = .ok (.aload_n 0, 1) := by decide +kernel
theorem dL_law_731 : decode cL_law 731 = .ok (.iload 4, 2) := by decide +kernel
theorem dL_law_733 : decode cL_law 733 = .ok (.iconst 1, 1) := by decide +kernel
theorem dL_law_734 : decode cL_law 734 = .ok (.iadd, 1) := by decide +kernel
theorem dL_law_735 : decode cL_law 735 = .ok (.iaload, 1) := by decide +kernel
theorem dL_law_736 : decode cL_law 736 = .ok (.aload_n 0, 1) := by decide +kernel
theorem dL_law_737 : decode cL_law 737 = .ok (.iload 4, 2) := by decide +kernel
theorem dL_law_739 : decode cL_law 739 = .ok (.iconst 2, 1) := by decide +kernel
theorem dL_law_740 : decode cL_law 740 = .ok (.iadd, 1) := by decide +kernel
theorem dL_law_741 : decode cL_law 741 = .ok (.iaload, 1) := by decide +kernel
theorem dL_law_742 : decode cL_law 742 = .ok (.aload_n 0, 1) := by decide +kernel
theorem dL_law_743 : decode cL_law 743 = .ok (.iload 4, 2) := by decide +kernel
theorem dL_law_745 : decode cL_law 745 = .ok (.iconst 3, 1) := by decide +kernel
theorem dL_law_746 : decode cL_law 746 = .ok (.iadd, 1) := by decide +kernel
theorem dL_law_747 : decode cL_law 747 = .ok (.iaload, 1) := by decide +kernel
theorem dL_law_748 : decode cL_law 748 = .ok (.invokevirtual 121, 3) := by decide +kernel
theorem dL_law_751 : decode cL_law 751 = .ok (.istore 6, 2) := by decide +kernel
theorem dL_law_753 : decode cL_law 753 = .ok (.aload_n 2, 1) := by decide +kernel
theorem dL_law_754 : decode cL_law 754 = .ok (.invokevirtual 91, 3) := by decide +kernel
theorem dL_law_757 : decode cL_law 757 = .ok (.iload 5, 2) := by decide +kernel
theorem dL_law_759 : decode cL_law 759 = .ok (.if_icmp .eq 5, 3) := by decide +kernel
theorem dL_law_762 : decode cL_law 762 = .ok (.iconst 0, 1) := by decide +kernel
theorem dL_law_763 : decode cL_law 763 = .ok (.ireturn, 1) := by decide +kernel
theorem dL_law_764 : decode cL_law 764 = .ok (.iload 5, 2) := by decide +kernel
theorem dL_law_766 : decode cL_law 766 = .ok (.ifCond .ne 15, 3) := by decide +kernel
theorem dL_law_769 : decode cL_law 769 = .ok (.aload_n 3, 1) := by decide +kernel
theorem dL_law_770 : decode cL_law 770 = .ok (.iconst 0, 1) := by decide +kernel
theorem dL_law_771 : decode cL_law 771 = .ok (.laload, 1) := by decide +kernel
theorem dL_law_772 : decode cL_law 772 = .ok (.iload 6, 2) := by decide +kernel
theorem dL_law_774 : decode cL_law 774 = .ok (.i2l, 1) := by decide +kernel
theorem dL_law_775 : decode cL_law 775 = .ok (.lcmp, 1) := by decide +kernel
theorem dL_law_776 : decode cL_law 776 = .ok (.ifCond .eq 5, 3) := by decide +kernel
theorem dL_law_779 : decode cL_law 779 = .ok (.iconst 0, 1) := by decide +kernel
theorem dL_law_780 : decode cL_law 780 = .ok (.ireturn, 1) := by decide +kernel
theorem dL_law_781 : decode cL_law 781 = .ok (.goto 705, 3) := by decide +kernel
theorem dL_law_784 : decode cL_law 784 = .ok (.aload_n 1, 1) := by decide +kernel
theorem dL_law_785 : decode cL_law 785 = .ok (.aload_n 0, 1) := by decide +kernel
theorem dL_law_786 : decode cL_law 786 = .ok (.iload 4, 2) := by decide +kernel
theorem dL_law_788 : decode cL_law 788 = .ok (.iconst 1, 1) := by decide +kernel
theorem dL_law_789 : decode cL_law 789 = .ok (.iadd, 1) := by decide +kernel
theorem dL_law_790 : decode cL_law 790 = .ok (.iaload, 1) := by decide +kernel
theorem dL_law_791 : decode cL_law 791 = .ok (.aload_n 0, 1) := by decide +kernel
theorem dL_law_792 : decode cL_law 792 = .ok (.iload 4, 2) := by decide +kernel
theorem dL_law_794 : decode cL_law 794 = .ok (.iconst 2, 1) := by decide +kernel
theorem dL_law_795 : decode cL_law 795 = .ok (.iadd, 1) := by decide +kernel
theorem dL_law_796 : decode cL_law 796 = .ok (.iaload, 1) := by decide +kernel
theorem dL_law_797 : decode cL_law 797 = .ok (.aload_n 0, 1) := by decide +kernel
theorem dL_law_798 : decode cL_law 798 = .ok (.iload 4, 2) := by decide +kernel
theorem dL_law_800 : decode cL_law 800 = .ok (.iconst 3, 1) := by decide +kernel
theorem dL_law_801 : decode cL_law 801 = .ok (.iadd, 1) := by decide +kernel
theorem dL_law_802 : decode cL_law 802 = .ok (.iaload, 1) := by decide +kernel
theorem dL_law_803 : decode cL_law 803 = .ok (.aload_n 0, 1) := by decide +kernel
theorem dL_law_804 : decode cL_law 804 = .ok (.iload 4, 2) := by decide +kernel
theorem dL_law_806 : decode cL_law 806 = .ok (.iconst 4, 1) := by decide +kernel
theorem dL_law_807 : decode cL_law 807 = .ok (.iadd, 1) := by decide +kernel
theorem dL_law_808 : decode cL_law 808 = .ok (.iaload, 1) := by decide +kernel
theorem dL_law_809 : decode cL_law 809 = .ok (.aload_n 3, 1) := by decide +kernel
theorem dL_law_810 : decode cL_law 810 = .ok (.invokestatic 122, 3) := by decide +kernel
theorem dL_law_813 : decode cL_law 813 = .ok (.istore 5, 2) := by decide +kernel
theorem dL_law_815 : decode cL_law 815 = .ok (.aload_n 2, 1) := by decide +kernel
theorem dL_law_816 : decode cL_law 816 = .ok (.aload_n 0, 1) := by decide +kernel
theorem dL_law_817 : decode cL_law 817 = .ok (.iload 4, 2) := by decide +kernel
theorem dL_law_819 : decode cL_law 819 = .ok (.iconst 1, 1) := by decide +kernel
theorem dL_law_820 : decode cL_law 820 = .ok (.iadd, 1) := by decide +kernel
theorem dL_law_821 : decode cL_law 821 = .ok (.iaload, 1) := by decide +kernel
theorem dL_law_822 : decode cL_law 822 = .ok (.aload_n 0, 1) := by decide +kernel
theorem dL_law_823 : decode cL_law 823 = .ok (.iload 4, 2) := by decide +kernel
theorem dL_law_825 : decode cL_law 825 = .ok (.iconst 2, 1) := by decide +kernel
theorem dL_law_826 : decode cL_law 826 = .ok (.iadd, 1) := by decide +kernel
theorem dL_law_827 : decode cL_law 827 = .ok (.iaload, 1) := by decide +kernel
theorem dL_law_828 : decode cL_law 828 = .ok (.aload_n 0, 1) := by decide +kernel
theorem dL_law_829 : decode cL_law 829 = .ok (.iload 4, 2) := by decide +kernel
theorem dL_law_831 : decode cL_law 831 = .ok (.iconst 3, 1) := by decide +kernel
theorem dL_law_832 : decode cL_law 832 = .ok (.iadd, 1) := by decide +kernel
theorem dL_law_833 : decode cL_law 833 = .ok (.iaload, 1) := by decide +kernel
theorem dL_law_834 : decode cL_law 834 = .ok (.aload_n 0, 1) := by decide +kernel
theorem dL_law_835 : decode cL_law 835 = .ok (.iload 4, 2) := by decide +kernel
theorem dL_law_837 : decode cL_law 837 = .ok (.iconst 4, 1) := by decide +kernel
theorem dL_law_838 : decode cL_law 838 = .ok (.iadd, 1) := by decide +kernel
theorem dL_law_839 : decode cL_law 839 = .ok (.iaload, 1) := by decide +kernel
theorem dL_law_840 : decode cL_law 840 = .ok (.invokevirtual 125, 3) := by decide +kernel
theorem dL_law_843 : decode cL_law 843 = .ok (.istore 6, 2) := by decide +kernel
theorem dL_law_845 : decode cL_law 845 = .ok (.aload_n 2, 1) := by decide +kernel
theorem dL_law_846 : decode cL_law 846 = .ok (.invokevirtual 91, 3) := by decide +kernel
theorem dL_law_849 : decode cL_law 849 = .ok (.iload 5, 2) := by decide +kernel
theorem dL_law_851 : decode cL_law 851 = .ok (.if_icmp .eq 5, 3) := by decide +kernel
theorem dL_law_854 : decode cL_law 854 = .ok (.iconst 0, 1) := by decide +kernel
theorem dL_law_855 : decode cL_law 855 = .ok (.ireturn, 1) := by decide +kernel
theorem dL_law_856 : decode cL_law 856 = .ok (.iload 5, 2) := by decide +kernel
theorem dL_law_858 : decode cL_law 858 = .ok (.ifCond .ne 15, 3) := by decide +kernel
theorem dL_law_861 : decode cL_law 861 = .ok (.aload_n 3, 1) := by decide +kernel
theorem dL_law_862 : decode cL_law 862 = .ok (.iconst 0, 1) := by decide +kernel
theorem dL_law_863 : decode cL_law 863 = .ok (.laload, 1) := by decide +kernel
theorem dL_law_864 : decode cL_law 864 = .ok (.iload 6, 2) := by decide +kernel
theorem dL_law_866 : decode cL_law 866 = .ok (.i2l, 1) := by decide +kernel
theorem dL_law_867 : decode cL_law 867 = .ok (.lcmp, 1) := by decide +kernel
theorem dL_law_868 : decode cL_law 868 = .ok (.ifCond .eq 5, 3) := by decide +kernel
theorem dL_law_871 : decode cL_law 871 = .ok (.iconst 0, 1) := by decide +kernel
theorem dL_law_872 : decode cL_law 872 = .ok (.ireturn, 1) := by decide +kernel
theorem dL_law_873 : decode cL_law 873 = .ok (.goto 613, 3) := by decide +kernel
theorem dL_law_876 : decode cL_law 876 = .ok (.aload_n 1, 1) := by decide +kernel
theorem dL_law_877 : decode cL_law 877 = .ok (.invokevirtual 126, 3) := by decide +kernel
theorem dL_law_880 : decode cL_law 880 = .ok (.aload_n 2, 1) := by decide +kernel
theorem dL_law_881 : decode cL_law 881 = .ok (.invokevirtual 129, 3) := by decide +kernel
theorem dL_law_884 : decode cL_law 884 = .ok (.if_icmp .eq 602, 3) := by decide +kernel
theorem dL_law_887 : decode cL_law 887 = .ok (.iconst 0, 1) := by decide +kernel
theorem dL_law_888 : decode cL_law 888 = .ok (.ireturn, 1) := by decide +kernel
theorem dL_law_889 : decode cL_law 889 = .ok (.aload_n 1, 1) := by decide +kernel
theorem dL_law_890 : decode cL_law 890 = .ok (.aload_n 0, 1) := by decide +kernel
theorem dL_law_891 : decode cL_law 891 = .ok (.iload 4, 2) := by decide +kernel
theorem dL_law_893 : decode cL_law 893 = .ok (.iconst 1, 1) := by decide +kernel
theorem dL_law_894 : decode cL_law 894 = .ok (.iadd, 1) := by decide +kernel
theorem dL_law_895 : decode cL_law 895 = .ok (.iaload, 1) := by decide +kernel
theorem dL_law_896 : decode cL_law 896 = .ok (.aload_n 0, 1) := by decide +kernel
theorem dL_law_897 : decode cL_law 897 = .ok (.iload 4, 2) := by decide +kernel
theorem dL_law_899 : decode cL_law 899 = .ok (.iconst 2, 1) := by decide +kernel
theorem dL_law_900 : decode cL_law 900 = .ok (.iadd, 1) := by decide +kernel
theorem dL_law_901 : decode cL_law 901 = .ok (.iaload, 1) := by decide +kernel
theorem dL_law_902 : decode cL_law 902 = .ok (.aload_n 3, 1) := by decide +kernel
theorem dL_law_903 : decode cL_law 903 = .ok (.invokestatic 130, 3) := by decide +kernel
theorem dL_law_906 : decode cL_law 906 = .ok (.istore 5, 2) := by decide +kernel
theorem dL_law_908 : decode cL_law 908 = .ok (.aload_n 2, 1) := by decide +kernel
theorem dL_law_909 : decode cL_law 909 = .ok (.aload_n 0, 1) := by decide +kernel
theorem dL_law_910 : decode cL_law 910 = .ok (.iload 4, 2) := by decide +kernel
theorem dL_law_912 : decode cL_law 912 = .ok (.iconst 1, 1) := by decide +kernel
theorem dL_law_913 : decode cL_law 913 = .ok (.iadd, 1) := by decide +kernel
theorem dL_law_914 : decode cL_law 914 = .ok (.iaload, 1) := by decide +kernel
theorem dL_law_915 : decode cL_law 915 = .ok (.aload_n 0, 1) := by decide +kernel
theorem dL_law_916 : decode cL_law 916 = .ok (.iload 4, 2) := by decide +kernel
theorem dL_law_918 : decode cL_law 918 = .ok (.iconst 2, 1) := by decide +kernel
theorem dL_law_919 : decode cL_law 919 = .ok (.iadd, 1) := by decide +kernel
theorem dL_law_920 : decode cL_law 920 = .ok (.iaload, 1) := by decide +kernel
theorem dL_law_921 : decode cL_law 921 = .ok (.invokevirtual 132, 3) := by decide +kernel
theorem dL_law_924 : decode cL_law 924 = .ok (.istore 6, 2) := by decide +kernel
theorem dL_law_926 : decode cL_law 926 = .ok (.aload_n 2, 1) := by decide +kernel
theorem dL_law_927 : decode cL_law 927 = .ok (.invokevirtual 91, 3) := by decide +kernel
theorem dL_law_930 : decode cL_law 930 = .ok (.iload 5, 2) := by decide +kernel
theorem dL_law_932 : decode cL_law 932 = .ok (.if_icmp .eq 5, 3) := by decide +kernel
theorem dL_law_935 : decode cL_law 935 = .ok (.iconst 0, 1) := by decide +kernel
theorem dL_law_936 : decode cL_law 936 = .ok (.ireturn, 1) := by decide +kernel
theorem dL_law_937 : decode cL_law 937 = .ok (.iload 5, 2) := by decide +kernel
theorem dL_law_939 : decode cL_law 939 = .ok (.ifCond .ne 15, 3) := by decide +kernel
theorem dL_law_942 : decode cL_law 942 = .ok (.aload_n 3, 1) := by decide +kernel
theorem dL_law_943 : decode cL_law 943 = .ok (.iconst 0, 1) := by decide +kernel
theorem dL_law_944 : decode cL_law 944 = .ok (.laload, 1) := by decide +kernel
theorem dL_law_945 : decode cL_law 945 = .ok (.iload 6, 2) := by decide +kernel
theorem dL_law_947 : decode cL_law 947 = .ok (.i2l, 1) := by decide +kernel
theorem dL_law_948 : decode cL_law 948 = .ok (.lcmp, 1) := by decide +kernel
theorem dL_law_949 : decode cL_law 949 = .ok (.ifCond .eq 5, 3) := by decide +kernel
theorem dL_law_952 : decode cL_law 952 = .ok (.iconst 0, 1) := by decide +kernel
theorem dL_law_953 : decode cL_law 953 = .ok (.ireturn, 1) := by decide +kernel
theorem dL_law_954 : decode cL_law 954 = .ok (.goto 532, 3) := by decide +kernel
theorem dL_law_957 : decode cL_law 957 = .ok (.aload_n 1, 1) := by decide +kernel
theorem dL_law_958 : decode cL_law 958 = .ok (.aload_n 0, 1) := by decide +kernel
theorem dL_law_959 : decode cL_law 959 = .ok (.iload 4, 2) := by decide +kernel
theorem dL_law_961 : decode cL_law 961 = .ok (.iconst 1, 1) := by decide +kernel
theorem dL_law_962 : decode cL_law 962 = .ok (.iadd, 1) := by decide +kernel
theorem dL_law_963 : decode cL_law 963 = .ok (.iaload, 1) := by decide +kernel
theorem dL_law_964 : decode cL_law 964 = .ok (.aload_n 0, 1) := by decide +kernel
theorem dL_law_965 : decode cL_law 965 = .ok (.iload 4, 2) := by decide +kernel
theorem dL_law_967 : decode cL_law 967 = .ok (.iconst 2, 1) := by decide +kernel
theorem dL_law_968 : decode cL_law 968 = .ok (.iadd, 1) := by decide +kernel
theorem dL_law_969 : decode cL_law 969 = .ok (.iaload, 1) := by decide +kernel
theorem dL_law_970 : decode cL_law 970 = .ok (.aload_n 3, 1) := by decide +kernel
theorem dL_law_971 : decode cL_law 971 = .ok (.invokestatic 133, 3) := by decide +kernel
theorem dL_law_974 : decode cL_law 974 = .ok (.istore 5, 2) := by decide +kernel
theorem dL_law_976 : decode cL_law 976 = .ok (.aload_n 2, 1) := by decide +kernel
theorem dL_law_977 : decode cL_law 977 = .ok (.aload_n 0, 1) := by decide +kernel
theorem dL_law_978 : decode cL_law 978 = .ok (.iload 4, 2) := by decide +kernel
theorem dL_law_980 : decode cL_law 980 = .ok (.iconst 1, 1) := by decide +kernel
theorem dL_law_981 : decode cL_law 981 = .ok (.iadd, 1) := by decide +kernel
theorem dL_law_982 : decode cL_law 982 = .ok (.iaload, 1) := by decide +kernel
theorem dL_law_983 : decode cL_law 983 = .ok (.aload_n 0, 1) := by decide +kernel
theorem dL_law_984 : decode cL_law 984 = .ok (.iload 4, 2) := by decide +kernel
theorem dL_law_986 : decode cL_law 986 = .ok (.iconst 2, 1) := by decide +kernel
theorem dL_law_987 : decode cL_law 987 = .ok (.iadd, 1) := by decide +kernel
theorem dL_law_988 : decode cL_law 988 = .ok (.iaload, 1) := by decide +kernel
theorem dL_law_989 : decode cL_law 989 = .ok (.invokevirtual 135, 3) := by decide +kernel
theorem dL_law_992 : decode cL_law 992 = .ok (.istore 6, 2) := by decide +kernel
theorem dL_law_994 : decode cL_law 994 = .ok (.aload_n 2, 1) := by decide +kernel
theorem dL_law_995 : decode cL_law 995 = .ok (.invokevirtual 91, 3) := by decide +kernel
theorem dL_law_998 : decode cL_law 998 = .ok (.iload 5, 2) := by decide +kernel
theorem dL_law_1000 : decode cL_law 1000 = .ok (.if_icmp .eq 5, 3) := by decide +kernel
theorem dL_law_1003 : decode cL_law 1003 = .ok (.iconst 0, 1) := by decide +kernel
theorem dL_law_1004 : decode cL_law 1004 = .ok (.ireturn, 1) := by decide +kernel
theorem dL_law_1005 : decode cL_law 1005 = .ok (.iload 5, 2) := by decide +kernel
theorem dL_law_1007 : decode cL_law 1007 = .ok (.ifCond .ne 15, 3) := by decide +kernel
theorem dL_law_1010 : decode cL_law 1010 = .ok (.aload_n 3, 1) := by decide +kernel
theorem dL_law_1011 : decode cL_law 1011 = .ok (.iconst 0, 1) := by decide +kernel
theorem dL_law_1012 : decode cL_law 1012 = .ok (.laload, 1) := by decide +kernel
theorem dL_law_1013 : decode cL_law 1013 = .ok (.iload 6, 2) := by decide +kernel
theorem dL_law_1015 : decode cL_law 1015 = .ok (.i2l, 1) := by decide +kernel
theorem dL_law_1016 : decode cL_law 1016 = .ok (.lcmp, 1) := by decide +kernel
theorem dL_law_1017 : decode cL_law 1017 = .ok (.ifCond .eq 5, 3) := by decide +kernel
theorem dL_law_1020 : decode cL_law 1020 = .ok (.iconst 0, 1) := by decide +kernel
theorem dL_law_1021 : decode cL_law 1021 = .ok (.ireturn, 1) := by decide +kernel
theorem dL_law_1022 : decode cL_law 1022 = .ok (.goto 464, 3) := by decide +kernel
theorem dL_law_1025 : decode cL_law 1025 = .ok (.aload_n 1, 1) := by decide +kernel
theorem dL_law_1026 : decode cL_law 1026 = .ok (.aload_n 0, 1) := by decide +kernel
theorem dL_law_1027 : decode cL_law 1027 = .ok (.iload 4, 2) := by decide +kernel
theorem dL_law_1029 : decode cL_law 1029 = .ok (.iconst 1, 1) := by decide +kernel
theorem dL_law_1030 : decode cL_law 1030 = .ok (.iadd, 1) := by decide +kernel
theorem dL_law_1031 : decode cL_law 1031 = .ok (.iaload, 1) := by decide +kernel
theorem dL_law_1032 : decode cL_law 1032 = .ok (.aload_n 3, 1) := by decide +kernel
theorem dL_law_1033 : decode cL_law 1033 = .ok (.invokestatic 136, 3) := by decide +kernel
theorem dL_law_1036 : decode cL_law 1036 = .ok (.istore 5, 2) := by decide +kernel
theorem dL_law_1038 : decode cL_law 1038 = .ok (.aload_n 2, 1) := by decide +kernel
theorem dL_law_1039 : decode cL_law 1039 = .ok (.aload_n 0, 1) := by decide +kernel
theorem dL_law_1040 : decode cL_law 1040 = .ok (.iload 4, 2) := by decide +kernel
theorem dL_law_1042 : decode cL_law 1042 = .ok (.iconst 1, 1) := by decide +kernel
theorem dL_law_1043 : decode cL_law 1043 = .ok (.iadd, 1) := by decide +kernel
theorem dL_law_1044 : decode cL_law 1044 = .ok (.iaload, 1) := by decide +kernel
theorem dL_law_1045 : decode cL_law 1045 = .ok (.invokevirtual 139, 3) := by decide +kernel
theorem dL_law_1048 : decode cL_law 1048 = .ok (.istore 6, 2) := by decide +kernel
theorem dL_law_1050 : decode cL_law 1050 = .ok (.aload_n 2, 1) := by decide +kernel
theorem dL_law_1051 : decode cL_law 1051 = .ok (.invokevirtual 91, 3) := by decide +kernel
theorem dL_law_1054 : decode cL_law 1054 = .ok (.iload 5, 2) := by decide +kernel
theorem dL_law_1056 : decode cL_law 1056 = .ok (.if_icmp .eq 5, 3) := by decide +kernel
theorem dL_law_1059 : decode cL_law 1059 = .ok (.iconst 0, 1) := by decide +kernel
theorem dL_law_1060 : decode cL_law 1060 = .ok (.ireturn, 1) := by decide +kernel
theorem dL_law_1061 : decode cL_law 1061 = .ok (.iload 5, 2) := by decide +kernel
theorem dL_law_1063 : decode cL_law 1063 = .ok (.ifCond .ne 15, 3) := by decide +kernel
theorem dL_law_1066 : decode cL_law 1066 = .ok (.aload_n 3, 1) := by decide +kernel
theorem dL_law_1067 : decode cL_law 1067 = .ok (.iconst 0, 1) := by decide +kernel
theorem dL_law_1068 : decode cL_law 1068 = .ok (.laload, 1) := by decide +kernel
theorem dL_law_1069 : decode cL_law 1069 = .ok (.iload 6, 2) := by decide +kernel
theorem dL_law_1071 : decode cL_law 1071 = .ok (.i2l, 1) := by decide +kernel
theorem dL_law_1072 : decode cL_law 1072 = .ok (.lcmp, 1) := by decide +kernel
theorem dL_law_1073 : decode cL_law 1073 = .ok (.ifCond .eq 5, 3) := by decide +kernel
theorem dL_law_1076 : decode cL_law 1076 = .ok (.iconst 0, 1) := by decide +kernel
theorem dL_law_1077 : decode cL_law 1077 = .ok (.ireturn, 1) := by decide +kernel
theorem dL_law_1078 : decode cL_law 1078 = .ok (.goto 408, 3) := by decide +kernel
theorem dL_law_1081 : decode cL_law 1081 = .ok (.aload_n 1, 1) := by decide +kernel
theorem dL_law_1082 : decode cL_law 1082 = .ok (.aload_n 0, 1) := by decide +kernel
theorem dL_law_1083 : decode cL_law 1083 = .ok (.iload 4, 2) := by decide +kernel
theorem dL_law_1085 : decode cL_law 1085 = .ok (.iconst 1, 1) := by decide +kernel
theorem dL_law_1086 : decode cL_law 1086 = .ok (.iadd, 1) := by decide +kernel
theorem dL_law_1087 : decode cL_law 1087 = .ok (.iaload, 1) := by decide +kernel
theorem dL_law_1088 : decode cL_law 1088 = .ok (.aload_n 3, 1) := by decide +kernel
theorem dL_law_1089 : decode cL_law 1089 = .ok (.invokestatic 140, 3) := by decide +kernel
theorem dL_law_1092 : decode cL_law 1092 = .ok (.istore 5, 2) := by decide +kernel
theorem dL_law_1094 : decode cL_law 1094 = .ok (.aload_n 2, 1) := by decide +kernel
theorem dL_law_1095 : decode cL_law 1095 = .ok (.aload_n 0, 1) := by decide +kernel
theorem dL_law_1096 : decode cL_law 1096 = .ok (.iload 4, 2) := by decide +kernel
theorem dL_law_1098 : decode cL_law 1098 = .ok (.iconst 1, 1) := by decide +kernel
theorem dL_law_1099 : decode cL_law 1099 = .ok (.iadd, 1) := by decide +kernel
theorem dL_law_1100 : decode cL_law 1100 = .ok (.iaload, 1) := by decide +kernel
theorem dL_law_1101 : decode cL_law 1101 = .ok (.invokevirtual 142, 3) := by decide +kernel
theorem dL_law_1104 : decode cL_law 1104 = .ok (.istore 6, 2) := by decide +kernel
theorem dL_law_1106 : decode cL_law 1106 = .ok (.aload_n 2, 1) := by decide +kernel
theorem dL_law_1107 : decode cL_law 1107 = .ok (.invokevirtual 91, 3) := by decide +kernel
theorem dL_law_1110 : decode cL_law 1110 = .ok (.iload 5, 2) := by decide +kernel
theorem dL_law_1112 : decode cL_law 1112 = .ok (.if_icmp .eq 5, 3) := by decide +kernel
theorem dL_law_1115 : decode cL_law 1115 = .ok (.iconst 0, 1) := by decide +kernel
theorem dL_law_1116 : decode cL_law 1116 = .ok (.ireturn, 1) := by decide +kernel
theorem dL_law_1117 : decode cL_law 1117 = .ok (.iload 5, 2) := by decide +kernel
theorem dL_law_1119 : decode cL_law 1119 = .ok (.ifCond .ne 15, 3) := by decide +kernel
theorem dL_law_1122 : decode cL_law 1122 = .ok (.aload_n 3, 1) := by decide +kernel
theorem dL_law_1123 : decode cL_law 1123 = .ok (.iconst 0, 1) := by decide +kernel
theorem dL_law_1124 : decode cL_law 1124 = .ok (.laload, 1) := by decide +kernel
theorem dL_law_1125 : decode cL_law 1125 = .ok (.iload 6, 2) := by decide +kernel
theorem dL_law_1127 : decode cL_law 1127 = .ok (.i2l, 1) := by decide +kernel
theorem dL_law_1128 : decode cL_law 1128 = .ok (.lcmp, 1) := by decide +kernel
theorem dL_law_1129 : decode cL_law 1129 = .ok (.ifCond .eq 5, 3) := by decide +kernel
theorem dL_law_1132 : decode cL_law 1132 = .ok (.iconst 0, 1) := by decide +kernel
theorem dL_law_1133 : decode cL_law 1133 = .ok (.ireturn, 1) := by decide +kernel
theorem dL_law_1134 : decode cL_law 1134 = .ok (.goto 352, 3) := by decide +kernel
theorem dL_law_1137 : decode cL_law 1137 = .ok (.aload_n 1, 1) := by decide +kernel
theorem dL_law_1138 : decode cL_law 1138 = .ok (.aload_n 0, 1) := by decide +kernel
theorem dL_law_1139 : decode cL_law 1139 = .ok (.iload 4, 2) := by decide +kernel
theorem dL_law_1141 : decode cL_law 1141 = .ok (.iconst 1, 1) := by decide +kernel
theorem dL_law_1142 : decode cL_law 1142 = .ok (.iadd, 1) := by decide +kernel
theorem dL_law_1143 : decode cL_law 1143 = .ok (.iaload, 1) := by decide +kernel
theorem dL_law_1144 : decode cL_law 1144 = .ok (.aload_n 3, 1) := by decide +kernel
theorem dL_law_1145 : decode cL_law 1145 = .ok (.invokestatic 143, 3) := by decide +kernel
theorem dL_law_1148 : decode cL_law 1148 = .ok (.istore 5, 2) := by decide +kernel
theorem dL_law_1150 : decode cL_law 1150 = .ok (.aload_n 2, 1) := by decide +kernel
theorem dL_law_1151 : decode cL_law 1151 = .ok (.aload_n 0, 1) := by decide +kernel
theorem dL_law_1152 : decode cL_law 1152 = .ok (.iload 4, 2) := by decide +kernel
theorem dL_law_1154 : decode cL_law 1154 = .ok (.iconst 1, 1) := by decide +kernel
theorem dL_law_1155 : decode cL_law 1155 = .ok (.iadd, 1) := by decide +kernel
theorem dL_law_1156 : decode cL_law 1156 = .ok (.iaload, 1) := by decide +kernel
theorem dL_law_1157 : decode cL_law 1157 = .ok (.invokevirtual 145, 3) := by decide +kernel
theorem dL_law_1160 : decode cL_law 1160 = .ok (.istore 6, 2) := by decide +kernel
theorem dL_law_1162 : decode cL_law 1162 = .ok (.aload_n 2, 1) := by decide +kernel
theorem dL_law_1163 : decode cL_law 1163 = .ok (.invokevirtual 91, 3) := by decide +kernel
theorem dL_law_1166 : decode cL_law 1166 = .ok (.iload 5, 2) := by decide +kernel
theorem dL_law_1168 : decode cL_law 1168 = .ok (.if_icmp .eq 5, 3) := by decide +kernel
theorem dL_law_1171 : decode cL_law 1171 = .ok (.iconst 0, 1) := by decide +kernel
theorem dL_law_1172 : decode cL_law 1172 = .ok (.ireturn, 1) := by decide +kernel
theorem dL_law_1173 : decode cL_law 1173 = .ok (.iload 5, 2) := by decide +kernel
theorem dL_law_1175 : decode cL_law 1175 = .ok (.ifCond .ne 15, 3) := by decide +kernel
theorem dL_law_1178 : decode cL_law 1178 = .ok (.aload_n 3, 1) := by decide +kernel
theorem dL_law_1179 : decode cL_law 1179 = .ok (.iconst 0, 1) := by decide +kernel
theorem dL_law_1180 : decode cL_law 1180 = .ok (.laload, 1) := by decide +kernel
theorem dL_law_1181 : decode cL_law 1181 = .ok (.iload 6, 2) := by decide +kernel
theorem dL_law_1183 : decode cL_law 1183 = .ok (.i2l, 1) := by decide +kernel
theorem dL_law_1184 : decode cL_law 1184 = .ok (.lcmp, 1) := by decide +kernel
theorem dL_law_1185 : decode cL_law 1185 = .ok (.ifCond .eq 5, 3) := by decide +kernel
theorem dL_law_1188 : decode cL_law 1188 = .ok (.iconst 0, 1) := by decide +kernel
theorem dL_law_1189 : decode cL_law 1189 = .ok (.ireturn, 1) := by decide +kernel
theorem dL_law_1190 : decode cL_law 1190 = .ok (.goto 296, 3) := by decide +kernel
theorem dL_law_1193 : decode cL_law 1193 = .ok (.aload_n 1, 1) := by decide +kernel
theorem dL_law_1194 : decode cL_law 1194 = .ok (.aload_n 0, 1) := by decide +kernel
theorem dL_law_1195 : decode cL_law 1195 = .ok (.iload 4, 2) := by decide +kernel
theorem dL_law_1197 : decode cL_law 1197 = .ok (.iconst 1, 1) := by decide +kernel
theorem dL_law_1198 : decode cL_law 1198 = .ok (.iadd, 1) := by decide +kernel
theorem dL_law_1199 : decode cL_law 1199 = .ok (.iaload, 1) := by decide +kernel
theorem dL_law_1200 : decode cL_law 1200 = .ok (.aload_n 3, 1) := by decide +kernel
theorem dL_law_1201 : decode cL_law 1201 = .ok (.invokestatic 146, 3) := by decide +kernel
theorem dL_law_1204 : decode cL_law 1204 = .ok (.istore 5, 2) := by decide +kernel
theorem dL_law_1206 : decode cL_law 1206 = .ok (.aload_n 2, 1) := by decide +kernel
theorem dL_law_1207 : decode cL_law 1207 = .ok (.aload_n 0, 1) := by decide +kernel
theorem dL_law_1208 : decode cL_law 1208 = .ok (.iload 4, 2) := by decide +kernel
theorem dL_law_1210 : decode cL_law 1210 = .ok (.iconst 1, 1) := by decide +kernel
theorem dL_law_1211 : decode cL_law 1211 = .ok (.iadd, 1) := by decide +kernel
theorem dL_law_1212 : decode cL_law 1212 = .ok (.iaload, 1) := by decide +kernel
theorem dL_law_1213 : decode cL_law 1213 = .ok (.invokevirtual 148, 3) := by decide +kernel
theorem dL_law_1216 : decode cL_law 1216 = .ok (.istore 6, 2) := by decide +kernel
theorem dL_law_1218 : decode cL_law 1218 = .ok (.aload_n 2, 1) := by decide +kernel
theorem dL_law_1219 : decode cL_law 1219 = .ok (.invokevirtual 91, 3) := by decide +kernel
theorem dL_law_1222 : decode cL_law 1222 = .ok (.iload 5, 2) := by decide +kernel
theorem dL_law_1224 : decode cL_law 1224 = .ok (.if_icmp .eq 5, 3) := by decide +kernel
theorem dL_law_1227 : decode cL_law 1227 = .ok (.iconst 0, 1) := by decide +kernel
theorem dL_law_1228 : decode cL_law 1228 = .ok (.ireturn, 1) := by decide +kernel
theorem dL_law_1229 : decode cL_law 1229 = .ok (.iload 5, 2) := by decide +kernel
theorem dL_law_1231 : decode cL_law 1231 = .ok (.ifCond .ne 15, 3) := by decide +kernel
theorem dL_law_1234 : decode cL_law 1234 = .ok (.aload_n 3, 1) := by decide +kernel
theorem dL_law_1235 : decode cL_law 1235 = .ok (.iconst 0, 1) := by decide +kernel
theorem dL_law_1236 : decode cL_law 1236 = .ok (.laload, 1) := by decide +kernel
theorem dL_law_1237 : decode cL_law 1237 = .ok (.iload 6, 2) := by decide +kernel
theorem dL_law_1239 : decode cL_law 1239 = .ok (.i2l, 1) := by decide +kernel
theorem dL_law_1240 : decode cL_law 1240 = .ok (.lcmp, 1) := by decide +kernel
theorem dL_law_1241 : decode cL_law 1241 = .ok (.ifCond .eq 5, 3) := by decide +kernel
theorem dL_law_1244 : decode cL_law 1244 = .ok (.iconst 0, 1) := by decide +kernel
theorem dL_law_1245 : decode cL_law 1245 = .ok (.ireturn, 1) := by decide +kernel
theorem dL_law_1246 : decode cL_law 1246 = .ok (.goto 240, 3) := by decide +kernel
theorem dL_law_1249 : decode cL_law 1249 = .ok (.aload_n 1, 1) := by decide +kernel
theorem dL_law_1250 : decode cL_law 1250 = .ok (.aload_n 0, 1) := by decide +kernel
theorem dL_law_1251 : decode cL_law 1251 = .ok (.iload 4, 2) := by decide +kernel
theorem dL_law_1253 : decode cL_law 1253 = .ok (.iconst 1, 1) := by decide +kernel
theorem dL_law_1254 : decode cL_law 1254 = .ok (.iadd, 1) := by decide +kernel
theorem dL_law_1255 : decode cL_law 1255 = .ok (.iaload, 1) := by decide +kernel
theorem dL_law_1256 : decode cL_law 1256 = .ok (.aload_n 3, 1) := by decide +kernel
theorem dL_law_1257 : decode cL_law 1257 = .ok (.invokestatic 149, 3) := by decide +kernel
theorem dL_law_1260 : decode cL_law 1260 = .ok (.istore 5, 2) := by decide +kernel
theorem dL_law_1262 : decode cL_law 1262 = .ok (.aload_n 2, 1) := by decide +kernel
theorem dL_law_1263 : decode cL_law 1263 = .ok (.aload_n 0, 1) := by decide +kernel
theorem dL_law_1264 : decode cL_law 1264 = .ok (.iload 4, 2) := by decide +kernel
theorem dL_law_1266 : decode cL_law 1266 = .ok (.iconst 1, 1) := by decide +kernel
theorem dL_law_1267 : decode cL_law 1267 = .ok (.iadd, 1) := by decide +kernel
theorem dL_law_1268 : decode cL_law 1268 = .ok (.iaload, 1) := by decide +kernel
theorem dL_law_1269 : decode cL_law 1269 = .ok (.invokevirtual 151, 3) := by decide +kernel
theorem dL_law_1272 : decode cL_law 1272 = .ok (.istore 6, 2) := by decide +kernel
theorem dL_law_1274 : decode cL_law 1274 = .ok (.aload_n 2, 1) := by decide +kernel
theorem dL_law_1275 : decode cL_law 1275 = .ok (.invokevirtual 91, 3) := by decide +kernel
theorem dL_law_1278 : decode cL_law 1278 = .ok (.iload 5, 2) := by decide +kernel
theorem dL_law_1280 : decode cL_law 1280 = .ok (.if_icmp .eq 5, 3) := by decide +kernel
theorem dL_law_1283 : decode cL_law 1283 = .ok (.iconst 0, 1) := by decide +kernel
theorem dL_law_1284 : decode cL_law 1284 = .ok (.ireturn, 1) := by decide +kernel
theorem dL_law_1285 : decode cL_law 1285 = .ok (.iload 5, 2) := by decide +kernel
theorem dL_law_1287 : decode cL_law 1287 = .ok (.ifCond .ne 15, 3) := by decide +kernel
theorem dL_law_1290 : decode cL_law 1290 = .ok (.aload_n 3, 1) := by decide +kernel
theorem dL_law_1291 : decode cL_law 1291 = .ok (.iconst 0, 1) := by decide +kernel
theorem dL_law_1292 : decode cL_law 1292 = .ok (.laload, 1) := by decide +kernel
theorem dL_law_1293 : decode cL_law 1293 = .ok (.iload 6, 2) := by decide +kernel
theorem dL_law_1295 : decode cL_law 1295 = .ok (.i2l, 1) := by decide +kernel
theorem dL_law_1296 : decode cL_law 1296 = .ok (.lcmp, 1) := by decide +kernel
theorem dL_law_1297 : decode cL_law 1297 = .ok (.ifCond .eq 5, 3) := by decide +kernel
theorem dL_law_1300 : decode cL_law 1300 = .ok (.iconst 0, 1) := by decide +kernel
theorem dL_law_1301 : decode cL_law 1301 = .ok (.ireturn, 1) := by decide +kernel
theorem dL_law_1302 : decode cL_law 1302 = .ok (.goto 184, 3) := by decide +kernel
theorem dL_law_1305 : decode cL_law 1305 = .ok (.aload_n 1, 1) := by decide +kernel
theorem dL_law_1306 : decode cL_law 1306 = .ok (.aload_n 0, 1) := by decide +kernel
theorem dL_law_1307 : decode cL_law 1307 = .ok (.iload 4, 2) := by decide +kernel
theorem dL_law_1309 : decode cL_law 1309 = .ok (.iconst 1, 1) := by decide +kernel
theorem dL_law_1310 : decode cL_law 1310 = .ok (.iadd, 1) := by decide +kernel
theorem dL_law_1311 : decode cL_law 1311 = .ok (.iaload, 1) := by decide +kernel
theorem dL_law_1312 : decode cL_law 1312 = .ok (.aload_n 3, 1) := by decide +kernel
theorem dL_law_1313 : decode cL_law 1313 = .ok (.invokestatic 152, 3) := by decide +kernel
theorem dL_law_1316 : decode cL_law 1316 = .ok (.istore 5, 2) := by decide +kernel
theorem dL_law_1318 : decode cL_law 1318 = .ok (.aload_n 2, 1) := by decide +kernel
theorem dL_law_1319 : decode cL_law 1319 = .ok (.aload_n 0, 1) := by decide +kernel
theorem dL_law_1320 : decode cL_law 1320 = .ok (.iload 4, 2) := by decide +kernel
theorem dL_law_1322 : decode cL_law 1322 = .ok (.iconst 1, 1) := by decide +kernel
theorem dL_law_1323 : decode cL_law 1323 = .ok (.iadd, 1) := by decide +kernel
theorem dL_law_1324 : decode cL_law 1324 = .ok (.iaload, 1) := by decide +kernel
theorem dL_law_1325 : decode cL_law 1325 = .ok (.invokevirtual 154, 3) := by decide +kernel
theorem dL_law_1328 : decode cL_law 1328 = .ok (.istore 6, 2) := by decide +kernel
theorem dL_law_1330 : decode cL_law 1330 = .ok (.aload_n 2, 1) := by decide +kernel
theorem dL_law_1331 : decode cL_law 1331 = .ok (.invokevirtual 91, 3) := by decide +kernel
theorem dL_law_1334 : decode cL_law 1334 = .ok (.iload 5, 2) := by decide +kernel
theorem dL_law_1336 : decode cL_law 1336 = .ok (.if_icmp .eq 5, 3) := by decide +kernel
theorem dL_law_1339 : decode cL_law 1339 = .ok (.iconst 0, 1) := by decide +kernel
theorem dL_law_1340 : decode cL_law 1340 = .ok (.ireturn, 1) := by decide +kernel
theorem dL_law_1341 : decode cL_law 1341 = .ok (.iload 5, 2) := by decide +kernel
theorem dL_law_1343 : decode cL_law 1343 = .ok (.ifCond .ne 15, 3) := by decide +kernel
theorem dL_law_1346 : decode cL_law 1346 = .ok (.aload_n 3, 1) := by decide +kernel
theorem dL_law_1347 : decode cL_law 1347 = .ok (.iconst 0, 1) := by decide +kernel
theorem dL_law_1348 : decode cL_law 1348 = .ok (.laload, 1) := by decide +kernel
theorem dL_law_1349 : decode cL_law 1349 = .ok (.iload 6, 2) := by decide +kernel
theorem dL_law_1351 : decode cL_law 1351 = .ok (.i2l, 1) := by decide +kernel
theorem dL_law_1352 : decode cL_law 1352 = .ok (.lcmp, 1) := by decide +kernel
theorem dL_law_1353 : decode cL_law 1353 = .ok (.ifCond .eq 5, 3) := by decide +kernel
theorem dL_law_1356 : decode cL_law 1356 = .ok (.iconst 0, 1) := by decide +kernel
theorem dL_law_1357 : decode cL_law 1357 = .ok (.ireturn, 1) := by decide +kernel
theorem dL_law_1358 : decode cL_law 1358 = .ok (.goto 128, 3) := by decide +kernel
theorem dL_law_1361 : decode cL_law 1361 = .ok (.aload_n 1, 1) := by decide +kernel
theorem dL_law_1362 : decode cL_law 1362 = .ok (.aload_n 0, 1) := by decide +kernel
theorem dL_law_1363 : decode cL_law 1363 = .ok (.iload 4, 2) := by decide +kernel
theorem dL_law_1365 : decode cL_law 1365 = .ok (.iconst 1, 1) := by decide +kernel
theorem dL_law_1366 : decode cL_law 1366 = .ok (.iadd, 1) := by decide +kernel
theorem dL_law_1367 : decode cL_law 1367 = .ok (.iaload, 1) := by decide +kernel
theorem dL_law_1368 : decode cL_law 1368 = .ok (.aload_n 3, 1) := by decide +kernel
theorem dL_law_1369 : decode cL_law 1369 = .ok (.invokestatic 155, 3) := by decide +kernel
theorem dL_law_1372 : decode cL_law 1372 = .ok (.istore 5, 2) := by decide +kernel
theorem dL_law_1374 : decode cL_law 1374 = .ok (.aload_n 2, 1) := by decide +kernel
theorem dL_law_1375 : decode cL_law 1375 = .ok (.aload_n 0, 1) := by decide +kernel
theorem dL_law_1376 : decode cL_law 1376 = .ok (.iload 4, 2) := by decide +kernel
theorem dL_law_1378 : decode cL_law 1378 = .ok (.iconst 1, 1) := by decide +kernel
theorem dL_law_1379 : decode cL_law 1379 = .ok (.iadd, 1) := by decide +kernel
theorem dL_law_1380 : decode cL_law 1380 = .ok (.iaload, 1) := by decide +kernel
theorem dL_law_1381 : decode cL_law 1381 = .ok (.invokevirtual 157, 3) := by decide +kernel
theorem dL_law_1384 : decode cL_law 1384 = .ok (.istore 6, 2) := by decide +kernel
theorem dL_law_1386 : decode cL_law 1386 = .ok (.aload_n 2, 1) := by decide +kernel
theorem dL_law_1387 : decode cL_law 1387 = .ok (.invokevirtual 91, 3) := by decide +kernel
theorem dL_law_1390 : decode cL_law 1390 = .ok (.iload 5, 2) := by decide +kernel
theorem dL_law_1392 : decode cL_law 1392 = .ok (.if_icmp .eq 5, 3) := by decide +kernel
theorem dL_law_1395 : decode cL_law 1395 = .ok (.iconst 0, 1) := by decide +kernel
theorem dL_law_1396 : decode cL_law 1396 = .ok (.ireturn, 1) := by decide +kernel
theorem dL_law_1397 : decode cL_law 1397 = .ok (.iload 5, 2) := by decide +kernel
theorem dL_law_1399 : decode cL_law 1399 = .ok (.ifCond .ne 15, 3) := by decide +kernel
theorem dL_law_1402 : decode cL_law 1402 = .ok (.aload_n 3, 1) := by decide +kernel
theorem dL_law_1403 : decode cL_law 1403 = .ok (.iconst 0, 1) := by decide +kernel
theorem dL_law_1404 : decode cL_law 1404 = .ok (.laload, 1) := by decide +kernel
theorem dL_law_1405 : decode cL_law 1405 = .ok (.iload 6, 2) := by decide +kernel
theorem dL_law_1407 : decode cL_law 1407 = .ok (.i2l, 1) := by decide +kernel
theorem dL_law_1408 : decode cL_law 1408 = .ok (.lcmp, 1) := by decide +kernel
theorem dL_law_1409 : decode cL_law 1409 = .ok (.ifCond .eq 5, 3) := by decide +kernel
theorem dL_law_1412 : decode cL_law 1412 = .ok (.iconst 0, 1) := by decide +kernel
theorem dL_law_1413 : decode cL_law 1413 = .ok (.ireturn, 1) := by decide +kernel
theorem dL_law_1414 : decode cL_law 1414 = .ok (.goto 72, 3) := by decide +kernel
theorem dL_law_1417 : decode cL_law 1417 = .ok (.aload_n 1, 1) := by decide +kernel
theorem dL_law_1418 : decode cL_law 1418 = .ok (.aload_n 0, 1) := by decide +kernel
theorem dL_law_1419 : decode cL_law 1419 = .ok (.iload 4, 2) := by decide +kernel
theorem dL_law_1421 : decode cL_law 1421 = .ok (.iconst 1, 1) := by decide +kernel
theorem dL_law_1422 : decode cL_law 1422 = .ok (.iadd, 1) := by decide +kernel
theorem dL_law_1423 : decode cL_law 1423 = .ok (.iaload, 1) := by decide +kernel
theorem dL_law_1424 : decode cL_law 1424 = .ok (.aload_n 3, 1) := by decide +kernel
theorem dL_law_1425 : decode cL_law 1425 = .ok (.invokestatic 158, 3) := by decide +kernel
theorem dL_law_1428 : decode cL_law 1428 = .ok (.istore 5, 2) := by decide +kernel
theorem dL_law_1430 : decode cL_law 1430 = .ok (.aload_n 2, 1) := by decide +kernel
theorem dL_law_1431 : decode cL_law 1431 = .ok (.aload_n 0, 1) := by decide +kernel
theorem dL_law_1432 : decode cL_law 1432 = .ok (.iload 4, 2) := by decide +kernel
theorem dL_law_1434 : decode cL_law 1434 = .ok (.iconst 1, 1) := by decide +kernel
theorem dL_law_1435 : decode cL_law 1435 = .ok (.iadd, 1) := by decide +kernel
theorem dL_law_1436 : decode cL_law 1436 = .ok (.iaload, 1) := by decide +kernel
theorem dL_law_1437 : decode cL_law 1437 = .ok (.invokevirtual 160, 3) := by decide +kernel
theorem dL_law_1440 : decode cL_law 1440 = .ok (.istore 6, 2) := by decide +kernel
theorem dL_law_1442 : decode cL_law 1442 = .ok (.aload_n 2, 1) := by decide +kernel
theorem dL_law_1443 : decode cL_law 1443 = .ok (.invokevirtual 91, 3) := by decide +kernel
theorem dL_law_1446 : decode cL_law 1446 = .ok (.iload 5, 2) := by decide +kernel
theorem dL_law_1448 : decode cL_law 1448 = .ok (.if_icmp .eq 5, 3) := by decide +kernel
theorem dL_law_1451 : decode cL_law 1451 = .ok (.iconst 0, 1) := by decide +kernel
theorem dL_law_1452 : decode cL_law 1452 = .ok (.ireturn, 1) := by decide +kernel
theorem dL_law_1453 : decode cL_law 1453 = .ok (.iload 5, 2) := by decide +kernel
theorem dL_law_1455 : decode cL_law 1455 = .ok (.ifCond .ne 15, 3) := by decide +kernel
theorem dL_law_1458 : decode cL_law 1458 = .ok (.aload_n 3, 1) := by decide +kernel
theorem dL_law_1459 : decode cL_law 1459 = .ok (.iconst 0, 1) := by decide +kernel
theorem dL_law_1460 : decode cL_law 1460 = .ok (.laload, 1) := by decide +kernel
theorem dL_law_1461 : decode cL_law 1461 = .ok (.iload 6, 2) := by decide +kernel
theorem dL_law_1463 : decode cL_law 1463 = .ok (.i2l, 1) := by decide +kernel
theorem dL_law_1464 : decode cL_law 1464 = .ok (.lcmp, 1) := by decide +kernel
theorem dL_law_1465 : decode cL_law 1465 = .ok (.ifCond .eq 5, 3) := by decide +kernel
theorem dL_law_1468 : decode cL_law 1468 = .ok (.iconst 0, 1) := by decide +kernel
theorem dL_law_1469 : decode cL_law 1469 = .ok (.ireturn, 1) := by decide +kernel
theorem dL_law_1470 : decode cL_law 1470 = .ok (.goto 16, 3) := by decide +kernel
theorem dL_law_1473 : decode cL_law 1473 = .ok (.aload_n 1, 1) := by decide +kernel
theorem dL_law_1474 : decode cL_law 1474 = .ok (.invokevirtual 161, 3) := by decide +kernel
theorem dL_law_1477 : decode cL_law 1477 = .ok (.aload_n 2, 1) := by decide +kernel
theorem dL_law_1478 : decode cL_law 1478 = .ok (.invokevirtual 164, 3) := by decide +kernel
theorem dL_law_1481 : decode cL_law 1481 = .ok (.if_icmp .eq 5, 3) := by decide +kernel
theorem dL_law_1484 : decode cL_law 1484 = .ok (.iconst 0, 1) := by decide +kernel
theorem dL_law_1485 : decode cL_law 1485 = .ok (.ireturn, 1) := by decide +kernel
theorem dL_law_1486 : decode cL_law 1486 = .ok (.iinc 4 5, 3) := by decide +kernel
theorem dL_law_1489 : decode cL_law 1489 = .ok (.goto (-1466), 3) := by decide +kernel
theorem dL_law_1492 : decode cL_law 1492 = .ok (.iconst 1, 1) := by decide +kernel
theorem dL_law_1493 : decode cL_law 1493 = .ok (.ireturn, 1) := by decide +kernel
abbrev vwCl : List vw_C := [(RJx4a65c, TJx4a65c, 3), (RX0, TX0, 3), (RX1, TX1, 5), (RX2, TX2, 8), (RX3, TX3, 2), (RX4, TX4, 16)]
end
section
theorem zz_last : True := trivial
end
