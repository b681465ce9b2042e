section
-- ===== PART A: goes FIRST, ahead of the names: the tables' words, and 'selects' of the private methods out of them =====
/-- a private method of a class that the tables say can be made, by its rows of tables_1 -/
def lw_okq (q : MethodName × Nat) : Prop := (q.1.cls ≠ "java/lang/invoke/MethodHandle" ∧ q.1.cls ≠ "java/lang/invoke/VarHandle") ∧ Cond.instantiable q.1.cls q.2 ∈ tables_1 ∧ Cond.privateMethod q.1 ∈ tables_1 ∧ Cond.instanceMethod q.1 ∈ tables_1
theorem lw_p0 : lw_okq (⟨"java/lang/Throwable", "fillInStackTrace", "(I)Ljava/lang/Throwable;"⟩, 6) := ⟨⟨by decide +kernel, by decide +kernel⟩, List.mem_of_getElem? (i := 85) (by decide +kernel), List.mem_of_getElem? (i := 83) (by decide +kernel), List.mem_of_getElem? (i := 84) (by decide +kernel)⟩
theorem lw_p1 : lw_okq (⟨"WordMill", "store", "(IJ)V"⟩, 5) := ⟨⟨by decide +kernel, by decide +kernel⟩, List.mem_of_getElem? (i := 9) (by decide +kernel), List.mem_of_getElem? (i := 110) (by decide +kernel), List.mem_of_getElem? (i := 111) (by decide +kernel)⟩
theorem lw_p2 : lw_okq (⟨"WordMill", "step", "()I"⟩, 5) := ⟨⟨by decide +kernel, by decide +kernel⟩, List.mem_of_getElem? (i := 9) (by decide +kernel), List.mem_of_getElem? (i := 144) (by decide +kernel), List.mem_of_getElem? (i := 145) (by decide +kernel)⟩
theorem lw_p3 : lw_okq (⟨"WordMill", "effective", "(J)I"⟩, 5) := ⟨⟨by decide +kernel, by decide +kernel⟩, List.mem_of_getElem? (i := 9) (by decide +kernel), List.mem_of_getElem? (i := 148) (by decide +kernel), List.mem_of_getElem? (i := 149) (by decide +kernel)⟩
theorem lw_p4 : lw_okq (⟨"WordMill", "indexed", "(J)I"⟩, 5) := ⟨⟨by decide +kernel, by decide +kernel⟩, List.mem_of_getElem? (i := 9) (by decide +kernel), List.mem_of_getElem? (i := 152) (by decide +kernel), List.mem_of_getElem? (i := 153) (by decide +kernel)⟩
theorem lw_p5 : lw_okq (⟨"WordMill", "perform", "(III)I"⟩, 5) := ⟨⟨by decide +kernel, by decide +kernel⟩, List.mem_of_getElem? (i := 9) (by decide +kernel), List.mem_of_getElem? (i := 162) (by decide +kernel), List.mem_of_getElem? (i := 163) (by decide +kernel)⟩
theorem lw_p6 : lw_okq (⟨"WordMill", "combine", "(IIJ)I"⟩, 5) := ⟨⟨by decide +kernel, by decide +kernel⟩, List.mem_of_getElem? (i := 9) (by decide +kernel), List.mem_of_getElem? (i := 166) (by decide +kernel), List.mem_of_getElem? (i := 167) (by decide +kernel)⟩
theorem lw_p7 : lw_okq (⟨"WordMill", "divide", "(IJ)I"⟩, 5) := ⟨⟨by decide +kernel, by decide +kernel⟩, List.mem_of_getElem? (i := 9) (by decide +kernel), List.mem_of_getElem? (i := 193) (by decide +kernel), List.mem_of_getElem? (i := 194) (by decide +kernel)⟩
theorem lw_p8 : lw_okq (⟨"WordMill", "jump", "(I)I"⟩, 5) := ⟨⟨by decide +kernel, by decide +kernel⟩, List.mem_of_getElem? (i := 9) (by decide +kernel), List.mem_of_getElem? (i := 198) (by decide +kernel), List.mem_of_getElem? (i := 199) (by decide +kernel)⟩
theorem lw_p9 : lw_okq (⟨"WordMill", "pushNextPlace", "(II)I"⟩, 5) := ⟨⟨by decide +kernel, by decide +kernel⟩, List.mem_of_getElem? (i := 9) (by decide +kernel), List.mem_of_getElem? (i := 202) (by decide +kernel), List.mem_of_getElem? (i := 203) (by decide +kernel)⟩
theorem lw_p10 : lw_okq (⟨"WordMill", "push", "(IJ)I"⟩, 5) := ⟨⟨by decide +kernel, by decide +kernel⟩, List.mem_of_getElem? (i := 9) (by decide +kernel), List.mem_of_getElem? (i := 206) (by decide +kernel), List.mem_of_getElem? (i := 207) (by decide +kernel)⟩
theorem lw_p11 : lw_okq (⟨"WordMill", "moveTop", "(II)V"⟩, 5) := ⟨⟨by decide +kernel, by decide +kernel⟩, List.mem_of_getElem? (i := 9) (by decide +kernel), List.mem_of_getElem? (i := 210) (by decide +kernel), List.mem_of_getElem? (i := 211) (by decide +kernel)⟩
theorem lw_p12 : lw_okq (⟨"WordMill", "popToPc", "(I)I"⟩, 5) := ⟨⟨by decide +kernel, by decide +kernel⟩, List.mem_of_getElem? (i := 9) (by decide +kernel), List.mem_of_getElem? (i := 214) (by decide +kernel), List.mem_of_getElem? (i := 215) (by decide +kernel)⟩
theorem lw_p13 : lw_okq (⟨"WordMill", "performOnMemory", "(III)I"⟩, 5) := ⟨⟨by decide +kernel, by decide +kernel⟩, List.mem_of_getElem? (i := 9) (by decide +kernel), List.mem_of_getElem? (i := 218) (by decide +kernel), List.mem_of_getElem? (i := 219) (by decide +kernel)⟩
theorem lw_p14 : lw_okq (⟨"WordMill", "exchange", "(II)I"⟩, 5) := ⟨⟨by decide +kernel, by decide +kernel⟩, List.mem_of_getElem? (i := 9) (by decide +kernel), List.mem_of_getElem? (i := 222) (by decide +kernel), List.mem_of_getElem? (i := 223) (by decide +kernel)⟩
theorem lw_p15 : lw_okq (⟨"WordMill", "popToMemory", "(II)I"⟩, 5) := ⟨⟨by decide +kernel, by decide +kernel⟩, List.mem_of_getElem? (i := 9) (by decide +kernel), List.mem_of_getElem? (i := 226) (by decide +kernel), List.mem_of_getElem? (i := 227) (by decide +kernel)⟩
def lw_privs_1 : List (MethodName × Nat) := [(⟨"java/lang/Throwable", "fillInStackTrace", "(I)Ljava/lang/Throwable;"⟩, 6), (⟨"WordMill", "store", "(IJ)V"⟩, 5), (⟨"WordMill", "step", "()I"⟩, 5), (⟨"WordMill", "effective", "(J)I"⟩, 5), (⟨"WordMill", "indexed", "(J)I"⟩, 5), (⟨"WordMill", "perform", "(III)I"⟩, 5), (⟨"WordMill", "combine", "(IIJ)I"⟩, 5), (⟨"WordMill", "divide", "(IJ)I"⟩, 5), (⟨"WordMill", "jump", "(I)I"⟩, 5), (⟨"WordMill", "pushNextPlace", "(II)I"⟩, 5), (⟨"WordMill", "push", "(IJ)I"⟩, 5), (⟨"WordMill", "moveTop", "(II)V"⟩, 5), (⟨"WordMill", "popToPc", "(I)I"⟩, 5), (⟨"WordMill", "performOnMemory", "(III)I"⟩, 5), (⟨"WordMill", "exchange", "(II)I"⟩, 5), (⟨"WordMill", "popToMemory", "(II)I"⟩, 5)]
theorem lw_r1 : ∀ q ∈ lw_privs_1, lw_okq q := List.forall_mem_cons.mpr ⟨lw_p0, List.forall_mem_cons.mpr ⟨lw_p1, List.forall_mem_cons.mpr ⟨lw_p2, List.forall_mem_cons.mpr ⟨lw_p3, List.forall_mem_cons.mpr ⟨lw_p4, List.forall_mem_cons.mpr ⟨lw_p5, List.forall_mem_cons.mpr ⟨lw_p6, List.forall_mem_cons.mpr ⟨lw_p7, List.forall_mem_cons.mpr ⟨lw_p8, List.forall_mem_cons.mpr ⟨lw_p9, List.forall_mem_cons.mpr ⟨lw_p10, List.forall_mem_cons.mpr ⟨lw_p11, List.forall_mem_cons.mpr ⟨lw_p12, List.forall_mem_cons.mpr ⟨lw_p13, List.forall_mem_cons.mpr ⟨lw_p14, List.forall_mem_cons.mpr ⟨lw_p15, fun _ h => absurd h List.not_mem_nil⟩⟩⟩⟩⟩⟩⟩⟩⟩⟩⟩⟩⟩⟩⟩⟩
theorem lw_p16 : lw_okq (⟨"WordMill", "leaveNextPlaceAndJump", "(I)I"⟩, 5) := ⟨⟨by decide +kernel, by decide +kernel⟩, List.mem_of_getElem? (i := 9) (by decide +kernel), List.mem_of_getElem? (i := 230) (by decide +kernel), List.mem_of_getElem? (i := 231) (by decide +kernel)⟩
theorem lw_p17 : lw_okq (⟨"WordMill", "test", "(III)I"⟩, 5) := ⟨⟨by decide +kernel, by decide +kernel⟩, List.mem_of_getElem? (i := 9) (by decide +kernel), List.mem_of_getElem? (i := 237) (by decide +kernel), List.mem_of_getElem? (i := 238) (by decide +kernel)⟩
theorem lw_p18 : lw_okq (⟨"WordMill", "skipIf", "(Z)I"⟩, 5) := ⟨⟨by decide +kernel, by decide +kernel⟩, List.mem_of_getElem? (i := 9) (by decide +kernel), List.mem_of_getElem? (i := 244) (by decide +kernel), List.mem_of_getElem? (i := 245) (by decide +kernel)⟩
theorem lw_p19 : lw_okq (⟨"WordMill", "changeAndJump", "(IIII)I"⟩, 5) := ⟨⟨by decide +kernel, by decide +kernel⟩, List.mem_of_getElem? (i := 9) (by decide +kernel), List.mem_of_getElem? (i := 248) (by decide +kernel), List.mem_of_getElem? (i := 249) (by decide +kernel)⟩
theorem lw_p20 : lw_okq (⟨"WordMill", "changeAndSkip", "(IIII)I"⟩, 5) := ⟨⟨by decide +kernel, by decide +kernel⟩, List.mem_of_getElem? (i := 9) (by decide +kernel), List.mem_of_getElem? (i := 252) (by decide +kernel), List.mem_of_getElem? (i := 253) (by decide +kernel)⟩
theorem lw_p21 : lw_okq (⟨"WordMillModel", "bad", "(Z)Z"⟩, 6) := ⟨⟨by decide +kernel, by decide +kernel⟩, List.mem_of_getElem? (i := 257) (by decide +kernel), List.mem_of_getElem? (i := 294) (by decide +kernel), List.mem_of_getElem? (i := 295) (by decide +kernel)⟩
theorem lw_p22 : lw_okq (⟨"WordMillModel", "effective", "(J)J"⟩, 6) := ⟨⟨by decide +kernel, by decide +kernel⟩, List.mem_of_getElem? (i := 257) (by decide +kernel), List.mem_of_getElem? (i := 321) (by decide +kernel), List.mem_of_getElem? (i := 322) (by decide +kernel)⟩
theorem lw_p23 : lw_okq (⟨"WordMillModel", "at", "(J)J"⟩, 6) := ⟨⟨by decide +kernel, by decide +kernel⟩, List.mem_of_getElem? (i := 257) (by decide +kernel), List.mem_of_getElem? (i := 325) (by decide +kernel), List.mem_of_getElem? (i := 326) (by decide +kernel)⟩
theorem lw_p24 : lw_okq (⟨"WordMillModel", "one", "(IIJ)V"⟩, 6) := ⟨⟨by decide +kernel, by decide +kernel⟩, List.mem_of_getElem? (i := 257) (by decide +kernel), List.mem_of_getElem? (i := 329) (by decide +kernel), List.mem_of_getElem? (i := 330) (by decide +kernel)⟩
theorem lw_p25 : lw_okq (⟨"WordMillModel", "tested", "(IIJJI)I"⟩, 6) := ⟨⟨by decide +kernel, by decide +kernel⟩, List.mem_of_getElem? (i := 257) (by decide +kernel), List.mem_of_getElem? (i := 336) (by decide +kernel), List.mem_of_getElem? (i := 337) (by decide +kernel)⟩
theorem lw_p26 : lw_okq (⟨"WordMillModel", "piled", "(IIJJI)I"⟩, 6) := ⟨⟨by decide +kernel, by decide +kernel⟩, List.mem_of_getElem? (i := 257) (by decide +kernel), List.mem_of_getElem? (i := 347) (by decide +kernel), List.mem_of_getElem? (i := 348) (by decide +kernel)⟩
theorem lw_p27 : lw_okq (⟨"WordMillModel", "moved", "(IIJJ)V"⟩, 6) := ⟨⟨by decide +kernel, by decide +kernel⟩, List.mem_of_getElem? (i := 257) (by decide +kernel), List.mem_of_getElem? (i := 355) (by decide +kernel), List.mem_of_getElem? (i := 356) (by decide +kernel)⟩
theorem lw_p28 : lw_okq (⟨"WordMillModel", "divided", "(IJJ)V"⟩, 6) := ⟨⟨by decide +kernel, by decide +kernel⟩, List.mem_of_getElem? (i := 257) (by decide +kernel), List.mem_of_getElem? (i := 359) (by decide +kernel), List.mem_of_getElem? (i := 360) (by decide +kernel)⟩
theorem lw_p29 : lw_okq (⟨"WordMillModel", "bits", "(IIJJ)V"⟩, 6) := ⟨⟨by decide +kernel, by decide +kernel⟩, List.mem_of_getElem? (i := 257) (by decide +kernel), List.mem_of_getElem? (i := 367) (by decide +kernel), List.mem_of_getElem? (i := 368) (by decide +kernel)⟩
def lw_privs_2 : List (MethodName × Nat) := [(⟨"WordMill", "leaveNextPlaceAndJump", "(I)I"⟩, 5), (⟨"WordMill", "test", "(III)I"⟩, 5), (⟨"WordMill", "skipIf", "(Z)I"⟩, 5), (⟨"WordMill", "changeAndJump", "(IIII)I"⟩, 5), (⟨"WordMill", "changeAndSkip", "(IIII)I"⟩, 5), (⟨"WordMillModel", "bad", "(Z)Z"⟩, 6), (⟨"WordMillModel", "effective", "(J)J"⟩, 6), (⟨"WordMillModel", "at", "(J)J"⟩, 6), (⟨"WordMillModel", "one", "(IIJ)V"⟩, 6), (⟨"WordMillModel", "tested", "(IIJJI)I"⟩, 6), (⟨"WordMillModel", "piled", "(IIJJI)I"⟩, 6), (⟨"WordMillModel", "moved", "(IIJJ)V"⟩, 6), (⟨"WordMillModel", "divided", "(IJJ)V"⟩, 6), (⟨"WordMillModel", "bits", "(IIJJ)V"⟩, 6)]
theorem lw_r2 : ∀ q ∈ lw_privs_2, lw_okq q := List.forall_mem_cons.mpr ⟨lw_p16, List.forall_mem_cons.mpr ⟨lw_p17, List.forall_mem_cons.mpr ⟨lw_p18, List.forall_mem_cons.mpr ⟨lw_p19, List.forall_mem_cons.mpr ⟨lw_p20, List.forall_mem_cons.mpr ⟨lw_p21, List.forall_mem_cons.mpr ⟨lw_p22, List.forall_mem_cons.mpr ⟨lw_p23, List.forall_mem_cons.mpr ⟨lw_p24, List.forall_mem_cons.mpr ⟨lw_p25, List.forall_mem_cons.mpr ⟨lw_p26, List.forall_mem_cons.mpr ⟨lw_p27, List.forall_mem_cons.mpr ⟨lw_p28, List.forall_mem_cons.mpr ⟨lw_p29, fun _ h => absurd h List.not_mem_nil⟩⟩⟩⟩⟩⟩⟩⟩⟩⟩⟩⟩⟩⟩
def lw_privs : List (MethodName × Nat) := lw_privs_1 ++ (lw_privs_2)
def lw_tbl : List Cond := k2_sels lw_privs ++ tables_1
theorem lw_privs_ok : ∀ q ∈ lw_privs, lw_okq q := by
  show ∀ q ∈ lw_privs_1 ++ (lw_privs_2), lw_okq q
  exact List.forall_mem_append.mpr ⟨lw_r1, lw_r2⟩
end
section
/-! ===== BEGIN words of one list among another's, by their places ===== -/
theorem goodIn_r {big : List Cond} (ws : List Cond) (ps : List Nat) (hp : ws = ps.filterMap (fun i => big[i]?)) (h : ws.all goodWord = true) : GoodIn big ws := by
  intro w hw
  have h1 := List.all_eq_true.mp h w hw
  rw [hp] at hw
  obtain ⟨i, -, hi⟩ := List.mem_filterMap.mp hw
  have hm : w ∈ big := by first | exact List.mem_of_getElem? hi | exact List.getElem?_mem hi
  exact ⟨hm, good_of_word h1⟩
theorem goodIn_app {big a b : List Cond} (ha : GoodIn big a) (hb : GoodIn big b) : GoodIn big (a ++ b) := fun w h => (List.mem_append.mp h).elim (ha w) (hb w)
theorem goodIn_ca {big a b : List Cond} {c : Cond} (ha : GoodIn big (c :: a)) (hb : GoodIn big b) : GoodIn big (c :: (a ++ b)) := fun w h => (List.mem_cons.mp h).elim (fun e => ha w (List.mem_cons.mpr (Or.inl e))) (fun h => (List.mem_append.mp h).elim (fun h => ha w (List.mem_cons.mpr (Or.inr h))) (hb w))
theorem goodIn_sub {big ws : List Cond} (hm : ∀ w ∈ ws, w ∈ big) (h : ws.all goodWord = true) : GoodIn big ws := fun w hw => ⟨hm w hw, good_of_word (List.all_eq_true.mp h w hw)⟩
/-! ===== END ===== -/

/-! ===== BEGIN exceptions that leave a method, and their catching by the caller (launches without stack traces) ===== -/
section VXA
/-! The laws vx_back, vx_callV, vx_callS, vx_callSW, vx_throw0, vx_throwS follow proofs of the library, with one case more: JvmDerived/Free/Laws.lean (Back.of_free), Shelf42/LK1.lean (callV, callS), Shelf/KitTraced.lean (throwNew0V, throwNewS). -/
/-- where a method has thrown q: the class by its name, the cell, what was written, the world -/
def vx_T (XC : String → State → State → Prop) (st : State) (q : Addr) (t : State) (mc ms : Nat) (free : Addr → Prop) : Prop :=
  ∃ (E : String) (ce : Cell) (L : List Loc), XC E st t ∧ t.heap[q]? = some ce ∧ ce.vm = .none ∧ st.vm.findClass E = some ce.cls ∧ st.WarmedH t.vm ∧ st.sameButNew ({ t with vm := st.vm } : State) L mc ms ∧ ∀ z ∈ L, free z.base
def vx_Q (Qc : Array Value → State → Outcome → State → Prop) (XC : String → State → State → Prop) (mc ms : Nat) (free : Addr → Prop) : Array Value → State → Outcome → State → Prop := fun a st o t =>
  (Qc a st o t ∧ ∃ L, FrameEnd st o t L mc ms ∧ ∀ q ∈ L, free q.base) ∨ ∃ q, o = .threw q ∧ vx_T XC st q t mc ms free
/-- a callee that returns or throws -/
def vx_Met (l : Launch) (y : MethodName) (ws : List Cond) (rm : Room) (Pc : Array Value → State → Prop) (Qc : Array Value → State → Outcome → State → Prop) (XC : String → State → State → Prop) (mc ms : Nat) (free : Addr → Prop) : Prop :=
  MetFree l y (headSpec ws rm) Pc (fun _ _ _ _ _ => True) (vx_Q Qc XC mc ms free)
def vx_Post (XC : String → State → State → Prop) (mc ms : Nat) (free : Addr → Prop) : Pt → Array Value → Addr → Pt → Prop := fun A a q B =>
  ∃ (g : JFrame) (mk : MethodId) (t : State) (L : List Loc) (E : String) (ce : Cell), B.U.heap = t.heap ∧ B.U.vm = t.vm ∧ XC E (A.U.calling g mk a) t ∧ t.heap[q]? = some ce ∧ ce.vm = .none ∧ A.U.vm.findClass E = some ce.cls ∧ B.locs = A.locs ++ L ∧ (∀ z ∈ L, free z.base) ∧ B.cells = A.cells + mc ∧ B.slots = A.slots + ms
def vx_Back (l : Launch) (R : Room) (p : Program) (e : Env) (below : List Frame) (s : State) (sargs : Array Value) (y : MethodName) (len W9 : Nat)
    (Pre : Pt → Array Value → Prop) (Post : Pt → Array Value → Option Value → Pt → Prop) (PostX : Pt → Array Value → Addr → Pt → Prop) : Prop :=
  ∀ (m : MethodId) (meth : Method) (c : Code) (A : Pt) (g : JFrame) (ig : Instr) (mk : MethodId) (a : Array Value),
    Stand p l e R s m sargs below meth c A.U A.locs A.cells A.slots → g.method = m → g.locals.size = c.maxLocals → decode c.code g.pc = .ok (ig, len) →
    2 * g.monitorRoom + (g.stack.map fun v => v.category).sum ≤ W9 → A.U.methodNamed? y = some mk → Pre A a →
    (∃ (v : Option Value) (B : Pt), Stand p l e R s m sargs below meth c B.U B.locs B.cells B.slots ∧ Post A a v B ∧
      Steps p.tables e below (doInvoke e (A.U.setTop g) [] mk a).1 (B.U.setTop { g with pc := g.pc + len, stack := v.toList ++ g.stack })) ∨
    (∃ (q : Addr) (B : Pt), Stand p l e R s m sargs below meth c B.U B.locs B.cells B.slots ∧ PostX A a q B ∧
      Steps p.tables e below (doInvoke e (A.U.setTop g) [] mk a).1 ((B.U.setTop g).pushFrame (.throwing q)))
section Payer
variable {l : Launch} {R : Room} {p : Program} {e : Env} {below : List Frame} {s : State} {sargs : Array Value} {y : MethodName} {len W9 : Nat}
theorem vx_back {ws : List Cond} {rm : Room} {Pc : Array Value → State → Prop} {Qc : Array Value → State → Outcome → State → Prop} {XC : String → State → State → Prop} {mc ms : Nat} {free : Addr → Prop} {bytes : ByteArray} {maxL : Nat} {ret : Option FieldType}
    (hM : vx_Met l y ws rm Pc Qc XC mc ms free) (hblind : FrameBlind Pc) (hrc : rm.cells = mc) (hrs : rm.slots = ms)
    (hframes : rm.frames + 1 ≤ R.frames) (hlocals : W9 + (maxL + 11) + rm.locals ≤ R.locals)
    (hws : ∀ w ∈ ws, ∀ a' U, s.WarmedH U.vm → w.before a' U = true) (hcode : Cond.code y bytes maxL ret ∈ ws) (hinit : ∀ a' U, s.WarmedH U.vm → (Cond.initialized y.cls).before a' U = true) :
    vx_Back l R p e below s sargs y len W9 (PreOf R mc ms Pc) (PostOf Qc mc ms free) (vx_Post XC mc ms free) := by
  intro m meth c A g ig mk a X hg hsize hdg hW hn hp
  have h1 : (headSpec ws rm).pre.before a A.U = true := atoms_intro fun w hw => hws w hw _ _ X.warmed
  have h2 : (Cond.code y bytes maxL ret).before a A.U = true := hws _ hcode _ _ X.warmed
  have h3 : (Cond.initialized y.cls).before a A.U = true := hinit _ _ X.warmed
  have h4 : A.cells + (headSpec ws rm).room.cells ≤ R.cells := by rw [show (headSpec ws rm).room.cells = mc from hrc]; exact hp.1
  have h5 : A.slots + (headSpec ws rm).room.slots ≤ R.slots := by rw [show (headSpec ws rm).room.slots = ms from hrs]; exact hp.2.1
  have hPc : Pc a (A.U.calling g mk a) := hblind _ _ _ _ hp.2.2
  obtain ⟨U, Ls, c0, s0⟩ := A
  dsimp only [Pt.U, Pt.locs, Pt.cells, Pt.slots] at h1 h2 h3 h4 h5 X hn hPc ⊢
  obtain ⟨methY, cY, hmY, hcY, -, hlY, -, -, -, -⟩ := Cond.code_spec hn h2
  obtain ⟨kY, hkY, -⟩ := className_of_methodNamed hn
  have hinitY : kY.init = .initialized := Cond.initialized_spec (findClass_of_methodNamed hn) hkY h3
  have h : At U g.method c below := by rw [hg]; exact X.here
  have hlocals9 : W9 + (maxL + 11) + (headSpec ws rm).room.locals ≤ R.locals := hlocals
  have happ : (headSpec ws rm).appliesLoose y e.platform (U.calling g mk a) = true :=
    Spec.appliesLoose_calling (g := g) h hdg hn hkY hinitY
      (X.room_calling (g := g) (R' := (headSpec ws rm).room) hsize hmY hcY hframes (by rw [hlY]; omega) h4 h5) h1
  obtain ⟨mid, hmid⟩ := h.above
  have hfr : (U.setTop g).frames = (.java g :: mid) ++ below := by rw [State.frames_setTop' g h.top, hmid]; rfl
  obtain ⟨o, s₂, hsteps, -, hend, hq⟩ := Steps.callFree hM p X.admits X.cas X.clock (acts := []) hfr happ hPc trivial
  have hq' : vx_Q Qc XC mc ms free a (U.calling g mk a) o s₂ := hq
  rw [State.frames_setTop' g h.top] at hend
  obtain ⟨g₀, hg0⟩ := Option.isSome_iff_exists.mp h.top
  obtain ⟨r, hr⟩ := State.topJava?_eq_some.mp hg0
  have hr' : (({ U with heap := s₂.heap, slotsUsed := s₂.slotsUsed } : State).setVm s₂.vm).frames = .java g₀ :: r := hr
  rcases hq' with ⟨hqc, L, hfe, hL⟩ | ⟨q, rfl, E, ce, L, hx, hce, hcv, hcl, hW₂, hsm, hL⟩
  · obtain ⟨⟨v, rfl⟩, hW₂, e2, q2, q3, q4, q5, q6⟩ := id hfe
    have e3 : s₂ = ({ (U.calling g mk a).setFrames s₂.frames with heap := s₂.heap, slotsUsed := s₂.slotsUsed } : State).setVm s₂.vm := by
      have : s₂ = ({ s₂ with vm := (U.calling g mk a).vm } : State).setVm s₂.vm := rfl
      rw [e2] at this
      exact this
    obtain ⟨c₂, i₂, len₂, hc₂, hd₂, hf₂⟩ := hend
    have hW' : U.WarmedH s₂.vm := hW₂
    have hcc : c₂ = c := by
      have h1 : s₂.code? g.method = U.code? g.method := by
        rw [State.code?_eq, State.code?_eq, hW'.alike.method?]
      exact Option.some.inj (hc₂.symm.trans (h1.trans h.code))
    subst hcc
    have hlen : len₂ = len := by rw [hdg] at hd₂; cases hd₂; rfl
    subst hlen
    have hs₂ : s₂ = (({ U with heap := s₂.heap, slotsUsed := s₂.slotsUsed } : State).setVm s₂.vm).setTop { g with pc := g.pc + len₂, stack := v.toList ++ g.stack } := by
      refine e3.trans ?_
      rw [hf₂, State.calling_eq h.top, State.setFrames_setFrames, State.setTop_of_frames _ hr', hr]
      rfl
    have hsame : U.sameButNew ({ U with heap := s₂.heap, slotsUsed := s₂.slotsUsed } : State) L mc ms := by
      refine ⟨?_, q2, q3, q4, q5, q6⟩
      obtain ⟨t, ht, -⟩ := State.frames_cons hr
      show ({ U with heap := s₂.heap, slotsUsed := s₂.slotsUsed } : State) = { U.setFrames U.frames with heap := s₂.heap, slotsUsed := s₂.slotsUsed }
      rw [State.setFrames_self ht]
    subst hg
    refine Or.inl ⟨v, ⟨(({ U with heap := s₂.heap, slotsUsed := s₂.slotsUsed } : State).setVm s₂.vm), Ls ++ L, c0 + mc, s0 + ms⟩,
      ⟨X.admits, X.cas, X.clock, X.frames, X.room, X.hears, X.method, X.code, (X.here.setHeapUsed s₂.heap s₂.slotsUsed).setVm hW'.alike, X.tail, State.WarmedH.trans X.warmed hW', X.limits, X.bytes, X.same.trans (hsame.setVm s.vm)⟩,
      ⟨g, mk, s₂, L, rfl, rfl, hqc, rfl, hL, rfl, rfl⟩, ?_⟩
    show Steps p.tables e below _ ((({ U with heap := s₂.heap, slotsUsed := s₂.slotsUsed } : State).setVm s₂.vm).setTop { g with pc := g.pc + len₂, stack := v.toList ++ g.stack })
    rw [← hs₂]
    exact hsteps
  · obtain ⟨e2, q2, q3, q4, q5, q6⟩ := id hsm
    have e3 : s₂ = ({ (U.calling g mk a).setFrames s₂.frames with heap := s₂.heap, slotsUsed := s₂.slotsUsed } : State).setVm s₂.vm := by
      have : s₂ = ({ s₂ with vm := (U.calling g mk a).vm } : State).setVm s₂.vm := rfl
      rw [e2] at this
      exact this
    have hf₂ : s₂.frames = .throwing q :: .java g :: U.frames.tail := hend
    have hW' : U.WarmedH s₂.vm := hW₂
    have hs₂ : s₂ = ((({ U with heap := s₂.heap, slotsUsed := s₂.slotsUsed } : State).setVm s₂.vm).setTop g).pushFrame (.throwing q) := by
      refine e3.trans ?_
      rw [hf₂, State.calling_eq h.top, State.setFrames_setFrames, State.pushFrame, State.frames_setTop _ hr', State.setTop_of_frames _ hr', State.setFrames_setFrames, hr]
      rfl
    have hsame : U.sameButNew ({ U with heap := s₂.heap, slotsUsed := s₂.slotsUsed } : State) L mc ms := by
      refine ⟨?_, q2, q3, q4, q5, q6⟩
      obtain ⟨t, ht, -⟩ := State.frames_cons hr
      show ({ U with heap := s₂.heap, slotsUsed := s₂.slotsUsed } : State) = { U.setFrames U.frames with heap := s₂.heap, slotsUsed := s₂.slotsUsed }
      rw [State.setFrames_self ht]
    subst hg
    refine Or.inr ⟨q, ⟨(({ U with heap := s₂.heap, slotsUsed := s₂.slotsUsed } : State).setVm s₂.vm), Ls ++ L, c0 + mc, s0 + ms⟩,
      ⟨X.admits, X.cas, X.clock, X.frames, X.room, X.hears, X.method, X.code, (X.here.setHeapUsed s₂.heap s₂.slotsUsed).setVm hW'.alike, X.tail, State.WarmedH.trans X.warmed hW', X.limits, X.bytes, X.same.trans (hsame.setVm s.vm)⟩,
      ⟨g, mk, s₂, L, E, ce, rfl, rfl, hx, hce, hcv, hcl, rfl, hL, rfl, rfl⟩, ?_⟩
    show Steps p.tables e below _ (((({ U with heap := s₂.heap, slotsUsed := s₂.slotsUsed } : State).setVm s₂.vm).setTop g).pushFrame (.throwing q))
    rw [← hs₂]
    exact hsteps
end Payer
section Calls
variable {p : Program} {l : Launch} {e : Env} {R : Room} {s : State} {m : MethodId} {args : Array Value} {below : List Frame} {meth : Method} {c : Code} {T : State} {locs : List Loc} {cells slots : Nat}
theorem vx_callV (X : Stand p l e R s m args below meth c T locs cells slots) (hexec : p.tables.exec = Jvm.exec) {own C : String} {index : Nat} {y : MethodName} {bytes : ByteArray} {maxL : Nat} {ret : Option FieldType}
    (hown : s.vm.findClass own = some m.cls) (hlink : (Cond.methodLink own index y).before args s = true) (hinst : (Cond.instanceMethod y).before args s = true) (hsel : (Cond.selects C y y).before args s = true)
    (hcode : (Cond.code y bytes maxL ret).before args s = true) (hy : y.cls ≠ "java/lang/invoke/MethodHandle" ∧ y.cls ≠ "java/lang/invoke/VarHandle")
    {W9 : Nat} {Pre : Pt → Array Value → Prop} {Post : Pt → Array Value → Option Value → Pt → Prop} {PostX : Pt → Array Value → Addr → Pt → Prop} (hK : vx_Back l R p e below s args y 3 W9 Pre Post PostX)
    {b : Addr} {cellB : Cell} (hcell : T.heap[b]? = some cellB) (hobj : cellB.vm.isStatics = false) (hcls : s.vm.findClass C = some cellB.cls)
    {g : JFrame} (hg : g.method = m) (hsize : g.locals.size = c.maxLocals) {argsL rest : List Value} (hlen : ∀ sig, parseMethodDescriptor y.desc = some sig → argsL.length = sig.parameters.length)
    (hstack : g.stack = argsL.reverse ++ .ref b :: rest) (hW : 2 * g.monitorRoom + (rest.map fun v => v.category).sum ≤ W9) (hdg : decode c.code g.pc = .ok (.invokevirtual index, 3))
    (hpre : ∀ vm₁, s.WarmedH vm₁ → Pre ⟨T.setVm vm₁, locs, cells, slots⟩ (Value.ref b :: argsL).toArray) :
    (∃ (v : Option Value) (vm₁ : Vm) (B : Pt), s.WarmedH vm₁ ∧ Stand p l e R s m args below meth c B.U B.locs B.cells B.slots ∧ Post ⟨T.setVm vm₁, locs, cells, slots⟩ (Value.ref b :: argsL).toArray v B ∧
      ∀ target, Steps p.tables e below (B.U.setTop { g with pc := g.pc + 3, stack := v.toList ++ rest }) target → Steps p.tables e below (T.setTop g) target) ∨
    (∃ (q : Addr) (vm₁ : Vm) (B : Pt), s.WarmedH vm₁ ∧ Stand p l e R s m args below meth c B.U B.locs B.cells B.slots ∧ PostX ⟨T.setVm vm₁, locs, cells, slots⟩ (Value.ref b :: argsL).toArray q B ∧
      Steps p.tables e below (T.setTop g) ((B.U.setTop { g with stack := rest }).pushFrame (.throwing q))) := by
  obtain ⟨mk, methM, hnamed, hmethM, hstM, habM⟩ := Cond.instanceMethod_spec hinst
  obtain ⟨methM', cM, hmethM', -, -, -, -, -, -, hsigM⟩ := Cond.code_spec hnamed hcode
  cases hmethM.symm.trans hmethM'
  obtain ⟨c2, r2, m2, q1, q2, q3, q4, kP, hkP, hkPi⟩ := Cond.selects_spec hsel
  cases hcls.symm.trans q1
  cases (State.methodFound?_of_named hnamed hy).symm.trans q2
  cases hnamed.symm.trans q3
  have hselP : selectMethod e.platform s.vm cellB.cls mk = .method mk := by rw [Launch.admits_selectMethod X.admits]; exact q4
  obtain ⟨vm₁, X₁, hstep₁⟩ := X.invokevirtual hexec hown hlink hnamed hmethM hstM hkP hkPi hy (a := b) (cell := cellB) hcell
    (fun z h => by rw [h] at hobj; cases hobj) hselP hmethM habM hkP hkPi (g := g) hg (argsL := argsL) (rest := rest) (hlen _ hsigM) hstack hdg
  rcases hK m meth c ⟨T.setVm vm₁, locs, cells, slots⟩ { g with stack := rest } (.invokevirtual index) mk (Value.ref b :: argsL).toArray X₁ hg hsize hdg hW (X₁.named hnamed) (hpre vm₁ X₁.warmed) with ⟨v, B, X', hpost, hsteps⟩ | ⟨q, B, X', hpost, hsteps⟩
  · exact Or.inl ⟨v, vm₁, B, X₁.warmed, X', hpost, fun target h => hstep₁ _ fun acts => by rw [doInvoke_state]; exact hsteps.trans h⟩
  · exact Or.inr ⟨q, vm₁, B, X₁.warmed, X', hpost, hstep₁ _ fun acts => by rw [doInvoke_state]; exact hsteps⟩
theorem vx_callS (X : Stand p l e R s m args below meth c T locs cells slots) (hexec : p.tables.exec = Jvm.exec) {own : String} {index : Nat} {y : MethodName} {bytes : ByteArray} {maxL : Nat} {ret : Option FieldType}
    (hown : s.vm.findClass own = some m.cls) (hlink : (Cond.methodLink own index y).before args s = true) (hstat : (Cond.static y).before args s = true) (hinit : (Cond.initialized y.cls).before args s = true)
    (hcode : (Cond.code y bytes maxL ret).before args s = true) (hy : y.cls ≠ "java/lang/invoke/MethodHandle" ∧ y.cls ≠ "java/lang/invoke/VarHandle")
    {W9 : Nat} {Pre : Pt → Array Value → Prop} {Post : Pt → Array Value → Option Value → Pt → Prop} {PostX : Pt → Array Value → Addr → Pt → Prop} (hK : vx_Back l R p e below s args y 3 W9 Pre Post PostX)
    {g : JFrame} (hg : g.method = m) (hsize : g.locals.size = c.maxLocals) {argsL rest : List Value} (hlen : ∀ sig, parseMethodDescriptor y.desc = some sig → argsL.length = sig.parameters.length)
    (hstack : g.stack = argsL.reverse ++ rest) (hW : 2 * g.monitorRoom + (rest.map fun v => v.category).sum ≤ W9) (hdg : decode c.code g.pc = .ok (.invokestatic index, 3))
    (hpre : ∀ vm₁, s.WarmedH vm₁ → Pre ⟨T.setVm vm₁, locs, cells, slots⟩ argsL.toArray) :
    (∃ (v : Option Value) (vm₁ : Vm) (B : Pt), s.WarmedH vm₁ ∧ Stand p l e R s m args below meth c B.U B.locs B.cells B.slots ∧ Post ⟨T.setVm vm₁, locs, cells, slots⟩ argsL.toArray v B ∧
      ∀ target, Steps p.tables e below (B.U.setTop { g with pc := g.pc + 3, stack := v.toList ++ rest }) target → Steps p.tables e below (T.setTop g) target) ∨
    (∃ (q : Addr) (vm₁ : Vm) (B : Pt), s.WarmedH vm₁ ∧ Stand p l e R s m args below meth c B.U B.locs B.cells B.slots ∧ PostX ⟨T.setVm vm₁, locs, cells, slots⟩ argsL.toArray q B ∧
      Steps p.tables e below (T.setTop g) ((B.U.setTop { g with stack := rest }).pushFrame (.throwing q))) := by
  obtain ⟨mk, hnamed⟩ := Cond.code_named hcode
  obtain ⟨methM, cM, hmethM, -, -, -, -, -, -, hsigM⟩ := Cond.code_spec hnamed hcode
  have hstatic : methM.isStatic = true := Cond.static_spec hnamed hmethM hstat
  obtain ⟨kP, hkP, -⟩ := className_of_methodNamed hnamed
  have hinitP : kP.init = .initialized := Cond.initialized_spec (findClass_of_methodNamed hnamed) hkP hinit
  obtain ⟨vm₁, X₁, hstep₁⟩ := X.invokestatic hexec hown hlink hnamed hmethM hstatic hkP hinitP hy (g := g) hg (argsL := argsL) (rest := rest) (hlen _ hsigM) hstack hdg
  rcases hK m meth c ⟨T.setVm vm₁, locs, cells, slots⟩ { g with stack := rest } (.invokestatic index) mk argsL.toArray X₁ hg hsize hdg hW (X₁.named hnamed) (hpre vm₁ X₁.warmed) with ⟨v, B, X', hpost, hsteps⟩ | ⟨q, B, X', hpost, hsteps⟩
  · exact Or.inl ⟨v, vm₁, B, X₁.warmed, X', hpost, fun target h => hstep₁ _ fun acts => by rw [doInvoke_state]; exact hsteps.trans h⟩
  · exact Or.inr ⟨q, vm₁, B, X₁.warmed, X', hpost, hstep₁ _ fun acts => by rw [doInvoke_state]; exact hsteps⟩
end Calls
theorem vx_cls {s : State} {T : State} {vm₁ : Vm} {E : String} {k : ClassId} (hW : s.WarmedH vm₁) (h : (T.setVm vm₁).vm.findClass E = some k) : s.vm.findClass E = some k := by
  have h1 : vm₁.findClass E = some k := h
  rw [hW.alike.findClass] at h1
  exact h1
/-- the method's frame g, with q thrown over it -/
def vx_W (p : Program) (l : Launch) (e : Env) (R : Room) (s : State) (m : MethodId) (args : Array Value) (below : List Frame) (meth : Method) (c : Code) (H : Heap) (locs : List Loc) (cells slots : Nat) (Q : State → Prop) (g : JFrame) (q : Addr) : Prop :=
  ∀ T : State, T.heap = H → Stand p l e R s m args below meth c T locs cells slots → ∃ t, Steps p.tables e below ((T.setTop g).pushFrame (.throwing q)) t ∧ Q t
def vx_Run (p : Program) (l : Launch) (e : Env) (R : Room) (s : State) (m : MethodId) (args : Array Value) (below : List Frame) (meth : Method) (c : Code) (H : Heap) (locs : List Loc) (cells slots mc ms : Nat) (g : JFrame) (rest : List Value) (Qa : State → Outcome → State → Prop) (XC : String → State → State → Prop) (free : Addr → Prop) : Prop :=
  ∀ T : State, T.heap = H → Stand p l e R s m args below meth c T locs cells slots →
    (∃ (v : Option Value) (st₀ t T' : State) (L : List Loc), st₀.heap = H ∧ Stand p l e R s m args below meth c T' (locs ++ L) (cells + mc) (slots + ms) ∧ (∀ q ∈ L, free q.base) ∧ T'.heap = t.heap ∧ T'.vm = t.vm ∧ Qa st₀ (.returned v) t ∧
      Goes p e below T g T' { g with pc := g.pc + 3, stack := v.toList ++ rest }) ∨
    (∃ (q : Addr) (st₀ t T' : State) (L : List Loc) (E : String) (ce : Cell), st₀.heap = H ∧ Stand p l e R s m args below meth c T' (locs ++ L) (cells + mc) (slots + ms) ∧ (∀ z ∈ L, free z.base) ∧ T'.heap = t.heap ∧ T'.vm = t.vm ∧ XC E st₀ t ∧ t.heap[q]? = some ce ∧ ce.vm = .none ∧ s.vm.findClass E = some ce.cls ∧
      Steps p.tables e below (T.setTop g) ((T'.setTop { g with stack := rest }).pushFrame (.throwing q)))
def vx_X {S : Type} (px : S → Prop) (B : String → S → State → Prop) (A : Nat → Prop) : String → State → State → Prop := fun E st t => ∃ u : S, px u ∧ B E u t ∧ va_F A st t
section Runs
variable {p : Program} {l : Launch} {e : Env} {R : Room} {s : State} {m : MethodId} {args : Array Value} {below : List Frame} {meth : Method} {c : Code} {H : Heap} {locs : List Loc} {cells slots : Nat}
variable {y : MethodName} {bytes cc : ByteArray} {maxL nL mc ms n index : Nat} {ret : Option FieldType} {ws : List Cond} {rm : Room} {Pc : Array Value → State → Prop} {Qc : Array Value → State → Outcome → State → Prop} {XC : String → State → State → Prop} {free : Addr → Prop} {Ts : List Cond} {own C : String} {b : Addr} {As rest : List Value} {g : JFrame}
theorem vx_callBack (cb : CallB R s args own index y bytes maxL ret ws rm mc ms n) (hM : vx_Met l y ws rm Pc Qc XC mc ms free) (hbl : FrameBlind Pc) : vx_Back l R p e below s args y 3 8 (PreOf R mc ms Pc) (PostOf Qc mc ms free) (vx_Post XC mc ms free) := by
  obtain ⟨hrc, hrs, hfr, hlo, hws, hcw, -, hini, -⟩ := cb
  exact vx_back (bytes := bytes) (maxL := maxL) (ret := ret) hM hbl hrc hrs hfr hlo hws hcw (fun a' U hW => word_at hW (Or.inl (by first | rfl | simp [Cond.onTables, Cond.keeps, Cond.steady])) hini)
theorem vx_runV (S : CallFix p m c cc nL s args Ts own) (hM : vx_Met l y ws rm Pc Qc XC mc ms free) (cw : CallW R s args own C index y bytes maxL ret ws rm mc ms n) (hp : PreV s H C b Pc As)
    (hg : g.method = m) (hn : As.length = n) (hsize : g.locals.size = nL) (hstack : g.stack = As.reverse ++ .ref b :: rest) (hW : 2 * g.monitorRoom + (rest.map fun v => v.category).sum ≤ 8) (hdg : decode cc g.pc = .ok (.invokevirtual index, 3)) (hf : cells + mc ≤ R.cells ∧ slots + ms ≤ R.slots) :
    vx_Run p l e R s m args below meth c H locs cells slots mc ms g rest (Qc (Value.ref b :: As).toArray) XC free := by
  have hK : vx_Back l R p e below s args y 3 8 (PreOf R mc ms Pc) (PostOf Qc mc ms free) (vx_Post XC mc ms free) := vx_callBack cw.1 hM hp.1
  obtain ⟨⟨-, -, -, -, -, -, hcode, -, hy, hlen, hl⟩, hin, hse⟩ := cw
  obtain ⟨hx, hb, hml, ho, -⟩ := S
  obtain ⟨-, ⟨cellB, hcB, hoB, hclB⟩, hPc⟩ := hp
  intro T hT X
  rcases vx_callV X hx (C := C) (bytes := bytes) (maxL := maxL) (ret := ret) ho hl hin hse hcode hy hK (by rw [hT]; exact hcB) hoB hclB hg (hsize.trans hml.symm) (argsL := As) (rest := rest) (fun sig h => hn.trans (hlen sig h)) hstack hW (by rw [hb]; exact hdg)
    (fun vm₁ hW₁ => ⟨hf.1, hf.2, hPc (T.setVm vm₁) hT hW₁⟩) with ⟨v, vm₁, ⟨U', l2, c2, s2⟩, hW₁, X', ⟨g', mk, t, L, e1, e2, hq, h1, hL, h2, h3⟩, st⟩ | ⟨q, vm₁, ⟨U', l2, c2, s2⟩, hW₁, X', ⟨g', mk, t, L, E, ce, e1, e2, hq, hce, hcv, hcl, h1, hL, h2, h3⟩, st⟩
  · dsimp only [Pt.U, Pt.locs, Pt.cells, Pt.slots] at X' e1 e2 h1 h2 h3 st
    subst h1; subst h2; subst h3
    exact Or.inl ⟨v, (T.setVm vm₁).calling g' mk (Value.ref b :: As).toArray, t, U', L, hT, X', hL, e1, e2, hq, st⟩
  · dsimp only [Pt.U, Pt.locs, Pt.cells, Pt.slots] at X' e1 e2 h1 h2 h3 st hcl
    subst h1; subst h2; subst h3
    exact Or.inr ⟨q, (T.setVm vm₁).calling g' mk (Value.ref b :: As).toArray, t, U', L, E, ce, hT, X', hL, e1, e2, hq, hce, hcv, vx_cls hW₁ hcl, st⟩
theorem vx_runS (S : CallFix p m c cc nL s args Ts own) (hM : vx_Met l y ws rm Pc Qc XC mc ms free) (cw : CallB R s args own index y bytes maxL ret ws rm mc ms n ∧ (Cond.static y).before args s = true) (hp : PreS s H Pc As)
    (hg : g.method = m) (hn : As.length = n) (hsize : g.locals.size = nL) (hstack : g.stack = As.reverse ++ rest) (hW : 2 * g.monitorRoom + (rest.map fun v => v.category).sum ≤ 8) (hdg : decode cc g.pc = .ok (.invokestatic index, 3)) (hf : cells + mc ≤ R.cells ∧ slots + ms ≤ R.slots) :
    vx_Run p l e R s m args below meth c H locs cells slots mc ms g rest (Qc As.toArray) XC free := by
  have hK : vx_Back l R p e below s args y 3 8 (PreOf R mc ms Pc) (PostOf Qc mc ms free) (vx_Post XC mc ms free) := vx_callBack cw.1 hM hp.1
  obtain ⟨⟨-, -, -, -, -, -, hcode, hini, hy, hlen, hl⟩, hstt⟩ := cw
  obtain ⟨hx, hb, hml, ho, -⟩ := S
  intro T hT X
  rcases vx_callS X hx (bytes := bytes) (maxL := maxL) (ret := ret) ho hl hstt hini hcode hy hK hg (hsize.trans hml.symm) (argsL := As) (rest := rest) (fun sig h => hn.trans (hlen sig h)) hstack hW (by rw [hb]; exact hdg)
    (fun vm₁ hW₁ => ⟨hf.1, hf.2, hp.2 (T.setVm vm₁) hT hW₁⟩) with ⟨v, vm₁, ⟨U', l2, c2, s2⟩, hW₁, X', ⟨g', mk, t, L, e1, e2, hq, h1, hL, h2, h3⟩, st⟩ | ⟨q, vm₁, ⟨U', l2, c2, s2⟩, hW₁, X', ⟨g', mk, t, L, E, ce, e1, e2, hq, hce, hcv, hcl, h1, hL, h2, h3⟩, st⟩
  · dsimp only [Pt.U, Pt.locs, Pt.cells, Pt.slots] at X' e1 e2 h1 h2 h3 st
    subst h1; subst h2; subst h3
    exact Or.inl ⟨v, (T.setVm vm₁).calling g' mk As.toArray, t, U', L, hT, X', hL, e1, e2, hq, st⟩
  · dsimp only [Pt.U, Pt.locs, Pt.cells, Pt.slots] at X' e1 e2 h1 h2 h3 st hcl
    subst h1; subst h2; subst h3
    exact Or.inr ⟨q, (T.setVm vm₁).calling g' mk As.toArray, t, U', L, E, ce, hT, X', hL, e1, e2, hq, hce, hcv, vx_cls hW₁ hcl, st⟩
end Runs
section Rows
variable {p : Program} {l : Launch} {e : Env} {R : Room} {s : State} {m : MethodId} {args : Array Value} {below : List Frame} {meth : Method} {c : Code} {H : Heap} {locs : List Loc} {cells slots : Nat} {Q : State → Prop}
variable {mc ms : Nat} {free : Addr → Prop} {A0 A1 : Nat → Prop} {H0 : Heap} {a : Array Value} {pc : Nat} {ls : Array Slot} {st0 rest : List Value}
theorem vx_keep {st₀ t T' : State} {L : List Loc} (h0 : st₀.heap = H) (e1 : T'.heap = t.heap) (hS : va_S A0 H0 H locs) (hA : ∀ q, q < H.size → A1 q → A0 q) (hf : ∀ q, free q → A0 q) (hL : ∀ q ∈ L, free q.base) (hF : va_F A1 st₀ t) :
    H.size ≤ T'.heap.size ∧ (∀ q : Nat, q < H.size → ¬ A1 q → T'.heap[q]? = H[q]?) ∧ va_S A0 H0 T'.heap (locs ++ L) := by
  obtain ⟨hz, hk⟩ := hF
  rw [h0] at hz hk
  exact ⟨by rw [e1]; exact hz, fun q h1 h2 => by rw [e1]; exact hk q h1 h2,
    ⟨Nat.le_trans hS.1 (by rw [e1]; exact hz), fun q h1 h2 => by rw [e1, hk q (Nat.lt_of_lt_of_le h1 hS.1) (fun z => h2 (hA q (Nat.lt_of_lt_of_le h1 hS.1) z))]; exact hS.2.1 q h1 h2, fun q hq => by
      rcases List.mem_append.mp hq with h | h
      · exact hS.2.2 q h
      · exact hf _ (hL q h)⟩⟩
theorem vx_calli {S SX : Type} {post : Int32 → S → Prop} {px : SX → Prop} {B : S → State → Prop} {BX : String → SX → State → Prop} {AX : Nat → Prop} (hr : vx_Run p l e R s m args below meth c H locs cells slots mc ms (F0 m pc ls st0) rest (va_Qi post B A1 a) (vx_X px BX AX) free) (hS : va_S A0 H0 H locs) (hA : ∀ q, q < H.size → A1 q → A0 q) (hf : ∀ q, free q → A0 q) (hAX : ∀ q, q < H.size → AX q → A0 q)
    (kx : ∀ (E : String) (ce : Cell) (q9 : Addr) (u : SX) (t : State) (H1 : Heap) (locs1 : List Loc), t.heap = H1 → s.vm.Alike t.vm → px u → BX E u t → H.size ≤ H1.size → (∀ q : Nat, q < H.size → ¬ AX q → H1[q]? = H[q]?) → va_S A0 H0 H1 locs1 → H1[q9]? = some ce → ce.vm = .none → s.vm.findClass E = some ce.cls → vx_W p l e R s m args below meth c H1 locs1 (cells + mc) (slots + ms) Q (F0 m pc ls rest) q9)
    (kk : ∀ (r : Int32) (u : S) (t : State) (H1 : Heap) (locs1 : List Loc), t.heap = H1 → s.vm.Alike t.vm → post r u → B u t → H.size ≤ H1.size → (∀ q : Nat, q < H.size → ¬ A1 q → H1[q]? = H[q]?) → va_S A0 H0 H1 locs1 → W p l e R s m args below meth c H1 locs1 (cells + mc) (slots + ms) Q (F0 m (pc + 3) ls (.int r :: rest))) : W p l e R s m args below meth c H locs cells slots Q (F0 m pc ls st0) := by
  intro T hT X
  rcases hr T hT X with ⟨v, st₀, t, T', L, h0, X', hL, e1, e2, ⟨⟨r, u, hv, hp, hb⟩, hF⟩, st⟩ | ⟨q, st₀, t, T', L, E, ce, h0, X', hL, e1, e2, ⟨u, hp, hb, hF⟩, hce, hcv, hcl, st⟩
  · cases hv
    obtain ⟨k1, k2, k3⟩ := vx_keep h0 e1 hS hA hf hL hF
    obtain ⟨t2, a1, b1⟩ := kk r u t T'.heap (locs ++ L) e1.symm (by rw [← e2]; exact X'.warmed.alike) hp hb k1 k2 k3 T' rfl X'
    exact ⟨t2, st t2 a1, b1⟩
  · obtain ⟨k1, k2, k3⟩ := vx_keep h0 e1 hS hAX hf hL hF
    obtain ⟨t2, a1, b1⟩ := kx E ce q u t T'.heap (locs ++ L) e1.symm (by rw [← e2]; exact X'.warmed.alike) hp hb k1 k2 k3 (by rw [e1]; exact hce) hcv hcl T' rfl X'
    exact ⟨t2, st.trans a1, b1⟩
theorem vx_calll {S SX : Type} {post : Int64 → S → Prop} {px : SX → Prop} {B : S → State → Prop} {BX : String → SX → State → Prop} {AX : Nat → Prop} (hr : vx_Run p l e R s m args below meth c H locs cells slots mc ms (F0 m pc ls st0) rest (va_Ql post B A1 a) (vx_X px BX AX) free) (hS : va_S A0 H0 H locs) (hA : ∀ q, q < H.size → A1 q → A0 q) (hf : ∀ q, free q → A0 q) (hAX : ∀ q, q < H.size → AX q → A0 q)
    (kx : ∀ (E : String) (ce : Cell) (q9 : Addr) (u : SX) (t : State) (H1 : Heap) (locs1 : List Loc), t.heap = H1 → s.vm.Alike t.vm → px u → BX E u t → H.size ≤ H1.size → (∀ q : Nat, q < H.size → ¬ AX q → H1[q]? = H[q]?) → va_S A0 H0 H1 locs1 → H1[q9]? = some ce → ce.vm = .none → s.vm.findClass E = some ce.cls → vx_W p l e R s m args below meth c H1 locs1 (cells + mc) (slots + ms) Q (F0 m pc ls rest) q9)
    (kk : ∀ (r : Int64) (u : S) (t : State) (H1 : Heap) (locs1 : List Loc), t.heap = H1 → s.vm.Alike t.vm → post r u → B u t → H.size ≤ H1.size → (∀ q : Nat, q < H.size → ¬ A1 q → H1[q]? = H[q]?) → va_S A0 H0 H1 locs1 → W p l e R s m args below meth c H1 locs1 (cells + mc) (slots + ms) Q (F0 m (pc + 3) ls (.long r :: rest))) : W p l e R s m args below meth c H locs cells slots Q (F0 m pc ls st0) := by
  intro T hT X
  rcases hr T hT X with ⟨v, st₀, t, T', L, h0, X', hL, e1, e2, ⟨⟨r, u, hv, hp, hb⟩, hF⟩, st⟩ | ⟨q, st₀, t, T', L, E, ce, h0, X', hL, e1, e2, ⟨u, hp, hb, hF⟩, hce, hcv, hcl, st⟩
  · cases hv
    obtain ⟨k1, k2, k3⟩ := vx_keep h0 e1 hS hA hf hL hF
    obtain ⟨t2, a1, b1⟩ := kk r u t T'.heap (locs ++ L) e1.symm (by rw [← e2]; exact X'.warmed.alike) hp hb k1 k2 k3 T' rfl X'
    exact ⟨t2, st t2 a1, b1⟩
  · obtain ⟨k1, k2, k3⟩ := vx_keep h0 e1 hS hAX hf hL hF
    obtain ⟨t2, a1, b1⟩ := kx E ce q u t T'.heap (locs ++ L) e1.symm (by rw [← e2]; exact X'.warmed.alike) hp hb k1 k2 k3 (by rw [e1]; exact hce) hcv hcl T' rfl X'
    exact ⟨t2, st.trans a1, b1⟩
theorem vx_callf {S SX : Type} {post : UInt32 → S → Prop} {px : SX → Prop} {B : S → State → Prop} {BX : String → SX → State → Prop} {AX : Nat → Prop} (hr : vx_Run p l e R s m args below meth c H locs cells slots mc ms (F0 m pc ls st0) rest (va_Qf post B A1 a) (vx_X px BX AX) free) (hS : va_S A0 H0 H locs) (hA : ∀ q, q < H.size → A1 q → A0 q) (hf : ∀ q, free q → A0 q) (hAX : ∀ q, q < H.size → AX q → A0 q)
    (kx : ∀ (E : String) (ce : Cell) (q9 : Addr) (u : SX) (t : State) (H1 : Heap) (locs1 : List Loc), t.heap = H1 → s.vm.Alike t.vm → px u → BX E u t → H.size ≤ H1.size → (∀ q : Nat, q < H.size → ¬ AX q → H1[q]? = H[q]?) → va_S A0 H0 H1 locs1 → H1[q9]? = some ce → ce.vm = .none → s.vm.findClass E = some ce.cls → vx_W p l e R s m args below meth c H1 locs1 (cells + mc) (slots + ms) Q (F0 m pc ls rest) q9)
    (kk : ∀ (r : UInt32) (u : S) (t : State) (H1 : Heap) (locs1 : List Loc), t.heap = H1 → s.vm.Alike t.vm → post r u → B u t → H.size ≤ H1.size → (∀ q : Nat, q < H.size → ¬ A1 q → H1[q]? = H[q]?) → va_S A0 H0 H1 locs1 → W p l e R s m args below meth c H1 locs1 (cells + mc) (slots + ms) Q (F0 m (pc + 3) ls (.float r :: rest))) : W p l e R s m args below meth c H locs cells slots Q (F0 m pc ls st0) := by
  intro T hT X
  rcases hr T hT X with ⟨v, st₀, t, T', L, h0, X', hL, e1, e2, ⟨⟨r, u, hv, hp, hb⟩, hF⟩, st⟩ | ⟨q, st₀, t, T', L, E, ce, h0, X', hL, e1, e2, ⟨u, hp, hb, hF⟩, hce, hcv, hcl, st⟩
  · cases hv
    obtain ⟨k1, k2, k3⟩ := vx_keep h0 e1 hS hA hf hL hF
    obtain ⟨t2, a1, b1⟩ := kk r u t T'.heap (locs ++ L) e1.symm (by rw [← e2]; exact X'.warmed.alike) hp hb k1 k2 k3 T' rfl X'
    exact ⟨t2, st t2 a1, b1⟩
  · obtain ⟨k1, k2, k3⟩ := vx_keep h0 e1 hS hAX hf hL hF
    obtain ⟨t2, a1, b1⟩ := kx E ce q u t T'.heap (locs ++ L) e1.symm (by rw [← e2]; exact X'.warmed.alike) hp hb k1 k2 k3 (by rw [e1]; exact hce) hcv hcl T' rfl X'
    exact ⟨t2, st.trans a1, b1⟩
theorem vx_calld {S SX : Type} {post : UInt64 → S → Prop} {px : SX → Prop} {B : S → State → Prop} {BX : String → SX → State → Prop} {AX : Nat → Prop} (hr : vx_Run p l e R s m args below meth c H locs cells slots mc ms (F0 m pc ls st0) rest (va_Qd post B A1 a) (vx_X px BX AX) free) (hS : va_S A0 H0 H locs) (hA : ∀ q, q < H.size → A1 q → A0 q) (hf : ∀ q, free q → A0 q) (hAX : ∀ q, q < H.size → AX q → A0 q)
    (kx : ∀ (E : String) (ce : Cell) (q9 : Addr) (u : SX) (t : State) (H1 : Heap) (locs1 : List Loc), t.heap = H1 → s.vm.Alike t.vm → px u → BX E u t → H.size ≤ H1.size → (∀ q : Nat, q < H.size → ¬ AX q → H1[q]? = H[q]?) → va_S A0 H0 H1 locs1 → H1[q9]? = some ce → ce.vm = .none → s.vm.findClass E = some ce.cls → vx_W p l e R s m args below meth c H1 locs1 (cells + mc) (slots + ms) Q (F0 m pc ls rest) q9)
    (kk : ∀ (r : UInt64) (u : S) (t : State) (H1 : Heap) (locs1 : List Loc), t.heap = H1 → s.vm.Alike t.vm → post r u → B u t → H.size ≤ H1.size → (∀ q : Nat, q < H.size → ¬ A1 q → H1[q]? = H[q]?) → va_S A0 H0 H1 locs1 → W p l e R s m args below meth c H1 locs1 (cells + mc) (slots + ms) Q (F0 m (pc + 3) ls (.double r :: rest))) : W p l e R s m args below meth c H locs cells slots Q (F0 m pc ls st0) := by
  intro T hT X
  rcases hr T hT X with ⟨v, st₀, t, T', L, h0, X', hL, e1, e2, ⟨⟨r, u, hv, hp, hb⟩, hF⟩, st⟩ | ⟨q, st₀, t, T', L, E, ce, h0, X', hL, e1, e2, ⟨u, hp, hb, hF⟩, hce, hcv, hcl, st⟩
  · cases hv
    obtain ⟨k1, k2, k3⟩ := vx_keep h0 e1 hS hA hf hL hF
    obtain ⟨t2, a1, b1⟩ := kk r u t T'.heap (locs ++ L) e1.symm (by rw [← e2]; exact X'.warmed.alike) hp hb k1 k2 k3 T' rfl X'
    exact ⟨t2, st t2 a1, b1⟩
  · obtain ⟨k1, k2, k3⟩ := vx_keep h0 e1 hS hAX hf hL hF
    obtain ⟨t2, a1, b1⟩ := kx E ce q u t T'.heap (locs ++ L) e1.symm (by rw [← e2]; exact X'.warmed.alike) hp hb k1 k2 k3 (by rw [e1]; exact hce) hcv hcl T' rfl X'
    exact ⟨t2, st.trans a1, b1⟩
theorem vx_callv {S SX : Type} {post : S → Prop} {px : SX → Prop} {B : S → State → Prop} {BX : String → SX → State → Prop} {AX : Nat → Prop} (hr : vx_Run p l e R s m args below meth c H locs cells slots mc ms (F0 m pc ls st0) rest (va_Qv post B A1 a) (vx_X px BX AX) free) (hS : va_S A0 H0 H locs) (hA : ∀ q, q < H.size → A1 q → A0 q) (hf : ∀ q, free q → A0 q) (hAX : ∀ q, q < H.size → AX q → A0 q)
    (kx : ∀ (E : String) (ce : Cell) (q9 : Addr) (u : SX) (t : State) (H1 : Heap) (locs1 : List Loc), t.heap = H1 → s.vm.Alike t.vm → px u → BX E u t → H.size ≤ H1.size → (∀ q : Nat, q < H.size → ¬ AX q → H1[q]? = H[q]?) → va_S A0 H0 H1 locs1 → H1[q9]? = some ce → ce.vm = .none → s.vm.findClass E = some ce.cls → vx_W p l e R s m args below meth c H1 locs1 (cells + mc) (slots + ms) Q (F0 m pc ls rest) q9)
    (kk : ∀ (u : S) (t : State) (H1 : Heap) (locs1 : List Loc), t.heap = H1 → s.vm.Alike t.vm → post u → B u t → H.size ≤ H1.size → (∀ q : Nat, q < H.size → ¬ A1 q → H1[q]? = H[q]?) → va_S A0 H0 H1 locs1 → W p l e R s m args below meth c H1 locs1 (cells + mc) (slots + ms) Q (F0 m (pc + 3) ls (rest))) : W p l e R s m args below meth c H locs cells slots Q (F0 m pc ls st0) := by
  intro T hT X
  rcases hr T hT X with ⟨v, st₀, t, T', L, h0, X', hL, e1, e2, ⟨⟨u, hv, hp, hb⟩, hF⟩, st⟩ | ⟨q, st₀, t, T', L, E, ce, h0, X', hL, e1, e2, ⟨u, hp, hb, hF⟩, hce, hcv, hcl, st⟩
  · cases hv
    obtain ⟨k1, k2, k3⟩ := vx_keep h0 e1 hS hA hf hL hF
    obtain ⟨t2, a1, b1⟩ := kk u t T'.heap (locs ++ L) e1.symm (by rw [← e2]; exact X'.warmed.alike) hp hb k1 k2 k3 T' rfl X'
    exact ⟨t2, st t2 a1, b1⟩
  · obtain ⟨k1, k2, k3⟩ := vx_keep h0 e1 hS hAX hf hL hF
    obtain ⟨t2, a1, b1⟩ := kx E ce q u t T'.heap (locs ++ L) e1.symm (by rw [← e2]; exact X'.warmed.alike) hp hb k1 k2 k3 (by rw [e1]; exact hce) hcv hcl T' rfl X'
    exact ⟨t2, st.trans a1, b1⟩
end Rows
section Ends
variable {p : Program} {l : Launch} {e : Env} {R : Room} {s : State} {m : MethodId} {args : Array Value} {below : List Frame} {meth : Method} {c : Code} {H : Heap} {locs : List Loc} {cells slots : Nat} {Q : State → Prop}
variable {mc ms : Nat} {free : Addr → Prop} {A0 A1 : Nat → Prop} {H0 : Heap} {a : Array Value} {ls : Array Slot} {st0 rest : List Value}
variable {Qc : Array Value → State → Outcome → State → Prop} {XC : String → State → State → Prop}
/-- what a body that may throw owes at its end -/
def vx_MQ (below : List Frame) (Qc : Array Value → State → Outcome → State → Prop) (XC : String → State → State → Prop) (a : Array Value) (s : State) (mc ms : Nat) (free : Addr → Prop) : State → Prop := fun t =>
  ∃ o, t.status = .running ∧ Ended t below o ∧ vx_Q Qc XC mc ms free a s o t
theorem vx_ret {g : JFrame} {mc ms : Nat} (k : W p l e R s m args below meth c H locs cells slots (MQ below Qc args s mc ms free) g) : W p l e R s m args below meth c H locs cells slots (vx_MQ below Qc XC args s mc ms free) g := by
  intro T hT X
  obtain ⟨t, a1, o, b1, b2, b3, b4⟩ := k T hT X
  exact ⟨t, a1, o, b1, b2, Or.inl ⟨b3, b4⟩⟩
/-- not caught here: it goes on to the caller -/
theorem vx_widen {g : JFrame} {q : Addr} {k n : Nat} (h1 : cells ≤ k) (h2 : slots ≤ n) (kk : vx_W p l e R s m args below meth c H locs k n Q g q) : vx_W p l e R s m args below meth c H locs cells slots Q g q := fun T hT X => kk T hT (stand_widen X h1 h2)
theorem vx_out {pc : Nat} {E : String} {ce : Cell} {q : Addr} {mc ms : Nat} (hout : ∀ x ∈ c.exceptionTable.toList, covers x pc = false) (hlocks : meth.locks = false) (hcell : H[q]? = some ce) (hv : ce.vm = .none) (hcl : s.vm.findClass E = some ce.cls)
    (hx : ∀ t : State, t.heap = H → s.vm.Alike t.vm → XC E s t) (hf : ∀ z ∈ locs, free z.base) (hc : cells ≤ mc) (hs : slots ≤ ms) :
    vx_W p l e R s m args below meth c H locs cells slots (vx_MQ below Qc XC args s mc ms free) (F0 m pc ls rest) q := by
  intro T hT X
  obtain ⟨st1, hrun, hend, hW, hsm⟩ := X.leaveThrown q (g := F0 m pc ls rest) rfl rfl rfl hout hlocks
  have hcell9 : (T.setFrames (.throwing q :: below)).heap[q]? = some ce := by
    show T.heap[q]? = some ce
    rw [hT]; exact hcell
  exact ⟨_, st1, .threw q, hrun, hend, Or.inr ⟨q, rfl, E, ce, locs, hx _ hT hW.alike, hcell9, hv, hcl, hW, hsm.mono hc hs, hf⟩⟩
theorem vx_frame {U : State} {k n : Nat} (h : s.sameButNew ({ U with vm := s.vm } : State) locs k n) : s.heap.size ≤ U.heap.size ∧ ∀ q : Nat, q < s.heap.size → (∀ z ∈ locs, z.base ≠ q) → U.heap[q]? = s.heap[q]? := by
  obtain ⟨-, h2, -, -, -, h6⟩ := h
  refine ⟨h2, fun q hq hz => ?_⟩
  obtain ⟨c9, e1, e2, e3, e4⟩ := h6 q _ (Array.getElem?_eq_getElem hq)
  have hs : c9.slots = (s.heap[q]).slots := Array.ext_getElem? fun i => e4 i fun hm => hz _ hm rfl
  have h9 : c9 = s.heap[q] := by
    rw [hs] at e2
    exact e2
  have e5 : U.heap[q]? = some c9 := e1
  rw [e5, h9, Array.getElem?_eq_getElem hq]
/-- the words of a throw but the four that speak of the heap -/
def vx_no (w : Cond) : Bool := decide (w ≠ .isRef (.static Bundle.tN "UNASSIGNED_STACK" Bundle.steD)) && decide (w ≠ .isRef (.static Bundle.tN "SUPPRESSED_SENTINEL" Bundle.listD)) && decide (w ≠ .laysStatic Bundle.tN "UNASSIGNED_STACK" Bundle.steD) && decide (w ≠ .laysStatic Bundle.tN "SUPPRESSED_SENTINEL" Bundle.listD)
def vx_at0 (own : String) (ic : Nat) (X : String) (names : List String) : List Cond := (Bundle.ownAtoms0 own ic X names).filter vx_no
def vx_atS (own : String) (ic : Nat) (X : String) (names : List String) : List Cond := (Bundle.ownAtoms own ic X names).filter vx_no
/-- a word that the tables alone decide, or a good one -/
def vx_ot (w : Cond) : Bool := w.onTables || goodWord w
theorem vx_ot_at {args a' : Array Value} {s U : State} {w : Cond} (hW : s.WarmedH U.vm) (hvm : s.vm = U.vm) (hg : vx_ot w = true) (h : w.before args s = true) : w.before a' U = true := by
  simp only [vx_ot, Bool.or_eq_true] at hg
  rcases hg with hg | hg
  · exact va_tabs hg hvm h
  · exact word_at hW (good_of_word hg) h
/-- a list's words: the good ones out of the method's own list, the others by premises of their own -/
theorem vx_hat {args : Array Value} {s : State} {L B : List Cond} (h1 : ∀ w ∈ L.filter goodWord, w.before args s = true) (h2 : ∀ w ∈ L.filter (fun w => !goodWord w), w ∈ B) (h3 : ∀ w ∈ B, w.before args s = true) : ∀ w ∈ L, w.before args s = true := by
  intro w hw
  by_cases g : goodWord w = true
  · exact h1 w (List.mem_filter.mpr ⟨hw, g⟩)
  · refine h3 w (h2 w (List.mem_filter.mpr ⟨hw, ?_⟩))
    show (!goodWord w) = true
    cases hgw : goodWord w
    · rfl
    · exact absurd hgw g
theorem vx_c {args : Array Value} {s : State} {w : Cond} {B : List Cond} (h : w.before args s = true) (t : ∀ w ∈ B, w.before args s = true) : ∀ w' ∈ w :: B, w'.before args s = true := fun w' h' => (List.mem_cons.mp h').elim (fun e => by rw [e]; exact h) (t w')
theorem vx_n {args : Array Value} {s : State} : ∀ w ∈ ([] : List Cond), w.before args s = true := fun _ h => nomatch h
theorem vx_own {args : Array Value} {s : State} {L : List Cond} (h1 : ∀ w ∈ L.filter vx_no, w.before args s = true)
    (hU : (Cond.isRef (.static Bundle.tN "UNASSIGNED_STACK" Bundle.steD)).before args s = true) (hN : (Cond.isRef (.static Bundle.tN "SUPPRESSED_SENTINEL" Bundle.listD)).before args s = true)
    (lU : (Cond.laysStatic Bundle.tN "UNASSIGNED_STACK" Bundle.steD).before args s = true) (lN : (Cond.laysStatic Bundle.tN "SUPPRESSED_SENTINEL" Bundle.listD).before args s = true) : ∀ w ∈ L, w.before args s = true := by
  intro w hw
  by_cases e1 : w = .isRef (.static Bundle.tN "UNASSIGNED_STACK" Bundle.steD)
  · rw [e1]; exact hU
  · by_cases e2 : w = .isRef (.static Bundle.tN "SUPPRESSED_SENTINEL" Bundle.listD)
    · rw [e2]; exact hN
    · by_cases e3 : w = .laysStatic Bundle.tN "UNASSIGNED_STACK" Bundle.steD
      · rw [e3]; exact lU
      · by_cases e4 : w = .laysStatic Bundle.tN "SUPPRESSED_SENTINEL" Bundle.listD
        · rw [e4]; exact lN
        · exact h1 w (List.mem_filter.mpr ⟨hw, by unfold vx_no; rw [decide_eq_true e1, decide_eq_true e2, decide_eq_true e3, decide_eq_true e4]; rfl⟩)
/-- where a static field lies, its class's statics cell in H -/
def vx_L (C n d : String) (A : Nat → Prop) (U : State) (H : Heap) : Prop := ∃ (c : ClassId) (k : Class) (i : Nat) (f : Field) (a : Nat) (cell : Cell), U.vm.findClass C = some c ∧ U.fieldFound? C n d = some (c, k, i, f) ∧ f.isStatic = true ∧ k.statics = some a ∧ H[a]? = some cell ∧ cell.vm.isStatics = true ∧ cell.cls = c ∧ f.slot < cell.slots.size ∧ k.staticTypes[f.slot]? = some f.type ∧ ¬ A a
theorem vx_L.moved {C n d : String} {A : Nat → Prop} {u U : State} {H : Heap} (hvm : u.vm.Alike U.vm) (h : vx_L C n d A u H) : vx_L C n d A U H := by
  obtain ⟨c, k, i, f, a, cell, h1, h2, h3, h4, h5, h6, h7, h8, h9, h10⟩ := h
  obtain ⟨k', hi', he⟩ := State.fieldFound?_setVm hvm h2
  exact ⟨c, k', i, f, a, cell, by rw [hvm.findClass]; exact h1, hi', h3, by rw [he]; exact h4, h5, h6, h7, h8, by rw [he]; exact h9, h10⟩
theorem vx_L.kept {C n d : String} {A : Nat → Prop} {U : State} {H H1 : Heap} (h : vx_L C n d A U H) (hq : ∀ a : Nat, a < H.size → ¬ A a → H1[a]? = H[a]?) : vx_L C n d A U H1 := by
  obtain ⟨c, k, i, f, a, cell, h1, h2, h3, h4, h5, h6, h7, h8, h9, h10⟩ := h
  exact ⟨c, k, i, f, a, cell, h1, h2, h3, h4, by rw [hq a (Array.getElem?_eq_some_iff.mp h5).1 h10]; exact h5, h6, h7, h8, h9, h10⟩
theorem vx_L.narrow {C n d : String} {A B : Nat → Prop} {U : State} {H : Heap} (h : vx_L C n d A U H) (hAB : ∀ q, B q → A q) : vx_L C n d B U H := by
  obtain ⟨c, k, i, f, a, cell, h1, h2, h3, h4, h5, h6, h7, h8, h9, h10⟩ := h
  exact ⟨c, k, i, f, a, cell, h1, h2, h3, h4, h5, h6, h7, h8, h9, fun z => h10 (hAB _ z)⟩
theorem vx_L.word {C n d : String} {A : Nat → Prop} {s : State} {args : Array Value} (h : vx_L C n d A s s.heap) : (Cond.laysStatic C n d).before args s = true := by
  obtain ⟨c, k, i, f, a, cell, h1, h2, h3, h4, h5, h6, h7, h8, h9, -⟩ := h
  show (Cond.laysStatic C n d).holds args s none s [] = true
  exact Cond.laysStatic_of h1 h2 h3 h4 h5 h6 h7 h8 h9
/-- .. and what it holds: null or some reference -/
def vx_Zq (C n d : String) (A : Nat → Prop) (U : State) (H : Heap) : Prop := va_Zq C n d A U H ∧ vx_L C n d A U H
theorem vx_Zq.moved {C n d : String} {A : Nat → Prop} {u U : State} {H : Heap} (hvm : u.vm.Alike U.vm) (h : vx_Zq C n d A u H) : vx_Zq C n d A U H := ⟨va_Zq.moved hvm h.1, vx_L.moved hvm h.2⟩
theorem vx_Zq.kept {C n d : String} {A : Nat → Prop} {U : State} {H H1 : Heap} (h : vx_Zq C n d A U H) (hq : ∀ a : Nat, a < H.size → ¬ A a → H1[a]? = H[a]?) : vx_Zq C n d A U H1 := ⟨va_Zq.kept h.1 hq, vx_L.kept h.2 hq⟩
theorem vx_Zq.narrow {C n d : String} {A B : Nat → Prop} {U : State} {H : Heap} (h : vx_Zq C n d A U H) (hAB : ∀ q, B q → A q) : vx_Zq C n d B U H := ⟨va_Zq.narrow h.1 hAB, vx_L.narrow h.2 hAB⟩
theorem vx_Zqof {args : Array Value} {s : State} {C n d : String} {A : Nat → Prop} (hl : (Cond.laysStatic C n d).before args s = true) (hini : (Cond.initialized C).before args s = true) (h : (Cond.isRef (.static C n d)).before args s = true) (hA : ∀ a : Nat, a < s.heap.size → ¬ A a) : vx_Zq C n d A s s.heap := by
  refine ⟨va_Zqof hl hini h hA, ?_⟩
  obtain ⟨c, k, i, f, a, cell, h1, h2, h3, h4, h5, h6, h7, h8, h9⟩ := Cond.laysStatic_spec hl
  exact ⟨c, k, i, f, a, cell, h1, h2, h3, h4, h5, h6, h7, h8, h9, hA a (Array.getElem?_eq_some_iff.mp h5).1⟩
theorem vx_isRef {C n d : String} {v : Value} {A : Nat → Prop} {s : State} {args : Array Value} (h : va_Z C n d v A s s.heap) (hv : v.isRef = true) : (Cond.isRef (.static C n d)).before args s = true := by
  obtain ⟨cf, kf, fi, f, a, cell, h1, h2, h3, h4, h5, h6, h7, -⟩ := h
  have he : (Term.static C n d).eval args s none [] s = some v := by
    simp [Term.eval, State.fieldNamed?, h1, h2, h4, h5, h6, h7]
  simp only [Cond.before, Cond.holds, Cond.value, he]
  cases v <;> simp_all [Value.isRef]
theorem vx_isRefq {C n d : String} {A : Nat → Prop} {s : State} {args : Array Value} (h : va_Zq C n d A s s.heap) : (Cond.isRef (.static C n d)).before args s = true := by
  rcases h with h | ⟨t, h⟩
  · exact vx_isRef h rfl
  · exact vx_isRef h rfl
/-- the same frame, seen from here: as if the method were called anew in this heap -/
theorem vx_rebase {T : State} (X : Stand p l e R s m args below meth c T locs cells slots) {R' : Room} (hf : R'.frames ≤ R.frames) (hl : R'.locals ≤ R.locals) (hc : cells + R'.cells ≤ R.cells) (hs : slots + R'.slots ≤ R.slots) :
    Stand p l e R' ((T.setVm s.vm).setFrames (.invoking m args :: below)) m args below meth c T [] 0 0 := by
  have htop : (T.setVm s.vm).topJava?.isSome := X.here.top
  have hF : ((T.setVm s.vm).setFrames (.invoking m args :: below)).frames = .invoking m args :: below := State.frames_setFrames _ (State.cur_lt_of_top htop)
  obtain ⟨g₀, hg0⟩ := Option.isSome_iff_exists.mp htop
  obtain ⟨r, hr⟩ := State.topJava?_eq_some.mp hg0
  have hl9 : e.platform.stackLimits (T.setVm s.vm).me = e.platform.stackLimits s.me := X.limits
  have hb9 : (T.setVm s.vm).me.stackBytes = s.me.stackBytes := X.bytes
  refine ⟨X.admits, X.cas, X.clock, hF, ?_, X.hears, X.method, X.code, X.here, X.tail, X.warmed, ?_, ?_, ?_⟩
  · have h := X.room
    have hU : ((T.setVm s.vm).setFrames (.invoking m args :: below)).localsInUse = s.localsInUse := by
      rw [State.localsInUse_invoking hF (meth := meth) (c := c) X.method X.code, State.localsInUse_invoking X.frames X.method X.code]
    simp only [State.hasRoom, Bool.and_eq_true, decide_eq_true_eq] at h ⊢
    obtain ⟨⟨⟨⟨h1, h2, h3, h4, h5, h6⟩, h7⟩, h8⟩, h9⟩ := h
    rw [X.frames, List.length_cons] at h2 h3
    have q1 := X.heapSize
    have q2 := X.used
    simp only [hF, hU, List.length_cons, State.stackLimits_setFrames, State.stackBytes_setFrames, hl9, hb9]
    refine ⟨⟨⟨⟨by omega, by omega, by omega, by omega, by omega, h6⟩, ?_⟩, ?_⟩, X.book⟩
    · show T.heap.size + R'.cells ≤ e.platform.maxCells
      omega
    · show T.slotsUsed + R'.slots ≤ e.platform.maxSlots
      omega
  · rw [State.stackLimits_setFrames]; rfl
  · rw [State.stackBytes_setFrames]; rfl
  · refine ⟨?_, Nat.le_refl _, Nat.le_refl _, ?_, ?_, fun a c9 h9 => ⟨c9, h9, rfl, rfl, fun _ _ => rfl⟩⟩
    · obtain ⟨t, ht, -⟩ := State.frames_cons hr
      show T.setVm s.vm = { ((T.setVm s.vm).setFrames (.invoking m args :: below)).setFrames (T.setVm s.vm).frames with heap := T.heap, slotsUsed := T.slotsUsed }
      rw [State.setFrames_setFrames, State.setFrames_self ht]
      rfl
    · show T.slotsUsed = T.slotsUsed + ((T.heap.toList.drop T.heap.size).map (·.slots.size)).sum
      rw [List.drop_eq_nil_of_le (Nat.le_of_eq Array.length_toList)]
      rfl
    · show ((T.heap.toList.drop T.heap.size).map (·.slots.size)).sum ≤ 0
      rw [List.drop_eq_nil_of_le (Nat.le_of_eq Array.length_toList)]
      exact Nat.le_refl _
/-- 'throw new E()': new; dup; invokespecial; athrow -/
theorem vx_throw0 {cc : ByteArray} {pc : Nat} (hexec : p.tables.exec = Jvm.exec) (hb : c.code = cc) (hl : l.stackTraces = false) {own cls : String} {names : List String} {ik ic mc ms : Nat} {A : Nat → Prop}
    (hown : s.vm.findClass own = some m.cls) (hcls : Bundle.fit cls = true) (hnames : ∀ n ∈ names, Bundle.fit n = true)
    (hk : (Cond.classLink own ik cls).before args s = true) (hini : (Cond.initialized cls).before args s = true) (hat : ∀ w ∈ vx_at0 own ic cls names, w.before args s = true)
    (hgood : ∀ w ∈ Cond.classLink own ik cls :: Cond.initialized cls :: vx_at0 own ic cls names, vx_ot w = true)
    (hU : vx_Zq Bundle.tN "UNASSIGNED_STACK" Bundle.steD A s s.heap) (hN : vx_Zq Bundle.tN "SUPPRESSED_SENTINEL" Bundle.listD A s s.heap) (hS : va_S A s.heap H locs) (hsize : ls.size = c.maxLocals)
    (d0 : decode cc pc = .ok (.new ik, 3)) (d3 : decode cc (pc + 3) = .ok (.dup, 1)) (d4 : decode cc (pc + 4) = .ok (.invokespecial ic, 3)) (d7 : decode cc (pc + 7) = .ok (.athrow, 1))
    (hout : ∀ x ∈ c.exceptionTable.toList, covers x (pc + 7) = false)
    (hRframes : names.length + 3 < R.frames) (hRlocals : (rest.map fun v => v.category).sum + (13 * (names.length + 1) + 42) ≤ R.locals) (hRcells : cells + 1 ≤ R.cells) (hRslots : slots + 6 ≤ R.slots) (hlocks : meth.locks = false)
    (hx : ∀ t : State, s.vm.Alike t.vm → H.size ≤ t.heap.size → (∀ q : Nat, q < H.size → t.heap[q]? = H[q]?) → XC cls s t)
    (hf : ∀ z ∈ locs, free z.base) (hc : cells + 1 ≤ mc) (hs : slots + 6 ≤ ms) :
    W p l e R s m args below meth c H locs cells slots (vx_MQ below Qc XC args s mc ms free) (F0 m pc ls rest) := by
  intro T hT X
  have htr : e.platform.stackTraces = false := (show e.platform.stackTraces = l.stackTraces by rw [X.admits.platform]).trans hl
  have Y := vx_rebase X (R' := { frames := R.frames, locals := R.locals, cells := 1, slots := 6 }) (Nat.le_refl _) (Nat.le_refl _) hRcells hRslots
  obtain ⟨s', hA⟩ : ∃ z, z = (T.setVm s.vm).setFrames (.invoking m args :: below) := ⟨_, rfl⟩
  rw [← hA] at Y
  have hvm : s'.vm = s.vm := by rw [hA]; rfl
  have hhp : s'.heap = H := by rw [hA]; exact hT
  have hW0 : s.WarmedH s'.vm := by rw [hvm]; exact State.WarmedH.refl s
  have hat' : ∀ w ∈ vx_at0 own ic cls names, w.before args s' = true := fun w hw => vx_ot_at hW0 hvm.symm (hgood w (List.mem_cons_of_mem _ (List.mem_cons_of_mem _ hw))) (hat w hw)
  have hk' : (Cond.classLink own ik cls).before args s' = true := vx_ot_at hW0 hvm.symm (hgood _ List.mem_cons_self) hk
  have hini' : (Cond.initialized cls).before args s' = true := vx_ot_at hW0 hvm.symm (hgood _ (List.mem_cons_of_mem _ List.mem_cons_self)) hini
  have hU' : vx_Zq Bundle.tN "UNASSIGNED_STACK" Bundle.steD A s' s'.heap := by rw [hhp]; exact vx_Zq.moved hW0.alike (hU.kept hS.2.1)
  have hN' : vx_Zq Bundle.tN "SUPPRESSED_SENTINEL" Bundle.listD A s' s'.heap := by rw [hhp]; exact vx_Zq.moved hW0.alike (hN.kept hS.2.1)
  have h : ∀ w ∈ Bundle.ownAtoms0 own ic cls names, w.before args s' = true := vx_own hat' (vx_isRefq hU'.1) (vx_isRefq hN'.1) hU'.2.word hN'.2.word
  have hown' : s'.vm.findClass own = some m.cls := by rw [hvm]; exact hown
  have hins : (Cond.instantiable cls 6).before args s' = true := h _ (by simp [Bundle.ownAtoms0])
  obtain ⟨vm₁, cX, kX, hfX, hkX, -, -, X₁, st1⟩ := Y.newCold hexec (own := own) (C := cls) (index := ik) (n := 6) hown' hk' hins hini'
    (g := F0 m pc ls rest) rfl (by rw [hb]; exact d0) (Nat.le_refl _) (Nat.le_refl _)
  generalize hT1 : (T.setVm vm₁).pushCell { cls := cX, slots := kX.instanceTypes.map defaultValue, vm := .none } = T1 at X₁ st1
  have hcat : (Value.ref T.heap.size).category = 1 := rfl
  have hcellA : T1.heap[T.heap.size]? = some (freshCell cX kX) := by rw [← hT1]; exact State.heap_pushCell_size _ _
  have d3' : decode c.code (pc + 3) = .ok (.dup, 1) := by rw [hb]; exact d3
  obtain ⟨U, hsteps, hrun, hend, hW, hsame, ce, hce, hO⟩ := X₁.ctorThrow0 hexec htr (own := own) (cls := cls) (names := names) (ic := ic) hown' hcls hnames h (fun x hx => nomatch hx) hfX hkX hcellA (by rw [hhp, hT]; exact Nat.le_refl _)
    (g := { method := m, pc := pc + 4, locals := ls, stack := .ref T.heap.size :: .ref T.heap.size :: rest, locked := none }) rfl hsize rfl rfl (rest := rest) rfl
    (by rw [hb]; exact d4) (by rw [hb]; exact d7) hout hRframes (by simp only [List.map_cons, List.sum_cons, hcat]; omega) hlocks
  obtain ⟨f1, f2⟩ := vx_frame hsame
  rw [hhp] at f1 f2
  have hWs : s.WarmedH U.vm := State.WarmedH.trans hW0 hW
  have hcl : s.vm.findClass cls = some ce.cls := by
    have h9 := hO.cls
    rw [hvm] at h9
    exact h9
  have hall : s.sameButNew ({ U with vm := s.vm } : State) locs mc ms := by
    subst hA
    obtain ⟨e1, e2⟩ := hsame
    rw [State.setFrames_setFrames] at e1
    have h2 : (T.setVm s.vm).sameButNew ({ U with vm := s.vm } : State) [] (0 + 1) (0 + 6) := ⟨e1, e2⟩
    have h3 := X.same.trans h2
    rw [List.append_nil] at h3
    exact h3.mono hc hs
  refine ⟨U, ?_, .threw T.heap.size, hrun, hend, Or.inr ⟨T.heap.size, rfl, cls, ce, locs, hx U hWs.alike f1 (fun q hq => f2 q hq (fun z hz => nomatch hz)), hce, hO.vm, hcl, hWs, hall, hf⟩⟩
  refine st1 _ ?_
  show Steps p.tables e below (T1.setTop { method := m, pc := pc + 3, locals := ls, stack := .ref T.heap.size :: rest, locked := none }) _
  jvm_step X₁.here [X₁.here.top, hexec, d3', Value.category]
  exact hsteps
/-- 'throw new E("text")': new; dup; ldc; invokespecial; athrow -/
theorem vx_throwS {cc : ByteArray} {pc : Nat} (hexec : p.tables.exec = Jvm.exec) (hb : c.code = cc) (hl : l.stackTraces = false) {own cls text : String} {names : List String} {ik is ic mc ms sa : Nat} {A : Nat → Prop}
    (hown : s.vm.findClass own = some m.cls) (hcls : Bundle.fit cls = true) (hnames : ∀ n ∈ names, Bundle.fit n = true)
    (hk : (Cond.classLink own ik cls).before args s = true) (hini : (Cond.initialized cls).before args s = true) (hstr : vk_R own is text sa s) (hat : ∀ w ∈ vx_atS own ic cls names, w.before args s = true)
    (hgood : ∀ w ∈ Cond.classLink own ik cls :: Cond.initialized cls :: vx_atS own ic cls names, vx_ot w = true)
    (hU : vx_Zq Bundle.tN "UNASSIGNED_STACK" Bundle.steD A s s.heap) (hN : vx_Zq Bundle.tN "SUPPRESSED_SENTINEL" Bundle.listD A s s.heap) (hS : va_S A s.heap H locs) (hsize : ls.size = c.maxLocals)
    (d0 : decode cc pc = .ok (.new ik, 3)) (d3 : decode cc (pc + 3) = .ok (.dup, 1)) (d4 : decode cc (pc + 4) = .ok (.ldc is, 2)) (d6 : decode cc (pc + 6) = .ok (.invokespecial ic, 3)) (d9 : decode cc (pc + 9) = .ok (.athrow, 1))
    (hout : ∀ x ∈ c.exceptionTable.toList, covers x (pc + 9) = false)
    (hRframes : names.length + 3 < R.frames) (hRlocals : (rest.map fun v => v.category).sum + (13 * (names.length + 1) + 43) ≤ R.locals) (hRcells : cells + 1 ≤ R.cells) (hRslots : slots + 6 ≤ R.slots) (hlocks : meth.locks = false)
    (hx : ∀ t : State, s.vm.Alike t.vm → H.size ≤ t.heap.size → (∀ q : Nat, q < H.size → t.heap[q]? = H[q]?) → XC cls s t)
    (hf : ∀ z ∈ locs, free z.base) (hc : cells + 1 ≤ mc) (hs : slots + 6 ≤ ms) :
    W p l e R s m args below meth c H locs cells slots (vx_MQ below Qc XC args s mc ms free) (F0 m pc ls rest) := by
  intro T hT X
  have htr : e.platform.stackTraces = false := (show e.platform.stackTraces = l.stackTraces by rw [X.admits.platform]).trans hl
  have Y := vx_rebase X (R' := { frames := R.frames, locals := R.locals, cells := 1, slots := 6 }) (Nat.le_refl _) (Nat.le_refl _) hRcells hRslots
  obtain ⟨s', hA⟩ : ∃ z, z = (T.setVm s.vm).setFrames (.invoking m args :: below) := ⟨_, rfl⟩
  rw [← hA] at Y
  have hvm : s'.vm = s.vm := by rw [hA]; rfl
  have hhp : s'.heap = H := by rw [hA]; exact hT
  have hW0 : s.WarmedH s'.vm := by rw [hvm]; exact State.WarmedH.refl s
  have hat' : ∀ w ∈ vx_atS own ic cls names, w.before args s' = true := fun w hw => vx_ot_at hW0 hvm.symm (hgood w (List.mem_cons_of_mem _ (List.mem_cons_of_mem _ hw))) (hat w hw)
  have hk' : (Cond.classLink own ik cls).before args s' = true := vx_ot_at hW0 hvm.symm (hgood _ List.mem_cons_self) hk
  have hini' : (Cond.initialized cls).before args s' = true := vx_ot_at hW0 hvm.symm (hgood _ (List.mem_cons_of_mem _ List.mem_cons_self)) hini
  have hU' : vx_Zq Bundle.tN "UNASSIGNED_STACK" Bundle.steD A s' s'.heap := by rw [hhp]; exact vx_Zq.moved hW0.alike (hU.kept hS.2.1)
  have hN' : vx_Zq Bundle.tN "SUPPRESSED_SENTINEL" Bundle.listD A s' s'.heap := by rw [hhp]; exact vx_Zq.moved hW0.alike (hN.kept hS.2.1)
  have h : ∀ w ∈ Bundle.ownAtoms own ic cls names, w.before args s' = true := vx_own hat' (vx_isRefq hU'.1) (vx_isRefq hN'.1) hU'.2.word hN'.2.word
  have hown' : s'.vm.findClass own = some m.cls := by rw [hvm]; exact hown
  have hins : (Cond.instantiable cls 6).before args s' = true := h _ (by simp [Bundle.ownAtoms])
  obtain ⟨vm₁, cX, kX, hfX, hkX, -, -, X₁, st1⟩ := Y.newCold hexec (own := own) (C := cls) (index := ik) (n := 6) hown' hk' hins hini'
    (g := F0 m pc ls rest) rfl (by rw [hb]; exact d0) (Nat.le_refl _) (Nat.le_refl _)
  generalize hT1 : (T.setVm vm₁).pushCell { cls := cX, slots := kX.instanceTypes.map defaultValue, vm := .none } = T1 at X₁ st1
  have hcat : (Value.ref T.heap.size).category = 1 := rfl
  have hcellA : T1.heap[T.heap.size]? = some (freshCell cX kX) := by rw [← hT1]; exact State.heap_pushCell_size _ _
  have d3' : decode c.code (pc + 3) = .ok (.dup, 1) := by rw [hb]; exact d3
  have d4' : decode c.code (pc + 4) = .ok (.ldc is, 2) := by rw [hb]; exact d4
  have hstr' : vk_R own is text sa s' := vk_R.warm hW0 hstr
  obtain ⟨U, hsteps, hrun, hend, hW, hsame, ce, hce, hO⟩ := X₁.ctorThrowS hexec htr (own := own) (cls := cls) (names := names) (ic := ic) hown' hcls hnames h (fun x hx => nomatch hx) hfX hkX hcellA (by rw [hhp, hT]; exact Nat.le_refl _) (msg := .ref sa) rfl
    (g := { method := m, pc := pc + 6, locals := ls, stack := .ref sa :: .ref T.heap.size :: .ref T.heap.size :: rest, locked := none }) rfl hsize rfl rfl (rest := rest) rfl
    (by rw [hb]; exact d6) (by rw [hb]; exact d9) hout hRframes (by simp only [List.map_cons, List.sum_cons, hcat]; omega) hlocks
  obtain ⟨f1, f2⟩ := vx_frame hsame
  rw [hhp] at f1 f2
  have hWs : s.WarmedH U.vm := State.WarmedH.trans hW0 hW
  have hcl : s.vm.findClass cls = some ce.cls := by
    have h9 := hO.cls
    rw [hvm] at h9
    exact h9
  have hall : s.sameButNew ({ U with vm := s.vm } : State) locs mc ms := by
    subst hA
    obtain ⟨e1, e2⟩ := hsame
    rw [State.setFrames_setFrames] at e1
    have h2 : (T.setVm s.vm).sameButNew ({ U with vm := s.vm } : State) [] (0 + 1) (0 + 6) := ⟨e1, e2⟩
    have h3 := X.same.trans h2
    rw [List.append_nil] at h3
    exact h3.mono hc hs
  refine ⟨U, ?_, .threw T.heap.size, hrun, hend, Or.inr ⟨T.heap.size, rfl, cls, ce, locs, hx U hWs.alike f1 (fun q hq => f2 q hq (fun z hz => nomatch hz)), hce, hO.vm, hcl, hWs, hall, hf⟩⟩
  refine st1 _ ?_
  show Steps p.tables e below (T1.setTop { method := m, pc := pc + 3, locals := ls, stack := .ref T.heap.size :: rest, locked := none }) _
  jvm_step X₁.here [X₁.here.top, hexec, d3', Value.category]
  exact X₁.ldcString hexec (own := own) (text := text) (index := is) (a := sa) hown' hstr'.1 hstr'.2
    (g := { method := m, pc := pc + 4, locals := ls, stack := .ref T.heap.size :: .ref T.heap.size :: rest, locked := none }) rfl d4' _ hsteps
/-- 'throw new E("text")', the text by a wide index -/
theorem vx_throwSW {cc : ByteArray} {pc : Nat} (hexec : p.tables.exec = Jvm.exec) (hb : c.code = cc) (hl : l.stackTraces = false) {own cls text : String} {names : List String} {ik is ic mc ms sa : Nat} {A : Nat → Prop}
    (hown : s.vm.findClass own = some m.cls) (hcls : Bundle.fit cls = true) (hnames : ∀ n ∈ names, Bundle.fit n = true)
    (hk : (Cond.classLink own ik cls).before args s = true) (hini : (Cond.initialized cls).before args s = true) (hstr : vk_R own is text sa s) (hat : ∀ w ∈ vx_atS own ic cls names, w.before args s = true)
    (hgood : ∀ w ∈ Cond.classLink own ik cls :: Cond.initialized cls :: vx_atS own ic cls names, vx_ot w = true)
    (hU : vx_Zq Bundle.tN "UNASSIGNED_STACK" Bundle.steD A s s.heap) (hN : vx_Zq Bundle.tN "SUPPRESSED_SENTINEL" Bundle.listD A s s.heap) (hS : va_S A s.heap H locs) (hsize : ls.size = c.maxLocals)
    (d0 : decode cc pc = .ok (.new ik, 3)) (d3 : decode cc (pc + 3) = .ok (.dup, 1)) (d4 : decode cc (pc + 4) = .ok (.ldc_w is, 3)) (d7 : decode cc (pc + 7) = .ok (.invokespecial ic, 3)) (d10 : decode cc (pc + 10) = .ok (.athrow, 1))
    (hout : ∀ x ∈ c.exceptionTable.toList, covers x (pc + 10) = false)
    (hRframes : names.length + 3 < R.frames) (hRlocals : (rest.map fun v => v.category).sum + (13 * (names.length + 1) + 43) ≤ R.locals) (hRcells : cells + 1 ≤ R.cells) (hRslots : slots + 6 ≤ R.slots) (hlocks : meth.locks = false)
    (hx : ∀ t : State, s.vm.Alike t.vm → H.size ≤ t.heap.size → (∀ q : Nat, q < H.size → t.heap[q]? = H[q]?) → XC cls s t)
    (hf : ∀ z ∈ locs, free z.base) (hc : cells + 1 ≤ mc) (hs : slots + 6 ≤ ms) :
    W p l e R s m args below meth c H locs cells slots (vx_MQ below Qc XC args s mc ms free) (F0 m pc ls rest) := by
  intro T hT X
  have htr : e.platform.stackTraces = false := (show e.platform.stackTraces = l.stackTraces by rw [X.admits.platform]).trans hl
  have Y := vx_rebase X (R' := { frames := R.frames, locals := R.locals, cells := 1, slots := 6 }) (Nat.le_refl _) (Nat.le_refl _) hRcells hRslots
  obtain ⟨s', hA⟩ : ∃ z, z = (T.setVm s.vm).setFrames (.invoking m args :: below) := ⟨_, rfl⟩
  rw [← hA] at Y
  have hvm : s'.vm = s.vm := by rw [hA]; rfl
  have hhp : s'.heap = H := by rw [hA]; exact hT
  have hW0 : s.WarmedH s'.vm := by rw [hvm]; exact State.WarmedH.refl s
  have hat' : ∀ w ∈ vx_atS own ic cls names, w.before args s' = true := fun w hw => vx_ot_at hW0 hvm.symm (hgood w (List.mem_cons_of_mem _ (List.mem_cons_of_mem _ hw))) (hat w hw)
  have hk' : (Cond.classLink own ik cls).before args s' = true := vx_ot_at hW0 hvm.symm (hgood _ List.mem_cons_self) hk
  have hini' : (Cond.initialized cls).before args s' = true := vx_ot_at hW0 hvm.symm (hgood _ (List.mem_cons_of_mem _ List.mem_cons_self)) hini
  have hU' : vx_Zq Bundle.tN "UNASSIGNED_STACK" Bundle.steD A s' s'.heap := by rw [hhp]; exact vx_Zq.moved hW0.alike (hU.kept hS.2.1)
  have hN' : vx_Zq Bundle.tN "SUPPRESSED_SENTINEL" Bundle.listD A s' s'.heap := by rw [hhp]; exact vx_Zq.moved hW0.alike (hN.kept hS.2.1)
  have h : ∀ w ∈ Bundle.ownAtoms own ic cls names, w.before args s' = true := vx_own hat' (vx_isRefq hU'.1) (vx_isRefq hN'.1) hU'.2.word hN'.2.word
  have hown' : s'.vm.findClass own = some m.cls := by rw [hvm]; exact hown
  have hins : (Cond.instantiable cls 6).before args s' = true := h _ (by simp [Bundle.ownAtoms])
  obtain ⟨vm₁, cX, kX, hfX, hkX, -, -, X₁, st1⟩ := Y.newCold hexec (own := own) (C := cls) (index := ik) (n := 6) hown' hk' hins hini'
    (g := F0 m pc ls rest) rfl (by rw [hb]; exact d0) (Nat.le_refl _) (Nat.le_refl _)
  generalize hT1 : (T.setVm vm₁).pushCell { cls := cX, slots := kX.instanceTypes.map defaultValue, vm := .none } = T1 at X₁ st1
  have hcat : (Value.ref T.heap.size).category = 1 := rfl
  have hcellA : T1.heap[T.heap.size]? = some (freshCell cX kX) := by rw [← hT1]; exact State.heap_pushCell_size _ _
  have d3' : decode c.code (pc + 3) = .ok (.dup, 1) := by rw [hb]; exact d3
  have d4' : decode c.code (pc + 4) = .ok (.ldc_w is, 3) := by rw [hb]; exact d4
  have hstr' : vk_R own is text sa s' := vk_R.warm hW0 hstr
  obtain ⟨U, hsteps, hrun, hend, hW, hsame, ce, hce, hO⟩ := X₁.ctorThrowS hexec htr (own := own) (cls := cls) (names := names) (ic := ic) hown' hcls hnames h (fun x hx => nomatch hx) hfX hkX hcellA (by rw [hhp, hT]; exact Nat.le_refl _) (msg := .ref sa) rfl
    (g := { method := m, pc := pc + 7, locals := ls, stack := .ref sa :: .ref T.heap.size :: .ref T.heap.size :: rest, locked := none }) rfl hsize rfl rfl (rest := rest) rfl
    (by rw [hb]; exact d7) (by rw [hb]; exact d10) hout hRframes (by simp only [List.map_cons, List.sum_cons, hcat]; omega) hlocks
  obtain ⟨f1, f2⟩ := vx_frame hsame
  rw [hhp] at f1 f2
  have hWs : s.WarmedH U.vm := State.WarmedH.trans hW0 hW
  have hcl : s.vm.findClass cls = some ce.cls := by
    have h9 := hO.cls
    rw [hvm] at h9
    exact h9
  have hall : s.sameButNew ({ U with vm := s.vm } : State) locs mc ms := by
    subst hA
    obtain ⟨e1, e2⟩ := hsame
    rw [State.setFrames_setFrames] at e1
    have h2 : (T.setVm s.vm).sameButNew ({ U with vm := s.vm } : State) [] (0 + 1) (0 + 6) := ⟨e1, e2⟩
    have h3 := X.same.trans h2
    rw [List.append_nil] at h3
    exact h3.mono hc hs
  refine ⟨U, ?_, .threw T.heap.size, hrun, hend, Or.inr ⟨T.heap.size, rfl, cls, ce, locs, hx U hWs.alike f1 (fun q hq => f2 q hq (fun z hz => nomatch hz)), hce, hO.vm, hcl, hWs, hall, hf⟩⟩
  refine st1 _ ?_
  show Steps p.tables e below (T1.setTop { method := m, pc := pc + 3, locals := ls, stack := .ref T.heap.size :: rest, locked := none }) _
  jvm_step X₁.here [X₁.here.top, hexec, d3', Value.category]
  exact X₁.ldcStringW hexec (own := own) (text := text) (index := is) (a := sa) hown' hstr'.1 hstr'.2
    (g := { method := m, pc := pc + 4, locals := ls, stack := .ref T.heap.size :: .ref T.heap.size :: rest, locked := none }) rfl d4' _ hsteps
end Ends
section Bodies
variable {l : Launch}
theorem vx_ofW {y : MethodName} {ws ws' : List Cond} {rm : Room} {Pc : Array Value → State → Prop} {Qc : Array Value → State → Outcome → State → Prop} {XC : String → State → State → Prop} {mc ms : Nat} {free : Addr → Prop} {cc : ByteArray} {maxL : Nat} {ret : Option FieldType}
    (hy : plainName y.cls = true) (hw : ws = Cond.code y cc maxL ret :: ws')
    (body : ∀ p e s m args below meth c s₁, BodyLoose p l y (headSpec ws rm) cc maxL ret e s m args below meth c s₁ → c.maxLocals = maxL → (∀ x ∈ c.exceptionTable.toList, False) → Pc args s →
      W p l e (headSpec ws rm).room s m args below meth c s.heap [] 0 0 (vx_MQ below Qc XC args s mc ms free) (entryFrame m args maxL)) : vx_Met l y ws rm Pc Qc XC mc ms free := by
  refine MetFree.of_bodyS (code := cc) (maxLocals := maxL) (ret := ret) hy ?_ ?_
  · intro args s m h hn
    obtain ⟨meth, c, h1, h2, h3, h4, h5, h6, -, -⟩ := Cond.code_spec hn (atoms_spec (ws := ws) h _ (by rw [hw]; exact List.mem_cons_self))
    exact ⟨meth, c, h1, h2, h3, h4, h5, h6⟩
  · intro p e s m args below meth c s₁ B hml hP _
    have hh0 : s₁.heap = s.heap := by rw [B.state]; rfl
    have ht : ∀ x ∈ c.exceptionTable.toList, False := by
      obtain ⟨meth9, c9, h1, h2, -, -, -, -, h7, -⟩ := Cond.code_spec B.named (atoms_spec (ws := ws) B.pre _ (by rw [hw]; exact List.mem_cons_self))
      cases Option.some.inj (h1.symm.trans B.method)
      cases Option.some.inj (h2.symm.trans (Stand.of_body B).code)
      intro x hx
      rw [Array.isEmpty_iff.mp h7] at hx
      cases hx
    obtain ⟨t, a1, o, b1, b2, b3⟩ := body p e s m args below meth c s₁ B hml ht hP s₁ hh0 (Stand.of_body B)
    exact ⟨t, o, a1, b1, b2, b3⟩
/-- the table of a body with handlers -/
theorem vx_table {p : Program} {x y : MethodName} {S : Spec} {cc bytes : ByteArray} {maxL maxL' : Nat} {ret ret' : Option FieldType} {e : Env} {s s₁ : State} {m : MethodId} {args : Array Value} {below : List Frame} {meth : Method} {c : Code} {hh : List (Nat × Nat × Nat × Nat)}
    (B : BodyLoose p l y S cc maxL ret e s m args below meth c s₁) (h : (Cond.codeWith y bytes maxL' ret' hh).before args s = true) : c.exceptionTable.toList = tableOf hh := by
  obtain ⟨m9, meth9, c9, hn9, h1, h2, -, -, h6, -⟩ := Cond.codeWith_spec h
  cases Option.some.inj (hn9.symm.trans B.named)
  cases Option.some.inj (h1.symm.trans B.method)
  cases Option.some.inj (h2.symm.trans (Stand.of_body B).code)
  rw [← h6, table_eq]
end Bodies
end VXA
/-! ===== END ===== -/
/-! ===== BEGIN a static call of a method with an exception table ===== -/
section VXS
variable {p : Program} {l : Launch} {e : Env} {R : Room} {s : State} {m : MethodId} {args : Array Value} {below : List Frame} {meth : Method} {c : Code} {T : State} {H : Heap} {locs : List Loc} {cells slots : Nat}
abbrev vx_CSW (R : Room) (s : State) (args : Array Value) (own : String) (index : Nat) (y : MethodName) (bytes : ByteArray) (maxL : Nat) (ret : Option FieldType) (hh : List (Nat × Nat × Nat × Nat)) (ws : List Cond) (rm : Room) (mc ms n : Nat) : Prop :=
  (rm.cells = mc ∧ rm.slots = ms ∧ rm.frames + 1 ≤ R.frames ∧ 8 + (maxL + 11) + rm.locals ≤ R.locals ∧ (∀ w ∈ ws, ∀ (a' : Array Value) (U : State), s.WarmedH U.vm → w.before a' U = true) ∧ Cond.codeWith y bytes maxL ret hh ∈ ws) ∧
  (Cond.codeWith y bytes maxL ret hh).before args s = true ∧ (Cond.initialized y.cls).before args s = true ∧ (y.cls ≠ "java/lang/invoke/MethodHandle" ∧ y.cls ≠ "java/lang/invoke/VarHandle") ∧
  (∀ sig, parseMethodDescriptor y.desc = some sig → n = sig.parameters.length) ∧ (Cond.methodLink own index y).before args s = true ∧ (Cond.static y).before args s = true
theorem vx_cwSW {own : String} {index maxL mc ms : Nat} {y : MethodName} {bytes : ByteArray} {ret : Option FieldType} {hh : List (Nat × Nat × Nat × Nat)} {Ts ws ws' : List Cond} {rm : Room} (n : Nat) (ht : ∀ w ∈ Ts, w.before args s = true) (hT : GoodIn Ts (va_wsS own index y ws)) (hw : ws = Cond.codeWith y bytes maxL ret hh :: ws') (hrc : rm.cells = mc) (hrs : rm.slots = ms)
    (hd : y.cls ≠ "java/lang/invoke/MethodHandle" ∧ y.cls ≠ "java/lang/invoke/VarHandle" ∧ (parseMethodDescriptor y.desc).map (fun d => d.parameters.length) = some n) (hR : rm.frames + 1 ≤ R.frames ∧ 8 + (maxL + 11) + rm.locals ≤ R.locals) :
    vx_CSW R s args own index y bytes maxL ret hh ws rm mc ms n := by
  have ok : ∀ w ∈ va_wsS own index y ws, w.before args s = true := fun w h => ht w (hT w h).1
  have hG : GoodIn Ts ws := fun w h => hT w (by unfold va_wsS; exact List.mem_append_right _ h)
  have hc : Cond.codeWith y bytes maxL ret hh ∈ ws := by rw [hw]; exact List.mem_cons_self
  refine ⟨⟨hrc, hrs, hR.1, hR.2, pay_in ht hG, hc⟩, ht _ (hG _ hc).1, ok _ (by simp [va_wsS]), ⟨hd.1, hd.2.1⟩, fun sig h => ?_, ok _ (by simp [va_wsS]), ok _ (by simp [va_wsS])⟩
  have h2 := hd.2.2
  rw [h] at h2
  exact (Option.some.inj h2).symm
theorem vx_callSW (X : Stand p l e R s m args below meth c T locs cells slots) (hexec : p.tables.exec = Jvm.exec) {own : String} {index : Nat} {y : MethodName} {bytes : ByteArray} {maxL : Nat} {ret : Option FieldType} {hh : List (Nat × Nat × Nat × Nat)}
    (hown : s.vm.findClass own = some m.cls) (hlink : (Cond.methodLink own index y).before args s = true) (hstat : (Cond.static y).before args s = true) (hinit : (Cond.initialized y.cls).before args s = true)
    (hcode : (Cond.codeWith y bytes maxL ret hh).before args s = true) (hy : y.cls ≠ "java/lang/invoke/MethodHandle" ∧ y.cls ≠ "java/lang/invoke/VarHandle")
    {W9 : Nat} {Pre : Pt → Array Value → Prop} {Post : Pt → Array Value → Option Value → Pt → Prop} (hK : Back l R p e below s args y 3 W9 Pre Post)
    {g : JFrame} (hg : g.method = m) (hsize : g.locals.size = c.maxLocals) {argsL rest : List Value} (hlen : ∀ sig, parseMethodDescriptor y.desc = some sig → argsL.length = sig.parameters.length)
    (hstack : g.stack = argsL.reverse ++ rest) (hW : 2 * g.monitorRoom + (rest.map fun v => v.category).sum ≤ W9) (hdg : decode c.code g.pc = .ok (.invokestatic index, 3))
    (hpre : ∀ vm₁, s.WarmedH vm₁ → Pre ⟨T.setVm vm₁, locs, cells, slots⟩ argsL.toArray) :
    ∃ (v : Option Value) (vm₁ : Vm) (B : Pt), s.WarmedH vm₁ ∧ Stand p l e R s m args below meth c B.U B.locs B.cells B.slots ∧ Post ⟨T.setVm vm₁, locs, cells, slots⟩ argsL.toArray v B ∧
      ∀ target, Steps p.tables e below (B.U.setTop { g with pc := g.pc + 3, stack := v.toList ++ rest }) target → Steps p.tables e below (T.setTop g) target := by
  obtain ⟨mk, methM, cM, hnamed, hmethM, -, -, -, -, -, -, hsigM⟩ := Cond.codeWith_spec hcode
  have hstatic : methM.isStatic = true := Cond.static_spec hnamed hmethM hstat
  obtain ⟨kP, hkP, -⟩ := className_of_methodNamed hnamed
  have hinitP : kP.init = .initialized := Cond.initialized_spec (findClass_of_methodNamed hnamed) hkP hinit
  obtain ⟨vm₁, X₁, hstep₁⟩ := X.invokestatic hexec hown hlink hnamed hmethM hstatic hkP hinitP hy (g := g) hg (argsL := argsL) (rest := rest) (hlen _ hsigM) hstack hdg
  obtain ⟨v, B, X', hpost, hsteps⟩ := hK m meth c ⟨T.setVm vm₁, locs, cells, slots⟩ { g with stack := rest } (.invokestatic index) mk argsL.toArray X₁ hg hsize hdg hW (X₁.named hnamed) (hpre vm₁ X₁.warmed)
  exact ⟨v, vm₁, B, X₁.warmed, X', hpost, fun target h => hstep₁ _ fun acts => by rw [doInvoke_state]; exact hsteps.trans h⟩
theorem vx_runSW {y : MethodName} {bytes cc : ByteArray} {maxL nL mc ms n index : Nat} {ret : Option FieldType} {hh : List (Nat × Nat × Nat × Nat)} {ws : List Cond} {rm : Room} {Pc : Array Value → State → Prop} {Qc : Array Value → State → Outcome → State → Prop} {free : Addr → Prop} {Ts : List Cond} {own : String} {As rest : List Value} {g : JFrame}
    (S : CallFix p m c cc nL s args Ts own) (hM : Met l y ws rm Pc Qc mc ms free) (cw : vx_CSW R s args own index y bytes maxL ret hh ws rm mc ms n) (hp : PreS s H Pc As)
    (hg : g.method = m) (hn : As.length = n) (hsize : g.locals.size = nL) (hstack : g.stack = As.reverse ++ rest) (hW : 2 * g.monitorRoom + (rest.map fun v => v.category).sum ≤ 8) (hdg : decode cc g.pc = .ok (.invokestatic index, 3)) (hf : cells + mc ≤ R.cells ∧ slots + ms ≤ R.slots) :
    va_Run p l e R s m args below meth c H locs cells slots mc ms g rest (Qc As.toArray) (free) := by
  obtain ⟨⟨hrc, hrs, hfr, hlo, hws, hcw⟩, hcode, hini, hy, hlen, hl, hstt⟩ := cw
  have hK : Back l R p e below s args y 3 8 (PreOf R mc ms Pc) (PostOf Qc mc ms free) := va_backW (hh := hh) (bytes := bytes) (maxL := maxL) (ret := ret) hM hp.1 hrc hrs hfr hlo hws hcw (fun a' U hW => word_at hW (Or.inl (by first | rfl | simp [Cond.onTables, Cond.keeps, Cond.steady])) hini)
  obtain ⟨hx, hb, hml, ho, -⟩ := S
  intro T hT X
  obtain ⟨v, vm₁, ⟨U', l2, c2, s2⟩, hW₁, X', ⟨g', mk, t, L, e1, e2, hq, h1, hL, h2, h3⟩, st⟩ := vx_callSW X hx (hh := hh) (bytes := bytes) (maxL := maxL) (ret := ret) ho hl hstt hini hcode hy hK hg (hsize.trans hml.symm) (argsL := As) (rest := rest) (fun sig h => hn.trans (hlen sig h)) hstack hW (by rw [hb]; exact hdg)
    (fun vm₁ hW₁ => ⟨hf.1, hf.2, hp.2 (T.setVm vm₁) hT hW₁⟩)
  dsimp only [Pt.U, Pt.locs, Pt.cells, Pt.slots] at X' e1 e2 h1 h2 h3 st
  subst h1; subst h2; subst h3
  exact ⟨v, (T.setVm vm₁).calling g' mk As.toArray, t, U', L, hT, X', hL, e1, e2, hq, st⟩
/-- a thing of a world lies in the heap -/
theorem vx_lt {D : va_G} {cl : List vw_C} {ws : va_W} {H1 : Heap} (h : va_P D cl ws H1) {k : Nat} {q : Nat × va_E} (hk : ws[k]? = some q) : q.1 < H1.size := (h k q hk).lt
end VXS
/-! ===== END ===== -/
/-! ===== BEGIN methods with a table of their own: called by a name, returning or throwing ===== -/
section VXH
/-! vx_backW, vx_callVX, vx_callSX, vx_callVW, vx_runVW, vx_runVX, vx_runSX, vx_ofWH follow the same proofs as their sisters above (Free/Laws.lean, Shelf42/LK1.lean); vx_outP calls Shelf42/NT130.lean (outThrough). -/
section
variable {l : Launch} {R : Room} {p : Program} {e : Env} {below : List Frame} {s : State} {sargs : Array Value} {y : MethodName} {len W9 : Nat}
theorem vx_backW {ws : List Cond} {rm : Room} {Pc : Array Value → State → Prop} {Qc : Array Value → State → Outcome → State → Prop} {XC : String → State → State → Prop} {mc ms : Nat} {free : Addr → Prop} {bytes : ByteArray} {maxL : Nat} {ret : Option FieldType} {hh : List (Nat × Nat × Nat × Nat)}
    (hM : vx_Met l y ws rm Pc Qc XC mc ms free) (hblind : FrameBlind Pc) (hrc : rm.cells = mc) (hrs : rm.slots = ms)
    (hframes : rm.frames + 1 ≤ R.frames) (hlocals : W9 + (maxL + 11) + rm.locals ≤ R.locals)
    (hws : ∀ w ∈ ws, ∀ a' U, s.WarmedH U.vm → w.before a' U = true) (hcode : Cond.codeWith y bytes maxL ret hh ∈ ws) (hinit : ∀ a' U, s.WarmedH U.vm → (Cond.initialized y.cls).before a' U = true) :
    vx_Back l R p e below s sargs y len W9 (PreOf R mc ms Pc) (PostOf Qc mc ms free) (vx_Post XC mc ms free) := by
  intro m meth c A g ig mk a X hg hsize hdg hW hn hp
  have h1 : (headSpec ws rm).pre.before a A.U = true := atoms_intro fun w hw => hws w hw _ _ X.warmed
  have h2 : (Cond.codeWith y bytes maxL ret hh).before a A.U = true := hws _ hcode _ _ X.warmed
  have h3 : (Cond.initialized y.cls).before a A.U = true := hinit _ _ X.warmed
  have h4 : A.cells + (headSpec ws rm).room.cells ≤ R.cells := by rw [show (headSpec ws rm).room.cells = mc from hrc]; exact hp.1
  have h5 : A.slots + (headSpec ws rm).room.slots ≤ R.slots := by rw [show (headSpec ws rm).room.slots = ms from hrs]; exact hp.2.1
  have hPc : Pc a (A.U.calling g mk a) := hblind _ _ _ _ hp.2.2
  obtain ⟨U, Ls, c0, s0⟩ := A
  dsimp only [Pt.U, Pt.locs, Pt.cells, Pt.slots] at h1 h2 h3 h4 h5 X hn hPc ⊢
  obtain ⟨m9, methY, cY, hn9, hmY, hcY, -, hlY, -⟩ := Cond.codeWith_spec h2
  cases Option.some.inj (hn9.symm.trans hn)
  obtain ⟨kY, hkY, -⟩ := className_of_methodNamed hn
  have hinitY : kY.init = .initialized := Cond.initialized_spec (findClass_of_methodNamed hn) hkY h3
  have h : At U g.method c below := by rw [hg]; exact X.here
  have hlocals9 : W9 + (maxL + 11) + (headSpec ws rm).room.locals ≤ R.locals := hlocals
  have happ : (headSpec ws rm).appliesLoose y e.platform (U.calling g mk a) = true :=
    Spec.appliesLoose_calling (g := g) h hdg hn hkY hinitY
      (X.room_calling (g := g) (R' := (headSpec ws rm).room) hsize hmY hcY hframes (by rw [hlY]; omega) h4 h5) h1
  obtain ⟨mid, hmid⟩ := h.above
  have hfr : (U.setTop g).frames = (.java g :: mid) ++ below := by rw [State.frames_setTop' g h.top, hmid]; rfl
  obtain ⟨o, s₂, hsteps, -, hend, hq⟩ := Steps.callFree hM p X.admits X.cas X.clock (acts := []) hfr happ hPc trivial
  have hq' : vx_Q Qc XC mc ms free a (U.calling g mk a) o s₂ := hq
  rw [State.frames_setTop' g h.top] at hend
  obtain ⟨g₀, hg0⟩ := Option.isSome_iff_exists.mp h.top
  obtain ⟨r, hr⟩ := State.topJava?_eq_some.mp hg0
  have hr' : (({ U with heap := s₂.heap, slotsUsed := s₂.slotsUsed } : State).setVm s₂.vm).frames = .java g₀ :: r := hr
  rcases hq' with ⟨hqc, L, hfe, hL⟩ | ⟨q, rfl, E, ce, L, hx, hce, hcv, hcl, hW₂, hsm, hL⟩
  · obtain ⟨⟨v, rfl⟩, hW₂, e2, q2, q3, q4, q5, q6⟩ := id hfe
    have e3 : s₂ = ({ (U.calling g mk a).setFrames s₂.frames with heap := s₂.heap, slotsUsed := s₂.slotsUsed } : State).setVm s₂.vm := by
      have : s₂ = ({ s₂ with vm := (U.calling g mk a).vm } : State).setVm s₂.vm := rfl
      rw [e2] at this
      exact this
    obtain ⟨c₂, i₂, len₂, hc₂, hd₂, hf₂⟩ := hend
    have hW' : U.WarmedH s₂.vm := hW₂
    have hcc : c₂ = c := by
      have h1 : s₂.code? g.method = U.code? g.method := by
        rw [State.code?_eq, State.code?_eq, hW'.alike.method?]
      exact Option.some.inj (hc₂.symm.trans (h1.trans h.code))
    subst hcc
    have hlen : len₂ = len := by rw [hdg] at hd₂; cases hd₂; rfl
    subst hlen
    have hs₂ : s₂ = (({ U with heap := s₂.heap, slotsUsed := s₂.slotsUsed } : State).setVm s₂.vm).setTop { g with pc := g.pc + len₂, stack := v.toList ++ g.stack } := by
      refine e3.trans ?_
      rw [hf₂, State.calling_eq h.top, State.setFrames_setFrames, State.setTop_of_frames _ hr', hr]
      rfl
    have hsame : U.sameButNew ({ U with heap := s₂.heap, slotsUsed := s₂.slotsUsed } : State) L mc ms := by
      refine ⟨?_, q2, q3, q4, q5, q6⟩
      obtain ⟨t, ht, -⟩ := State.frames_cons hr
      show ({ U with heap := s₂.heap, slotsUsed := s₂.slotsUsed } : State) = { U.setFrames U.frames with heap := s₂.heap, slotsUsed := s₂.slotsUsed }
      rw [State.setFrames_self ht]
    subst hg
    refine Or.inl ⟨v, ⟨(({ U with heap := s₂.heap, slotsUsed := s₂.slotsUsed } : State).setVm s₂.vm), Ls ++ L, c0 + mc, s0 + ms⟩,
      ⟨X.admits, X.cas, X.clock, X.frames, X.room, X.hears, X.method, X.code, (X.here.setHeapUsed s₂.heap s₂.slotsUsed).setVm hW'.alike, X.tail, State.WarmedH.trans X.warmed hW', X.limits, X.bytes, X.same.trans (hsame.setVm s.vm)⟩,
      ⟨g, mk, s₂, L, rfl, rfl, hqc, rfl, hL, rfl, rfl⟩, ?_⟩
    show Steps p.tables e below _ ((({ U with heap := s₂.heap, slotsUsed := s₂.slotsUsed } : State).setVm s₂.vm).setTop { g with pc := g.pc + len₂, stack := v.toList ++ g.stack })
    rw [← hs₂]
    exact hsteps
  · obtain ⟨e2, q2, q3, q4, q5, q6⟩ := id hsm
    have e3 : s₂ = ({ (U.calling g mk a).setFrames s₂.frames with heap := s₂.heap, slotsUsed := s₂.slotsUsed } : State).setVm s₂.vm := by
      have : s₂ = ({ s₂ with vm := (U.calling g mk a).vm } : State).setVm s₂.vm := rfl
      rw [e2] at this
      exact this
    have hf₂ : s₂.frames = .throwing q :: .java g :: U.frames.tail := hend
    have hW' : U.WarmedH s₂.vm := hW₂
    have hs₂ : s₂ = ((({ U with heap := s₂.heap, slotsUsed := s₂.slotsUsed } : State).setVm s₂.vm).setTop g).pushFrame (.throwing q) := by
      refine e3.trans ?_
      rw [hf₂, State.calling_eq h.top, State.setFrames_setFrames, State.pushFrame, State.frames_setTop _ hr', State.setTop_of_frames _ hr', State.setFrames_setFrames, hr]
      rfl
    have hsame : U.sameButNew ({ U with heap := s₂.heap, slotsUsed := s₂.slotsUsed } : State) L mc ms := by
      refine ⟨?_, q2, q3, q4, q5, q6⟩
      obtain ⟨t, ht, -⟩ := State.frames_cons hr
      show ({ U with heap := s₂.heap, slotsUsed := s₂.slotsUsed } : State) = { U.setFrames U.frames with heap := s₂.heap, slotsUsed := s₂.slotsUsed }
      rw [State.setFrames_self ht]
    subst hg
    refine Or.inr ⟨q, ⟨(({ U with heap := s₂.heap, slotsUsed := s₂.slotsUsed } : State).setVm s₂.vm), Ls ++ L, c0 + mc, s0 + ms⟩,
      ⟨X.admits, X.cas, X.clock, X.frames, X.room, X.hears, X.method, X.code, (X.here.setHeapUsed s₂.heap s₂.slotsUsed).setVm hW'.alike, X.tail, State.WarmedH.trans X.warmed hW', X.limits, X.bytes, X.same.trans (hsame.setVm s.vm)⟩,
      ⟨g, mk, s₂, L, E, ce, rfl, rfl, hx, hce, hcv, hcl, rfl, hL, rfl, rfl⟩, ?_⟩
    show Steps p.tables e below _ (((({ U with heap := s₂.heap, slotsUsed := s₂.slotsUsed } : State).setVm s₂.vm).setTop g).pushFrame (.throwing q))
    rw [← hs₂]
    exact hsteps
end
variable {p : Program} {l : Launch} {e : Env} {R : Room} {s : State} {m : MethodId} {args : Array Value} {below : List Frame} {meth : Method} {c : Code} {T : State} {H : Heap} {locs : List Loc} {cells slots : Nat}
theorem vx_callVX (X : Stand p l e R s m args below meth c T locs cells slots) (hexec : p.tables.exec = Jvm.exec) {own C : String} {index : Nat} {y : MethodName} {bytes : ByteArray} {maxL : Nat} {ret : Option FieldType} {hh : List (Nat × Nat × Nat × Nat)}
    (hown : s.vm.findClass own = some m.cls) (hlink : (Cond.methodLink own index y).before args s = true) (hinst : (Cond.instanceMethod y).before args s = true) (hsel : (Cond.selects C y y).before args s = true)
    (hcode : (Cond.codeWith y bytes maxL ret hh).before args s = true) (hy : y.cls ≠ "java/lang/invoke/MethodHandle" ∧ y.cls ≠ "java/lang/invoke/VarHandle")
    {W9 : Nat} {Pre : Pt → Array Value → Prop} {Post : Pt → Array Value → Option Value → Pt → Prop} {PostX : Pt → Array Value → Addr → Pt → Prop} (hK : vx_Back l R p e below s args y 3 W9 Pre Post PostX)
    {b : Addr} {cellB : Cell} (hcell : T.heap[b]? = some cellB) (hobj : cellB.vm.isStatics = false) (hcls : s.vm.findClass C = some cellB.cls)
    {g : JFrame} (hg : g.method = m) (hsize : g.locals.size = c.maxLocals) {argsL rest : List Value} (hlen : ∀ sig, parseMethodDescriptor y.desc = some sig → argsL.length = sig.parameters.length)
    (hstack : g.stack = argsL.reverse ++ .ref b :: rest) (hW : 2 * g.monitorRoom + (rest.map fun v => v.category).sum ≤ W9) (hdg : decode c.code g.pc = .ok (.invokevirtual index, 3))
    (hpre : ∀ vm₁, s.WarmedH vm₁ → Pre ⟨T.setVm vm₁, locs, cells, slots⟩ (Value.ref b :: argsL).toArray) :
    (∃ (v : Option Value) (vm₁ : Vm) (B : Pt), s.WarmedH vm₁ ∧ Stand p l e R s m args below meth c B.U B.locs B.cells B.slots ∧ Post ⟨T.setVm vm₁, locs, cells, slots⟩ (Value.ref b :: argsL).toArray v B ∧
      ∀ target, Steps p.tables e below (B.U.setTop { g with pc := g.pc + 3, stack := v.toList ++ rest }) target → Steps p.tables e below (T.setTop g) target) ∨
    (∃ (q : Addr) (vm₁ : Vm) (B : Pt), s.WarmedH vm₁ ∧ Stand p l e R s m args below meth c B.U B.locs B.cells B.slots ∧ PostX ⟨T.setVm vm₁, locs, cells, slots⟩ (Value.ref b :: argsL).toArray q B ∧
      Steps p.tables e below (T.setTop g) ((B.U.setTop { g with stack := rest }).pushFrame (.throwing q))) := by
  obtain ⟨mk, methM, hnamed, hmethM, hstM, habM⟩ := Cond.instanceMethod_spec hinst
  obtain ⟨m8, methM', cM, hn8, hmethM', -, -, -, -, -, -, hsigM⟩ := Cond.codeWith_spec hcode
  cases Option.some.inj (hn8.symm.trans hnamed)
  cases hmethM.symm.trans hmethM'
  obtain ⟨c2, r2, m2, q1, q2, q3, q4, kP, hkP, hkPi⟩ := Cond.selects_spec hsel
  cases hcls.symm.trans q1
  cases (State.methodFound?_of_named hnamed hy).symm.trans q2
  cases hnamed.symm.trans q3
  have hselP : selectMethod e.platform s.vm cellB.cls mk = .method mk := by rw [Launch.admits_selectMethod X.admits]; exact q4
  obtain ⟨vm₁, X₁, hstep₁⟩ := X.invokevirtual hexec hown hlink hnamed hmethM hstM hkP hkPi hy (a := b) (cell := cellB) hcell
    (fun z h => by rw [h] at hobj; cases hobj) hselP hmethM habM hkP hkPi (g := g) hg (argsL := argsL) (rest := rest) (hlen _ hsigM) hstack hdg
  rcases hK m meth c ⟨T.setVm vm₁, locs, cells, slots⟩ { g with stack := rest } (.invokevirtual index) mk (Value.ref b :: argsL).toArray X₁ hg hsize hdg hW (X₁.named hnamed) (hpre vm₁ X₁.warmed) with ⟨v, B, X', hpost, hsteps⟩ | ⟨q, B, X', hpost, hsteps⟩
  · exact Or.inl ⟨v, vm₁, B, X₁.warmed, X', hpost, fun target h => hstep₁ _ fun acts => by rw [doInvoke_state]; exact hsteps.trans h⟩
  · exact Or.inr ⟨q, vm₁, B, X₁.warmed, X', hpost, hstep₁ _ fun acts => by rw [doInvoke_state]; exact hsteps⟩
theorem vx_callSX (X : Stand p l e R s m args below meth c T locs cells slots) (hexec : p.tables.exec = Jvm.exec) {own : String} {index : Nat} {y : MethodName} {bytes : ByteArray} {maxL : Nat} {ret : Option FieldType} {hh : List (Nat × Nat × Nat × Nat)}
    (hown : s.vm.findClass own = some m.cls) (hlink : (Cond.methodLink own index y).before args s = true) (hstat : (Cond.static y).before args s = true) (hinit : (Cond.initialized y.cls).before args s = true)
    (hcode : (Cond.codeWith y bytes maxL ret hh).before args s = true) (hy : y.cls ≠ "java/lang/invoke/MethodHandle" ∧ y.cls ≠ "java/lang/invoke/VarHandle")
    {W9 : Nat} {Pre : Pt → Array Value → Prop} {Post : Pt → Array Value → Option Value → Pt → Prop} {PostX : Pt → Array Value → Addr → Pt → Prop} (hK : vx_Back l R p e below s args y 3 W9 Pre Post PostX)
    {g : JFrame} (hg : g.method = m) (hsize : g.locals.size = c.maxLocals) {argsL rest : List Value} (hlen : ∀ sig, parseMethodDescriptor y.desc = some sig → argsL.length = sig.parameters.length)
    (hstack : g.stack = argsL.reverse ++ rest) (hW : 2 * g.monitorRoom + (rest.map fun v => v.category).sum ≤ W9) (hdg : decode c.code g.pc = .ok (.invokestatic index, 3))
    (hpre : ∀ vm₁, s.WarmedH vm₁ → Pre ⟨T.setVm vm₁, locs, cells, slots⟩ argsL.toArray) :
    (∃ (v : Option Value) (vm₁ : Vm) (B : Pt), s.WarmedH vm₁ ∧ Stand p l e R s m args below meth c B.U B.locs B.cells B.slots ∧ Post ⟨T.setVm vm₁, locs, cells, slots⟩ argsL.toArray v B ∧
      ∀ target, Steps p.tables e below (B.U.setTop { g with pc := g.pc + 3, stack := v.toList ++ rest }) target → Steps p.tables e below (T.setTop g) target) ∨
    (∃ (q : Addr) (vm₁ : Vm) (B : Pt), s.WarmedH vm₁ ∧ Stand p l e R s m args below meth c B.U B.locs B.cells B.slots ∧ PostX ⟨T.setVm vm₁, locs, cells, slots⟩ argsL.toArray q B ∧
      Steps p.tables e below (T.setTop g) ((B.U.setTop { g with stack := rest }).pushFrame (.throwing q))) := by
  obtain ⟨mk, methM, cM, hnamed, hmethM, -, -, -, -, -, -, hsigM⟩ := Cond.codeWith_spec hcode
  have hstatic : methM.isStatic = true := Cond.static_spec hnamed hmethM hstat
  obtain ⟨kP, hkP, -⟩ := className_of_methodNamed hnamed
  have hinitP : kP.init = .initialized := Cond.initialized_spec (findClass_of_methodNamed hnamed) hkP hinit
  obtain ⟨vm₁, X₁, hstep₁⟩ := X.invokestatic hexec hown hlink hnamed hmethM hstatic hkP hinitP hy (g := g) hg (argsL := argsL) (rest := rest) (hlen _ hsigM) hstack hdg
  rcases hK m meth c ⟨T.setVm vm₁, locs, cells, slots⟩ { g with stack := rest } (.invokestatic index) mk argsL.toArray X₁ hg hsize hdg hW (X₁.named hnamed) (hpre vm₁ X₁.warmed) with ⟨v, B, X', hpost, hsteps⟩ | ⟨q, B, X', hpost, hsteps⟩
  · exact Or.inl ⟨v, vm₁, B, X₁.warmed, X', hpost, fun target h => hstep₁ _ fun acts => by rw [doInvoke_state]; exact hsteps.trans h⟩
  · exact Or.inr ⟨q, vm₁, B, X₁.warmed, X', hpost, hstep₁ _ fun acts => by rw [doInvoke_state]; exact hsteps⟩
theorem vx_callVW (X : Stand p l e R s m args below meth c T locs cells slots) (hexec : p.tables.exec = Jvm.exec) {own C : String} {index : Nat} {y : MethodName} {bytes : ByteArray} {maxL : Nat} {ret : Option FieldType} {hh : List (Nat × Nat × Nat × Nat)}
    (hown : s.vm.findClass own = some m.cls) (hlink : (Cond.methodLink own index y).before args s = true) (hinst : (Cond.instanceMethod y).before args s = true) (hsel : (Cond.selects C y y).before args s = true)
    (hcode : (Cond.codeWith y bytes maxL ret hh).before args s = true) (hy : y.cls ≠ "java/lang/invoke/MethodHandle" ∧ y.cls ≠ "java/lang/invoke/VarHandle")
    {W9 : Nat} {Pre : Pt → Array Value → Prop} {Post : Pt → Array Value → Option Value → Pt → Prop} (hK : Back l R p e below s args y 3 W9 Pre Post)
    {b : Addr} {cellB : Cell} (hcell : T.heap[b]? = some cellB) (hobj : cellB.vm.isStatics = false) (hcls : s.vm.findClass C = some cellB.cls)
    {g : JFrame} (hg : g.method = m) (hsize : g.locals.size = c.maxLocals) {argsL rest : List Value} (hlen : ∀ sig, parseMethodDescriptor y.desc = some sig → argsL.length = sig.parameters.length)
    (hstack : g.stack = argsL.reverse ++ .ref b :: rest) (hW : 2 * g.monitorRoom + (rest.map fun v => v.category).sum ≤ W9) (hdg : decode c.code g.pc = .ok (.invokevirtual index, 3))
    (hpre : ∀ vm₁, s.WarmedH vm₁ → Pre ⟨T.setVm vm₁, locs, cells, slots⟩ (Value.ref b :: argsL).toArray) :
    ∃ (v : Option Value) (vm₁ : Vm) (B : Pt), s.WarmedH vm₁ ∧ Stand p l e R s m args below meth c B.U B.locs B.cells B.slots ∧ Post ⟨T.setVm vm₁, locs, cells, slots⟩ (Value.ref b :: argsL).toArray v B ∧
      ∀ target, Steps p.tables e below (B.U.setTop { g with pc := g.pc + 3, stack := v.toList ++ rest }) target → Steps p.tables e below (T.setTop g) target := by
  obtain ⟨mk, methM, hnamed, hmethM, hstM, habM⟩ := Cond.instanceMethod_spec hinst
  obtain ⟨m8, methM', cM, hn8, hmethM', -, -, -, -, -, -, hsigM⟩ := Cond.codeWith_spec hcode
  cases Option.some.inj (hn8.symm.trans hnamed)
  cases hmethM.symm.trans hmethM'
  obtain ⟨c2, r2, m2, q1, q2, q3, q4, kP, hkP, hkPi⟩ := Cond.selects_spec hsel
  cases hcls.symm.trans q1
  cases (State.methodFound?_of_named hnamed hy).symm.trans q2
  cases hnamed.symm.trans q3
  have hselP : selectMethod e.platform s.vm cellB.cls mk = .method mk := by rw [Launch.admits_selectMethod X.admits]; exact q4
  obtain ⟨vm₁, X₁, hstep₁⟩ := X.invokevirtual hexec hown hlink hnamed hmethM hstM hkP hkPi hy (a := b) (cell := cellB) hcell
    (fun z h => by rw [h] at hobj; cases hobj) hselP hmethM habM hkP hkPi (g := g) hg (argsL := argsL) (rest := rest) (hlen _ hsigM) hstack hdg
  obtain ⟨v, B, X', hpost, hsteps⟩ := hK m meth c ⟨T.setVm vm₁, locs, cells, slots⟩ { g with stack := rest } (.invokevirtual index) mk (Value.ref b :: argsL).toArray X₁ hg hsize hdg hW (X₁.named hnamed) (hpre vm₁ X₁.warmed)
  exact ⟨v, vm₁, B, X₁.warmed, X', hpost, fun target h => hstep₁ _ fun acts => by rw [doInvoke_state]; exact hsteps.trans h⟩
abbrev vx_CVW (R : Room) (s : State) (args : Array Value) (own C : String) (index : Nat) (y : MethodName) (bytes : ByteArray) (maxL : Nat) (ret : Option FieldType) (hh : List (Nat × Nat × Nat × Nat)) (ws : List Cond) (rm : Room) (mc ms n : Nat) : Prop :=
  (rm.cells = mc ∧ rm.slots = ms ∧ rm.frames + 1 ≤ R.frames ∧ 8 + (maxL + 11) + rm.locals ≤ R.locals ∧ (∀ w ∈ ws, ∀ (a' : Array Value) (U : State), s.WarmedH U.vm → w.before a' U = true) ∧ Cond.codeWith y bytes maxL ret hh ∈ ws) ∧
  (Cond.codeWith y bytes maxL ret hh).before args s = true ∧ (Cond.initialized y.cls).before args s = true ∧ (y.cls ≠ "java/lang/invoke/MethodHandle" ∧ y.cls ≠ "java/lang/invoke/VarHandle") ∧
  (∀ sig, parseMethodDescriptor y.desc = some sig → n = sig.parameters.length) ∧ (Cond.methodLink own index y).before args s = true ∧ (Cond.instanceMethod y).before args s = true ∧ (Cond.selects C y y).before args s = true
theorem vx_cwVW {own C : String} {index maxL mc ms : Nat} {y : MethodName} {bytes : ByteArray} {ret : Option FieldType} {hh : List (Nat × Nat × Nat × Nat)} {Ts ws ws' : List Cond} {rm : Room} (n : Nat) (ht : ∀ w ∈ Ts, w.before args s = true) (hT : GoodIn Ts (wsV own index C y ws)) (hw : ws = Cond.codeWith y bytes maxL ret hh :: ws') (hrc : rm.cells = mc) (hrs : rm.slots = ms)
    (hd : y.cls = C ∧ y.cls ≠ "java/lang/invoke/MethodHandle" ∧ y.cls ≠ "java/lang/invoke/VarHandle" ∧ (parseMethodDescriptor y.desc).map (fun d => d.parameters.length) = some n) (hR : rm.frames + 1 ≤ R.frames ∧ 8 + (maxL + 11) + rm.locals ≤ R.locals) :
    vx_CVW R s args own C index y bytes maxL ret hh ws rm mc ms n := by
  obtain ⟨hC, hd⟩ := hd
  subst hC
  have ok : ∀ w ∈ wsV own index y.cls y ws, w.before args s = true := fun w h => ht w (hT w h).1
  have hG : GoodIn Ts ws := fun w h => hT w (by unfold wsV; exact List.mem_append_right _ h)
  have hc : Cond.codeWith y bytes maxL ret hh ∈ ws := by rw [hw]; exact List.mem_cons_self
  refine ⟨⟨hrc, hrs, hR.1, hR.2, pay_in ht hG, hc⟩, ht _ (hG _ hc).1, ok _ (by simp [wsV]), ⟨hd.1, hd.2.1⟩, fun sig h => ?_, ok _ (by simp [wsV]), ok _ (by simp [wsV]), ok _ (by simp [wsV])⟩
  have h2 := hd.2.2
  rw [h] at h2
  exact (Option.some.inj h2).symm
theorem vx_runVW {y : MethodName} {bytes cc : ByteArray} {maxL nL mc ms n index : Nat} {ret : Option FieldType} {hh : List (Nat × Nat × Nat × Nat)} {ws : List Cond} {rm : Room} {Pc : Array Value → State → Prop} {Qc : Array Value → State → Outcome → State → Prop} {free : Addr → Prop} {Ts : List Cond} {own C : String} {b : Addr} {As rest : List Value} {g : JFrame}
    (S : CallFix p m c cc nL s args Ts own) (hM : Met l y ws rm Pc Qc mc ms free) (cw : vx_CVW R s args own C index y bytes maxL ret hh ws rm mc ms n) (hp : PreV s H C b Pc As)
    (hg : g.method = m) (hn : As.length = n) (hsize : g.locals.size = nL) (hstack : g.stack = As.reverse ++ .ref b :: rest) (hW : 2 * g.monitorRoom + (rest.map fun v => v.category).sum ≤ 8) (hdg : decode cc g.pc = .ok (.invokevirtual index, 3)) (hf : cells + mc ≤ R.cells ∧ slots + ms ≤ R.slots) :
    va_Run p l e R s m args below meth c H locs cells slots mc ms g rest (Qc (Value.ref b :: As).toArray) free := by
  obtain ⟨⟨hrc, hrs, hfr, hlo, hws, hcw⟩, hcode, hini, hy, hlen, hl, hin, hse⟩ := cw
  have hK : Back l R p e below s args y 3 8 (PreOf R mc ms Pc) (PostOf Qc mc ms free) := va_backW (hh := hh) (bytes := bytes) (maxL := maxL) (ret := ret) hM hp.1 hrc hrs hfr hlo hws hcw (fun a' U hW => word_at hW (Or.inl (by first | rfl | simp [Cond.onTables, Cond.keeps, Cond.steady])) hini)
  obtain ⟨hx, hb, hml, ho, -⟩ := S
  obtain ⟨-, ⟨cellB, hcB, hoB, hclB⟩, hPc⟩ := hp
  intro T hT X
  obtain ⟨v, vm₁, ⟨U', l2, c2, s2⟩, hW₁, X', ⟨g', mk, t, L, e1, e2, hq, h1, hL, h2, h3⟩, st⟩ := vx_callVW X hx (C := C) (hh := hh) (bytes := bytes) (maxL := maxL) (ret := ret) ho hl hin hse hcode hy hK (by rw [hT]; exact hcB) hoB hclB hg (hsize.trans hml.symm) (argsL := As) (rest := rest) (fun sig h => hn.trans (hlen sig h)) hstack hW (by rw [hb]; exact hdg)
    (fun vm₁ hW₁ => ⟨hf.1, hf.2, hPc (T.setVm vm₁) hT hW₁⟩)
  dsimp only [Pt.U, Pt.locs, Pt.cells, Pt.slots] at X' e1 e2 h1 h2 h3 st
  subst h1; subst h2; subst h3
  exact ⟨v, (T.setVm vm₁).calling g' mk (Value.ref b :: As).toArray, t, U', L, hT, X', hL, e1, e2, hq, st⟩
section
variable {y : MethodName} {bytes cc : ByteArray} {maxL nL mc ms n index : Nat} {ret : Option FieldType} {ws : List Cond} {rm : Room} {Pc : Array Value → State → Prop} {Qc : Array Value → State → Outcome → State → Prop} {XC : String → State → State → Prop} {free : Addr → Prop} {Ts : List Cond} {own C : String} {b : Addr} {As rest : List Value} {g : JFrame}
theorem vx_runVX {hh : List (Nat × Nat × Nat × Nat)} (S : CallFix p m c cc nL s args Ts own) (hM : vx_Met l y ws rm Pc Qc XC mc ms free) (cw : vx_CVW R s args own C index y bytes maxL ret hh ws rm mc ms n) (hp : PreV s H C b Pc As)
    (hg : g.method = m) (hn : As.length = n) (hsize : g.locals.size = nL) (hstack : g.stack = As.reverse ++ .ref b :: rest) (hW : 2 * g.monitorRoom + (rest.map fun v => v.category).sum ≤ 8) (hdg : decode cc g.pc = .ok (.invokevirtual index, 3)) (hf : cells + mc ≤ R.cells ∧ slots + ms ≤ R.slots) :
    vx_Run p l e R s m args below meth c H locs cells slots mc ms g rest (Qc (Value.ref b :: As).toArray) XC free := by
  obtain ⟨⟨hrc, hrs, hfr, hlo, hws, hcw⟩, hcode, hini, hy, hlen, hl, hin, hse⟩ := cw
  have hK : vx_Back l R p e below s args y 3 8 (PreOf R mc ms Pc) (PostOf Qc mc ms free) (vx_Post XC mc ms free) := vx_backW (hh := hh) (bytes := bytes) (maxL := maxL) (ret := ret) hM hp.1 hrc hrs hfr hlo hws hcw (fun a' U hW => word_at hW (Or.inl (by first | rfl | simp [Cond.onTables, Cond.keeps, Cond.steady])) hini)
  obtain ⟨hx, hb, hml, ho, -⟩ := S
  obtain ⟨-, ⟨cellB, hcB, hoB, hclB⟩, hPc⟩ := hp
  intro T hT X
  rcases vx_callVX X hx (C := C) (hh := hh) (bytes := bytes) (maxL := maxL) (ret := ret) ho hl hin hse hcode hy hK (by rw [hT]; exact hcB) hoB hclB hg (hsize.trans hml.symm) (argsL := As) (rest := rest) (fun sig h => hn.trans (hlen sig h)) hstack hW (by rw [hb]; exact hdg)
    (fun vm₁ hW₁ => ⟨hf.1, hf.2, hPc (T.setVm vm₁) hT hW₁⟩) with ⟨v, vm₁, ⟨U', l2, c2, s2⟩, hW₁, X', ⟨g', mk, t, L, e1, e2, hq, h1, hL, h2, h3⟩, st⟩ | ⟨q, vm₁, ⟨U', l2, c2, s2⟩, hW₁, X', ⟨g', mk, t, L, E, ce, e1, e2, hq, hce, hcv, hcl, h1, hL, h2, h3⟩, st⟩
  · dsimp only [Pt.U, Pt.locs, Pt.cells, Pt.slots] at X' e1 e2 h1 h2 h3 st
    subst h1; subst h2; subst h3
    exact Or.inl ⟨v, (T.setVm vm₁).calling g' mk (Value.ref b :: As).toArray, t, U', L, hT, X', hL, e1, e2, hq, st⟩
  · dsimp only [Pt.U, Pt.locs, Pt.cells, Pt.slots] at X' e1 e2 h1 h2 h3 st hcl
    subst h1; subst h2; subst h3
    exact Or.inr ⟨q, (T.setVm vm₁).calling g' mk (Value.ref b :: As).toArray, t, U', L, E, ce, hT, X', hL, e1, e2, hq, hce, hcv, vx_cls hW₁ hcl, st⟩
theorem vx_runSX {hh : List (Nat × Nat × Nat × Nat)} (S : CallFix p m c cc nL s args Ts own) (hM : vx_Met l y ws rm Pc Qc XC mc ms free) (cw : vx_CSW R s args own index y bytes maxL ret hh ws rm mc ms n) (hp : PreS s H Pc As)
    (hg : g.method = m) (hn : As.length = n) (hsize : g.locals.size = nL) (hstack : g.stack = As.reverse ++ rest) (hW : 2 * g.monitorRoom + (rest.map fun v => v.category).sum ≤ 8) (hdg : decode cc g.pc = .ok (.invokestatic index, 3)) (hf : cells + mc ≤ R.cells ∧ slots + ms ≤ R.slots) :
    vx_Run p l e R s m args below meth c H locs cells slots mc ms g rest (Qc As.toArray) XC free := by
  obtain ⟨⟨hrc, hrs, hfr, hlo, hws, hcw⟩, hcode, hini, hy, hlen, hl, hstt⟩ := cw
  have hK : vx_Back l R p e below s args y 3 8 (PreOf R mc ms Pc) (PostOf Qc mc ms free) (vx_Post XC mc ms free) := vx_backW (hh := hh) (bytes := bytes) (maxL := maxL) (ret := ret) hM hp.1 hrc hrs hfr hlo hws hcw (fun a' U hW => word_at hW (Or.inl (by first | rfl | simp [Cond.onTables, Cond.keeps, Cond.steady])) hini)
  obtain ⟨hx, hb, hml, ho, -⟩ := S
  intro T hT X
  rcases vx_callSX X hx (hh := hh) (bytes := bytes) (maxL := maxL) (ret := ret) ho hl hstt hini hcode hy hK hg (hsize.trans hml.symm) (argsL := As) (rest := rest) (fun sig h => hn.trans (hlen sig h)) hstack hW (by rw [hb]; exact hdg)
    (fun vm₁ hW₁ => ⟨hf.1, hf.2, hp.2 (T.setVm vm₁) hT hW₁⟩) with ⟨v, vm₁, ⟨U', l2, c2, s2⟩, hW₁, X', ⟨g', mk, t, L, e1, e2, hq, h1, hL, h2, h3⟩, st⟩ | ⟨q, vm₁, ⟨U', l2, c2, s2⟩, hW₁, X', ⟨g', mk, t, L, E, ce, e1, e2, hq, hce, hcv, hcl, h1, hL, h2, h3⟩, st⟩
  · dsimp only [Pt.U, Pt.locs, Pt.cells, Pt.slots] at X' e1 e2 h1 h2 h3 st
    subst h1; subst h2; subst h3
    exact Or.inl ⟨v, (T.setVm vm₁).calling g' mk As.toArray, t, U', L, hT, X', hL, e1, e2, hq, st⟩
  · dsimp only [Pt.U, Pt.locs, Pt.cells, Pt.slots] at X' e1 e2 h1 h2 h3 st hcl
    subst h1; subst h2; subst h3
    exact Or.inr ⟨q, (T.setVm vm₁).calling g' mk As.toArray, t, U', L, E, ce, hT, X', hL, e1, e2, hq, hce, hcv, vx_cls hW₁ hcl, st⟩
end
end VXH
theorem vx_ofWH {l : Launch} {y : MethodName} {ws ws' : List Cond} {rm : Room} {Pc : Array Value → State → Prop} {Qc : Array Value → State → Outcome → State → Prop} {XC : String → State → State → Prop} {mc ms : Nat} {free : Addr → Prop} {cc : ByteArray} {maxL : Nat} {ret : Option FieldType} {hh : List (Nat × Nat × Nat × Nat)}
    (hy : plainName y.cls = true) (hw : ws = Cond.codeWith y cc maxL ret hh :: ws')
    (body : ∀ p e s m args below meth c s₁, BodyLoose p l y (headSpec ws rm) cc maxL ret e s m args below meth c s₁ → c.maxLocals = maxL → Pc args s →
      W p l e (headSpec ws rm).room s m args below meth c s.heap [] 0 0 (vx_MQ below Qc XC args s mc ms free) (entryFrame m args maxL)) : vx_Met l y ws rm Pc Qc XC mc ms free := by
  refine MetFree.of_bodyS (code := cc) (maxLocals := maxL) (ret := ret) hy ?_ ?_
  · intro args s m h hn
    obtain ⟨m9, meth, c, hn9, h1, h2, h3, h4, -, h5, h6, -⟩ := Cond.codeWith_spec (atoms_spec (ws := ws) h _ (by rw [hw]; exact List.mem_cons_self))
    cases hn.symm.trans hn9
    exact ⟨meth, c, h1, h2, h3, h4, h5, h6⟩
  · intro p e s m args below meth c s₁ B hml hP _
    have hh0 : s₁.heap = s.heap := by rw [B.state]; rfl
    obtain ⟨t, a1, o, b1, b2, b3⟩ := body p e s m args below meth c s₁ B hml hP s₁ hh0 (Stand.of_body B)
    exact ⟨t, o, a1, b1, b2, b3⟩
/-! ===== END ===== -/
end
section
/-! ===== BEGIN printed: names, fields, word lists, decode rows ===== -/
def RX0 : String := "WordMill"
def TX0 : u_T := fun k => match k with
  | 0 => ("WordMill", "memory", "[J", true)
  | 1 => ("WordMill", "pc", "I", false)
  | 2 => ("WordMill", "next", "I", false)
  | 3 => ("WordMill", "doneInAll", "I", false)
  | _ => ("WordMill", "doneInRun", "I", false)
def tyX0 : Nat → FieldType := fun k => match k with
  | 0 => .array .long
  | 1 => .int
  | 2 => .int
  | 3 => .int
  | _ => .int
abbrev wsX00 : List Cond := u_ws RX0 TX0 5
theorem nmX0 : ∀ a, a < 5 → ∀ b, b < 5 → a ≠ b → (TX0 a).2.1 ≠ (TX0 b).2.1 := by decide +kernel
theorem tyX0_ok : ∀ k, k < 5 → parseFieldDescriptor (TX0 k).2.2.1 = some (tyX0 k) := by decide +kernel
abbrev cX0_init : ByteArray := prog_1_method_1_code
def yX0_init : MethodName := ⟨RX0, "<init>", "()V"⟩
abbrev cX0_put : ByteArray := prog_1_method_2_code
def yX0_put : MethodName := ⟨RX0, "put", "(IJ)V"⟩
abbrev cX0_word : ByteArray := prog_1_method_3_code
def yX0_word : MethodName := ⟨RX0, "word", "(I)J"⟩
abbrev cX0_code : ByteArray := prog_1_method_4_code
def yX0_code : MethodName := ⟨RX0, "code", "(IIIZII)J"⟩
abbrev cX0_go : ByteArray := prog_1_method_5_code
def yX0_go : MethodName := ⟨RX0, "go", "(I)V"⟩
abbrev cX0_run : ByteArray := prog_1_method_6_code
def yX0_run : MethodName := ⟨RX0, "run", "(I)I"⟩
abbrev cX0_count : ByteArray := prog_1_method_7_code
def yX0_count : MethodName := ⟨RX0, "count", "(I)I"⟩
abbrev cX0_refuseOutside : ByteArray := prog_1_method_8_code
def yX0_refuseOutside : MethodName := ⟨RX0, "refuseOutside", "(II)V"⟩
abbrev cX0_step : ByteArray := prog_1_method_9_code
def yX0_step : MethodName := ⟨RX0, "step", "()I"⟩
abbrev cX0_effective : ByteArray := prog_1_method_10_code
def yX0_effective : MethodName := ⟨RX0, "effective", "(J)I"⟩
abbrev cX0_indexed : ByteArray := prog_1_method_11_code
def yX0_indexed : MethodName := ⟨RX0, "indexed", "(J)I"⟩
abbrev cX0_isIndirect : ByteArray := prog_1_method_12_code
def yX0_isIndirect : MethodName := ⟨RX0, "isIndirect", "(J)Z"⟩
abbrev cX0_perform : ByteArray := prog_1_method_13_code
def yX0_perform : MethodName := ⟨RX0, "perform", "(III)I"⟩
abbrev cX0_performOnMemory : ByteArray := prog_1_method_14_code
def yX0_performOnMemory : MethodName := ⟨RX0, "performOnMemory", "(III)I"⟩
abbrev cX0_combine : ByteArray := prog_1_method_15_code
def yX0_combine : MethodName := ⟨RX0, "combine", "(IIJ)I"⟩
abbrev cX0_isOfHalves : ByteArray := prog_1_method_16_code
def yX0_isOfHalves : MethodName := ⟨RX0, "isOfHalves", "(I)Z"⟩
abbrev cX0_ofWords : ByteArray := prog_1_method_17_code
def yX0_ofWords : MethodName := ⟨RX0, "ofWords", "(IJJ)J"⟩
abbrev cX0_ofHalves : ByteArray := prog_1_method_18_code
def yX0_ofHalves : MethodName := ⟨RX0, "ofHalves", "(IJJ)J"⟩
abbrev cX0_shifted : ByteArray := prog_1_method_19_code
def yX0_shifted : MethodName := ⟨RX0, "shifted", "(JI)J"⟩
abbrev cX0_divide : ByteArray := prog_1_method_20_code
def yX0_divide : MethodName := ⟨RX0, "divide", "(IJ)I"⟩
abbrev cX0_exchange : ByteArray := prog_1_method_21_code
def yX0_exchange : MethodName := ⟨RX0, "exchange", "(II)I"⟩
abbrev cX0_jump : ByteArray := prog_1_method_22_code
def yX0_jump : MethodName := ⟨RX0, "jump", "(I)I"⟩
abbrev cX0_leaveNextPlaceAndJump : ByteArray := prog_1_method_23_code
def yX0_leaveNextPlaceAndJump : MethodName := ⟨RX0, "leaveNextPlaceAndJump", "(I)I"⟩
abbrev cX0_pushNextPlace : ByteArray := prog_1_method_24_code
def yX0_pushNextPlace : MethodName := ⟨RX0, "pushNextPlace", "(II)I"⟩
abbrev cX0_push : ByteArray := prog_1_method_25_code
def yX0_push : MethodName := ⟨RX0, "push", "(IJ)I"⟩
abbrev cX0_popToMemory : ByteArray := prog_1_method_26_code
def yX0_popToMemory : MethodName := ⟨RX0, "popToMemory", "(II)I"⟩
abbrev cX0_popToPc : ByteArray := prog_1_method_27_code
def yX0_popToPc : MethodName := ⟨RX0, "popToPc", "(I)I"⟩
abbrev cX0_moveTop : ByteArray := prog_1_method_28_code
def yX0_moveTop : MethodName := ⟨RX0, "moveTop", "(II)V"⟩
abbrev cX0_isTest : ByteArray := prog_1_method_29_code
def yX0_isTest : MethodName := ⟨RX0, "isTest", "(I)Z"⟩
abbrev cX0_test : ByteArray := prog_1_method_30_code
def yX0_test : MethodName := ⟨RX0, "test", "(III)I"⟩
abbrev cX0_changeAndJump : ByteArray := prog_1_method_31_code
def yX0_changeAndJump : MethodName := ⟨RX0, "changeAndJump", "(IIII)I"⟩
abbrev cX0_changeAndSkip : ByteArray := prog_1_method_32_code
def yX0_changeAndSkip : MethodName := ⟨RX0, "changeAndSkip", "(IIII)I"⟩
abbrev cX0_skipIf : ByteArray := prog_1_method_33_code
def yX0_skipIf : MethodName := ⟨RX0, "skipIf", "(Z)I"⟩
abbrev cX0_holds : ByteArray := prog_1_method_34_code
def yX0_holds : MethodName := ⟨RX0, "holds", "(IJJ)Z"⟩
abbrev cX0_number : ByteArray := prog_1_method_35_code
def yX0_number : MethodName := ⟨RX0, "number", "(J)J"⟩
abbrev cX0_rightHalf : ByteArray := prog_1_method_36_code
def yX0_rightHalf : MethodName := ⟨RX0, "rightHalf", "(J)I"⟩
abbrev cX0_leftHalf : ByteArray := prog_1_method_37_code
def yX0_leftHalf : MethodName := ⟨RX0, "leftHalf", "(J)I"⟩
abbrev cX0_store : ByteArray := prog_1_method_38_code
def yX0_store : MethodName := ⟨RX0, "store", "(IJ)V"⟩
def RX1 : String := "WordMillModel"
def TX1 : u_T := fun k => match k with
  | 0 => ("WordMillModel", "thrown", "I", false)
  | 1 => ("WordMillModel", "memory", "[J", true)
  | 2 => ("WordMillModel", "pc", "I", false)
  | 3 => ("WordMillModel", "latest", "I", false)
  | 4 => ("WordMillModel", "fault", "I", false)
  | _ => ("WordMillModel", "done", "J", false)
def tyX1 : Nat → FieldType := fun k => match k with
  | 0 => .int
  | 1 => .array .long
  | 2 => .int
  | 3 => .int
  | 4 => .int
  | _ => .long
abbrev wsX10 : List Cond := u_ws RX1 TX1 6
theorem nmX1 : ∀ a, a < 6 → ∀ b, b < 6 → a ≠ b → (TX1 a).2.1 ≠ (TX1 b).2.1 := by decide +kernel
theorem tyX1_ok : ∀ k, k < 6 → parseFieldDescriptor (TX1 k).2.2.1 = some (tyX1 k) := by decide +kernel
abbrev cX1_init : ByteArray := prog_3_method_1_code
def yX1_init : MethodName := ⟨RX1, "<init>", "()V"⟩
abbrev cX1_thrown : ByteArray := prog_3_method_2_code
def yX1_thrown : MethodName := ⟨RX1, "thrown", "()I"⟩
abbrev cX1_bad : ByteArray := prog_3_method_3_code
def yX1_bad : MethodName := ⟨RX1, "bad", "(Z)Z"⟩
abbrev cX1_isPlace : ByteArray := prog_3_method_4_code
def yX1_isPlace : MethodName := ⟨RX1, "isPlace", "(J)Z"⟩
abbrev cX1_put : ByteArray := prog_3_method_5_code
def yX1_put : MethodName := ⟨RX1, "put", "(IJ)V"⟩
abbrev cX1_word : ByteArray := prog_3_method_6_code
def yX1_word : MethodName := ⟨RX1, "word", "(I)J"⟩
abbrev cX1_code : ByteArray := prog_3_method_7_code
def yX1_code : MethodName := ⟨RX1, "code", "(IIIZII)J"⟩
abbrev cX1_go : ByteArray := prog_3_method_8_code
def yX1_go : MethodName := ⟨RX1, "go", "(I)V"⟩
abbrev cX1_number : ByteArray := prog_3_method_9_code
def yX1_number : MethodName := ⟨RX1, "number", "(J)J"⟩
abbrev cX1_at : ByteArray := prog_3_method_10_code
def yX1_at : MethodName := ⟨RX1, "at", "(J)J"⟩
abbrev cX1_effective : ByteArray := prog_3_method_11_code
def yX1_effective : MethodName := ⟨RX1, "effective", "(J)J"⟩
abbrev cX1_is : ByteArray := prog_3_method_12_code
def yX1_is : MethodName := ⟨RX1, "is", "(IJJ)Z"⟩
abbrev cX1_isKnown : ByteArray := prog_3_method_13_code
def yX1_isKnown : MethodName := ⟨RX1, "isKnown", "(I)Z"⟩
abbrev cX1_run : ByteArray := prog_3_method_14_code
def yX1_run : MethodName := ⟨RX1, "run", "(I)I"⟩
abbrev cX1_one : ByteArray := prog_3_method_15_code
def yX1_one : MethodName := ⟨RX1, "one", "(IIJ)V"⟩
abbrev cX1_needsWord : ByteArray := prog_3_method_16_code
def yX1_needsWord : MethodName := ⟨RX1, "needsWord", "(I)Z"⟩
abbrev cX1_tested : ByteArray := prog_3_method_17_code
def yX1_tested : MethodName := ⟨RX1, "tested", "(IIJJI)I"⟩
abbrev cX1_half : ByteArray := prog_3_method_18_code
def yX1_half : MethodName := ⟨RX1, "half", "(JJ)J"⟩
abbrev cX1_piled : ByteArray := prog_3_method_19_code
def yX1_piled : MethodName := ⟨RX1, "piled", "(IIJJI)I"⟩
abbrev cX1_moved : ByteArray := prog_3_method_20_code
def yX1_moved : MethodName := ⟨RX1, "moved", "(IIJJ)V"⟩
abbrev cX1_divided : ByteArray := prog_3_method_21_code
def yX1_divided : MethodName := ⟨RX1, "divided", "(IJJ)V"⟩
abbrev cX1_bits : ByteArray := prog_3_method_22_code
def yX1_bits : MethodName := ⟨RX1, "bits", "(IIJJ)V"⟩
abbrev cX1_count : ByteArray := prog_3_method_23_code
def yX1_count : MethodName := ⟨RX1, "count", "(I)I"⟩
def RJ9 : String := "java/lang/Math"
def TJ9 : u_T := fun k => match k with
  | _ => ("", "", "", false)
def tyJ9 : Nat → FieldType := fun k => match k with
  | _ => .int
abbrev wsJ90 : List Cond := u_ws RJ9 TJ9 0
theorem nmJ9 : ∀ a, a < 0 → ∀ b, b < 0 → a ≠ b → (TJ9 a).2.1 ≠ (TJ9 b).2.1 := by decide +kernel
theorem tyJ9_ok : ∀ k, k < 0 → parseFieldDescriptor (TJ9 k).2.2.1 = some (tyJ9 k) := by decide +kernel
abbrev cJ9_abs_067f4 : ByteArray := prog_6_method_61_code
def yJ9_abs_067f4 : MethodName := ⟨RJ9, "abs", "(J)J"⟩
def RL : String := "WordMillLaw"
abbrev cL_put : ByteArray := method_3_code
def yL_put : MethodName := ⟨RL, "put", "(LWordMill;IJ)I"⟩
abbrev cL_word : ByteArray := method_4_code
def yL_word : MethodName := ⟨RL, "word", "(LWordMill;I[J)I"⟩
abbrev cL_code : ByteArray := method_5_code
def yL_code : MethodName := ⟨RL, "code", "(LWordMill;IIIZII[J)I"⟩
abbrev cL_go : ByteArray := method_6_code
def yL_go : MethodName := ⟨RL, "go", "(LWordMill;I)I"⟩
abbrev cL_run : ByteArray := method_7_code
def yL_run : MethodName := ⟨RL, "run", "(LWordMill;I[J)I"⟩
abbrev cL_law : ByteArray := code
def yL_law : MethodName := ⟨RL, "law", "([I)Z"⟩
def wsX0_init : List Cond := .code yX0_init cX0_init 1 none :: ([.methodLink RX0 1 objectInit, .instanceMethod objectInit, .code objectInit ⟨#[0xb1]⟩ 1 none, .arrayClass .long, .fieldLink RX0 9 "WordMill" "memory" "[J", .fieldLink RX0 13 "WordMill" "pc" "I", .fieldLink RX0 17 "WordMill" "next" "I", .fieldLink RX0 20 "WordMill" "doneInAll" "I", .fieldLink RX0 23 "WordMill" "doneInRun" "I"] ++ wsX00)
def wsX0_refuseOutside : List Cond := .code yX0_refuseOutside cX0_refuseOutside 2 none :: ([.classLink RX0 40 "java/lang/IllegalArgumentException", .initialized "java/lang/IllegalArgumentException"] ++ (vx_at0 RX0 42 "java/lang/IllegalArgumentException" ["java/lang/RuntimeException", "java/lang/Exception"]).filter goodWord)
def wsX0_store : List Cond := .code yX0_store cX0_store 4 none :: ([.fieldLink RX0 9 "WordMill" "memory" "[J", .constantLong RX0 152 (68719476735)] ++ wsX00)
def wsX0_put : List Cond := .code yX0_put cX0_put 4 none :: ([.methodLink RX0 26 yX0_refuseOutside, .static yX0_refuseOutside, .initialized RX0, .code yX0_refuseOutside cX0_refuseOutside 2 none, .classLink RX0 40 "java/lang/IllegalArgumentException", .initialized "java/lang/IllegalArgumentException", .methodLink RX0 30 yX0_store, .instanceMethod yX0_store, .selects RX0 yX0_store yX0_store, .code yX0_store cX0_store 4 none, .fieldLink RX0 9 "WordMill" "memory" "[J", .constantLong RX0 152 (68719476735)] ++ wsX00 ++ (vx_at0 RX0 42 "java/lang/IllegalArgumentException" ["java/lang/RuntimeException", "java/lang/Exception"]).filter goodWord)
def wsX0_word : List Cond := .code yX0_word cX0_word 2 (some .long) :: ([.fieldLink RX0 9 "WordMill" "memory" "[J", .methodLink RX0 26 yX0_refuseOutside, .static yX0_refuseOutside, .initialized RX0, .code yX0_refuseOutside cX0_refuseOutside 2 none, .classLink RX0 40 "java/lang/IllegalArgumentException", .initialized "java/lang/IllegalArgumentException"] ++ wsX00 ++ (vx_at0 RX0 42 "java/lang/IllegalArgumentException" ["java/lang/RuntimeException", "java/lang/Exception"]).filter goodWord)
def wsX0_code : List Cond := .code yX0_code cX0_code 9 (some .long) :: ([.constant RX0 34 (262143), .methodLink RX0 26 yX0_refuseOutside, .static yX0_refuseOutside, .initialized RX0, .code yX0_refuseOutside cX0_refuseOutside 2 none, .classLink RX0 40 "java/lang/IllegalArgumentException", .initialized "java/lang/IllegalArgumentException", .methodLink RX0 30 yX0_store, .instanceMethod yX0_store, .selects RX0 yX0_store yX0_store, .code yX0_store cX0_store 4 none, .fieldLink RX0 9 "WordMill" "memory" "[J", .constantLong RX0 152 (68719476735)] ++ wsX00 ++ (vx_at0 RX0 42 "java/lang/IllegalArgumentException" ["java/lang/RuntimeException", "java/lang/Exception"]).filter goodWord)
def wsX0_go : List Cond := .code yX0_go cX0_go 2 none :: ([.fieldLink RX0 13 "WordMill" "pc" "I", .methodLink RX0 26 yX0_refuseOutside, .static yX0_refuseOutside, .initialized RX0, .code yX0_refuseOutside cX0_refuseOutside 2 none, .classLink RX0 40 "java/lang/IllegalArgumentException", .initialized "java/lang/IllegalArgumentException"] ++ wsX00 ++ (vx_at0 RX0 42 "java/lang/IllegalArgumentException" ["java/lang/RuntimeException", "java/lang/Exception"]).filter goodWord)
def wsX0_rightHalf : List Cond := .code yX0_rightHalf cX0_rightHalf 2 (some .int) :: ([.constant RX0 34 (262143)])
def wsX0_indexed : List Cond := .code yX0_indexed cX0_indexed 5 (some .int) :: ([.fieldLink RX0 9 "WordMill" "memory" "[J", .constant RX0 34 (262143), .methodLink RX0 58 yX0_rightHalf, .static yX0_rightHalf, .initialized RX0, .code yX0_rightHalf cX0_rightHalf 2 (some .int)] ++ wsX00)
def wsX0_isIndirect : List Cond := .code yX0_isIndirect cX0_isIndirect 2 (some .boolean) :: ([])
def wsX0_effective : List Cond := .code yX0_effective cX0_effective 7 (some .int) :: ([.fieldLink RX0 9 "WordMill" "memory" "[J", .methodLink RX0 51 yX0_indexed, .instanceMethod yX0_indexed, .selects RX0 yX0_indexed yX0_indexed, .initialized RX0, .code yX0_indexed cX0_indexed 5 (some .int), .constant RX0 34 (262143), .methodLink RX0 58 yX0_rightHalf, .static yX0_rightHalf, .code yX0_rightHalf cX0_rightHalf 2 (some .int), .methodLink RX0 54 yX0_isIndirect, .static yX0_isIndirect, .code yX0_isIndirect cX0_isIndirect 2 (some .boolean)] ++ wsX00)
def wsX0_isOfHalves : List Cond := .code yX0_isOfHalves cX0_isOfHalves 1 (some .boolean) :: ([])
def wsX0_leftHalf : List Cond := .code yX0_leftHalf cX0_leftHalf 2 (some .int) :: ([.constant RX0 34 (262143)])
def wsX0_ofHalves : List Cond := .code yX0_ofHalves cX0_ofHalves 5 (some .long) :: ([.constantLong RX0 130 (68719214592), .methodLink RX0 58 yX0_rightHalf, .static yX0_rightHalf, .initialized RX0, .code yX0_rightHalf cX0_rightHalf 2 (some .int), .constant RX0 34 (262143), .methodLink RX0 112 yX0_leftHalf, .static yX0_leftHalf, .code yX0_leftHalf cX0_leftHalf 2 (some .int)])
def wsX0_number : List Cond := .code yX0_number cX0_number 2 (some .long) :: ([])
def wsX0_shifted : List Cond := .code yX0_shifted cX0_shifted 4 (some .long) :: ([])
def wsX0_ofWords : List Cond := .code yX0_ofWords cX0_ofWords 5 (some .long) :: ([.methodLink RX0 119 Lib.MathLoose.abs_long.x, .static Lib.MathLoose.abs_long.x, .initialized "java/lang/Math", .code Lib.MathLoose.abs_long.x Lib.MathLoose.abs_long.code 2 (some .long), .constantLong RX0 128 (-1), .methodLink RX0 112 yX0_leftHalf, .static yX0_leftHalf, .initialized RX0, .code yX0_leftHalf cX0_leftHalf 2 (some .int), .constant RX0 34 (262143), .methodLink RX0 115 yX0_number, .static yX0_number, .code yX0_number cX0_number 2 (some .long), .methodLink RX0 124 yX0_shifted, .static yX0_shifted, .code yX0_shifted cX0_shifted 4 (some .long)])
def wsX0_combine_r1 : List Cond := [Cond.fieldLink RX0 9 "WordMill" "memory" "[J", Cond.methodLink RX0 102 yX0_isOfHalves, Cond.static yX0_isOfHalves, Cond.initialized RX0, Cond.code yX0_isOfHalves cX0_isOfHalves 1 (some .boolean), Cond.methodLink RX0 105 yX0_ofHalves, Cond.static yX0_ofHalves, Cond.code yX0_ofHalves cX0_ofHalves 5 (some .long), Cond.constantLong RX0 130 (68719214592), Cond.methodLink RX0 58 yX0_rightHalf, Cond.static yX0_rightHalf, Cond.code yX0_rightHalf cX0_rightHalf 2 (some .int), Cond.constant RX0 34 (262143), Cond.methodLink RX0 112 yX0_leftHalf, Cond.static yX0_leftHalf, Cond.code yX0_leftHalf cX0_leftHalf 2 (some .int), Cond.methodLink RX0 109 yX0_ofWords, Cond.static yX0_ofWords, Cond.code yX0_ofWords cX0_ofWords 5 (some .long), Cond.methodLink RX0 119 Lib.MathLoose.abs_long.x, Cond.static Lib.MathLoose.abs_long.x, Cond.initialized "java/lang/Math", Cond.code Lib.MathLoose.abs_long.x Lib.MathLoose.abs_long.code 2 (some .long), Cond.constantLong RX0 128 (-1)]
def wsX0_combine_r2 : List Cond := [Cond.methodLink RX0 115 yX0_number, Cond.static yX0_number, Cond.code yX0_number cX0_number 2 (some .long), Cond.methodLink RX0 124 yX0_shifted, Cond.static yX0_shifted, Cond.code yX0_shifted cX0_shifted 4 (some .long), Cond.methodLink RX0 30 yX0_store, Cond.instanceMethod yX0_store, Cond.selects RX0 yX0_store yX0_store, Cond.code yX0_store cX0_store 4 none, Cond.constantLong RX0 152 (68719476735)]
def wsX0_combine : List Cond := .code yX0_combine cX0_combine 7 (some .int) :: ((wsX0_combine_r1 ++ wsX0_combine_r2) ++ wsX00)
def wsX0_divide : List Cond := .code yX0_divide cX0_divide 8 (some .int) :: ([.fieldLink RX0 9 "WordMill" "memory" "[J", .constantLong RX0 128 (-1), .constantLong RX0 132 (-34359738368), .methodLink RX0 115 yX0_number, .static yX0_number, .initialized RX0, .code yX0_number cX0_number 2 (some .long), .methodLink RX0 30 yX0_store, .instanceMethod yX0_store, .selects RX0 yX0_store yX0_store, .code yX0_store cX0_store 4 none, .constantLong RX0 152 (68719476735)] ++ wsX00)
def wsX0_jump : List Cond := .code yX0_jump cX0_jump 2 (some .int) :: ([.fieldLink RX0 17 "WordMill" "next" "I"] ++ wsX00)
def wsX0_moveTop : List Cond := .code yX0_moveTop cX0_moveTop 5 none :: ([.fieldLink RX0 9 "WordMill" "memory" "[J", .constantLong RX0 130 (68719214592), .constant RX0 34 (262143), .methodLink RX0 58 yX0_rightHalf, .static yX0_rightHalf, .initialized RX0, .code yX0_rightHalf cX0_rightHalf 2 (some .int), .methodLink RX0 30 yX0_store, .instanceMethod yX0_store, .selects RX0 yX0_store yX0_store, .code yX0_store cX0_store 4 none, .constantLong RX0 152 (68719476735)] ++ wsX00)
def wsX0_push : List Cond := .code yX0_push cX0_push 5 (some .int) :: ([.fieldLink RX0 9 "WordMill" "memory" "[J", .constant RX0 34 (262143), .methodLink RX0 58 yX0_rightHalf, .static yX0_rightHalf, .initialized RX0, .code yX0_rightHalf cX0_rightHalf 2 (some .int), .methodLink RX0 134 yX0_moveTop, .instanceMethod yX0_moveTop, .selects RX0 yX0_moveTop yX0_moveTop, .code yX0_moveTop cX0_moveTop 5 none, .constantLong RX0 130 (68719214592), .methodLink RX0 30 yX0_store, .instanceMethod yX0_store, .selects RX0 yX0_store yX0_store, .code yX0_store cX0_store 4 none, .constantLong RX0 152 (68719476735)] ++ wsX00)
def wsX0_pushNextPlace_r1 : List Cond := [Cond.fieldLink RX0 17 "WordMill" "next" "I", Cond.methodLink RX0 93 yX0_push, Cond.instanceMethod yX0_push, Cond.selects RX0 yX0_push yX0_push, Cond.initialized RX0, Cond.code yX0_push cX0_push 5 (some .int), Cond.fieldLink RX0 9 "WordMill" "memory" "[J", Cond.constant RX0 34 (262143), Cond.methodLink RX0 58 yX0_rightHalf, Cond.static yX0_rightHalf, Cond.code yX0_rightHalf cX0_rightHalf 2 (some .int), Cond.methodLink RX0 134 yX0_moveTop, Cond.instanceMethod yX0_moveTop, Cond.selects RX0 yX0_moveTop yX0_moveTop, Cond.code yX0_moveTop cX0_moveTop 5 none, Cond.constantLong RX0 130 (68719214592), Cond.methodLink RX0 30 yX0_store, Cond.instanceMethod yX0_store, Cond.selects RX0 yX0_store yX0_store, Cond.code yX0_store cX0_store 4 none, Cond.constantLong RX0 152 (68719476735), Cond.methodLink RX0 69 yX0_jump, Cond.instanceMethod yX0_jump, Cond.selects RX0 yX0_jump yX0_jump]
def wsX0_pushNextPlace_r2 : List Cond := [Cond.code yX0_jump cX0_jump 2 (some .int)]
def wsX0_pushNextPlace : List Cond := .code yX0_pushNextPlace cX0_pushNextPlace 4 (some .int) :: ((wsX0_pushNextPlace_r1 ++ wsX0_pushNextPlace_r2) ++ wsX00)
def wsX0_popToPc : List Cond := .code yX0_popToPc cX0_popToPc 3 (some .int) :: ([.fieldLink RX0 9 "WordMill" "memory" "[J", .methodLink RX0 58 yX0_rightHalf, .static yX0_rightHalf, .initialized RX0, .code yX0_rightHalf cX0_rightHalf 2 (some .int), .constant RX0 34 (262143), .methodLink RX0 69 yX0_jump, .instanceMethod yX0_jump, .selects RX0 yX0_jump yX0_jump, .code yX0_jump cX0_jump 2 (some .int), .fieldLink RX0 17 "WordMill" "next" "I", .methodLink RX0 134 yX0_moveTop, .instanceMethod yX0_moveTop, .selects RX0 yX0_moveTop yX0_moveTop, .code yX0_moveTop cX0_moveTop 5 none, .constantLong RX0 130 (68719214592), .methodLink RX0 30 yX0_store, .instanceMethod yX0_store, .selects RX0 yX0_store yX0_store, .code yX0_store cX0_store 4 none, .constantLong RX0 152 (68719476735)] ++ wsX00)
def wsX0_exchange : List Cond := .code yX0_exchange cX0_exchange 5 (some .int) :: ([.fieldLink RX0 9 "WordMill" "memory" "[J", .methodLink RX0 30 yX0_store, .instanceMethod yX0_store, .selects RX0 yX0_store yX0_store, .initialized RX0, .code yX0_store cX0_store 4 none, .constantLong RX0 152 (68719476735)] ++ wsX00)
def wsX0_popToMemory : List Cond := .code yX0_popToMemory cX0_popToMemory 4 (some .int) :: ([.fieldLink RX0 9 "WordMill" "memory" "[J", .methodLink RX0 58 yX0_rightHalf, .static yX0_rightHalf, .initialized RX0, .code yX0_rightHalf cX0_rightHalf 2 (some .int), .constant RX0 34 (262143), .methodLink RX0 30 yX0_store, .instanceMethod yX0_store, .selects RX0 yX0_store yX0_store, .code yX0_store cX0_store 4 none, .constantLong RX0 152 (68719476735), .methodLink RX0 134 yX0_moveTop, .instanceMethod yX0_moveTop, .selects RX0 yX0_moveTop yX0_moveTop, .code yX0_moveTop cX0_moveTop 5 none, .constantLong RX0 130 (68719214592)] ++ wsX00)
def wsX0_leaveNextPlaceAndJump : List Cond := .code yX0_leaveNextPlaceAndJump cX0_leaveNextPlaceAndJump 2 (some .int) :: ([.fieldLink RX0 17 "WordMill" "next" "I", .methodLink RX0 30 yX0_store, .instanceMethod yX0_store, .selects RX0 yX0_store yX0_store, .initialized RX0, .code yX0_store cX0_store 4 none, .fieldLink RX0 9 "WordMill" "memory" "[J", .constantLong RX0 152 (68719476735), .methodLink RX0 69 yX0_jump, .instanceMethod yX0_jump, .selects RX0 yX0_jump yX0_jump, .code yX0_jump cX0_jump 2 (some .int)] ++ wsX00)
def wsX0_performOnMemory_r1 : List Cond := [Cond.fieldLink RX0 9 "WordMill" "memory" "[J", Cond.methodLink RX0 30 yX0_store, Cond.instanceMethod yX0_store, Cond.selects RX0 yX0_store yX0_store, Cond.initialized RX0, Cond.code yX0_store cX0_store 4 none, Cond.constantLong RX0 152 (68719476735), Cond.methodLink RX0 65 yX0_divide, Cond.instanceMethod yX0_divide, Cond.selects RX0 yX0_divide yX0_divide, Cond.code yX0_divide cX0_divide 8 (some .int), Cond.constantLong RX0 128 (-1), Cond.constantLong RX0 132 (-34359738368), Cond.methodLink RX0 115 yX0_number, Cond.static yX0_number, Cond.code yX0_number cX0_number 2 (some .long), Cond.methodLink RX0 90 yX0_exchange, Cond.instanceMethod yX0_exchange, Cond.selects RX0 yX0_exchange yX0_exchange, Cond.code yX0_exchange cX0_exchange 5 (some .int), Cond.methodLink RX0 93 yX0_push, Cond.instanceMethod yX0_push, Cond.selects RX0 yX0_push yX0_push, Cond.code yX0_push cX0_push 5 (some .int)]
def wsX0_performOnMemory_r2 : List Cond := [Cond.constant RX0 34 (262143), Cond.methodLink RX0 58 yX0_rightHalf, Cond.static yX0_rightHalf, Cond.code yX0_rightHalf cX0_rightHalf 2 (some .int), Cond.methodLink RX0 134 yX0_moveTop, Cond.instanceMethod yX0_moveTop, Cond.selects RX0 yX0_moveTop yX0_moveTop, Cond.code yX0_moveTop cX0_moveTop 5 none, Cond.constantLong RX0 130 (68719214592), Cond.methodLink RX0 96 yX0_popToMemory, Cond.instanceMethod yX0_popToMemory, Cond.selects RX0 yX0_popToMemory yX0_popToMemory, Cond.code yX0_popToMemory cX0_popToMemory 4 (some .int), Cond.methodLink RX0 99 yX0_leaveNextPlaceAndJump, Cond.instanceMethod yX0_leaveNextPlaceAndJump, Cond.selects RX0 yX0_leaveNextPlaceAndJump yX0_leaveNextPlaceAndJump, Cond.code yX0_leaveNextPlaceAndJump cX0_leaveNextPlaceAndJump 2 (some .int), Cond.fieldLink RX0 17 "WordMill" "next" "I", Cond.methodLink RX0 69 yX0_jump, Cond.instanceMethod yX0_jump, Cond.selects RX0 yX0_jump yX0_jump, Cond.code yX0_jump cX0_jump 2 (some .int), Cond.methodLink RX0 61 yX0_combine, Cond.instanceMethod yX0_combine]
def wsX0_performOnMemory_r3 : List Cond := [Cond.selects RX0 yX0_combine yX0_combine, Cond.code yX0_combine cX0_combine 7 (some .int), Cond.methodLink RX0 102 yX0_isOfHalves, Cond.static yX0_isOfHalves, Cond.code yX0_isOfHalves cX0_isOfHalves 1 (some .boolean), Cond.methodLink RX0 105 yX0_ofHalves, Cond.static yX0_ofHalves, Cond.code yX0_ofHalves cX0_ofHalves 5 (some .long), Cond.methodLink RX0 112 yX0_leftHalf, Cond.static yX0_leftHalf, Cond.code yX0_leftHalf cX0_leftHalf 2 (some .int), Cond.methodLink RX0 109 yX0_ofWords, Cond.static yX0_ofWords, Cond.code yX0_ofWords cX0_ofWords 5 (some .long), Cond.methodLink RX0 119 Lib.MathLoose.abs_long.x, Cond.static Lib.MathLoose.abs_long.x, Cond.initialized "java/lang/Math", Cond.code Lib.MathLoose.abs_long.x Lib.MathLoose.abs_long.code 2 (some .long), Cond.methodLink RX0 124 yX0_shifted, Cond.static yX0_shifted, Cond.code yX0_shifted cX0_shifted 4 (some .long)]
def wsX0_performOnMemory : List Cond := .code yX0_performOnMemory cX0_performOnMemory 4 (some .int) :: ((wsX0_performOnMemory_r1 ++ (wsX0_performOnMemory_r2 ++ wsX0_performOnMemory_r3)) ++ wsX00)
def wsX0_isTest : List Cond := .code yX0_isTest cX0_isTest 1 (some .boolean) :: ([])
def wsX0_holds : List Cond := .code yX0_holds cX0_holds 10 (some .boolean) :: ([.methodLink RX0 115 yX0_number, .static yX0_number, .initialized RX0, .code yX0_number cX0_number 2 (some .long)])
def wsX0_skipIf : List Cond := .code yX0_skipIf cX0_skipIf 2 (some .int) :: ([.fieldLink RX0 17 "WordMill" "next" "I", .methodLink RX0 69 yX0_jump, .instanceMethod yX0_jump, .selects RX0 yX0_jump yX0_jump, .initialized RX0, .code yX0_jump cX0_jump 2 (some .int)] ++ wsX00)
def wsX0_changeAndJump : List Cond := .code yX0_changeAndJump cX0_changeAndJump 5 (some .int) :: ([.fieldLink RX0 9 "WordMill" "memory" "[J", .methodLink RX0 30 yX0_store, .instanceMethod yX0_store, .selects RX0 yX0_store yX0_store, .initialized RX0, .code yX0_store cX0_store 4 none, .constantLong RX0 152 (68719476735), .methodLink RX0 137 yX0_holds, .static yX0_holds, .code yX0_holds cX0_holds 10 (some .boolean), .methodLink RX0 115 yX0_number, .static yX0_number, .code yX0_number cX0_number 2 (some .long), .methodLink RX0 69 yX0_jump, .instanceMethod yX0_jump, .selects RX0 yX0_jump yX0_jump, .code yX0_jump cX0_jump 2 (some .int), .fieldLink RX0 17 "WordMill" "next" "I"] ++ wsX00)
def wsX0_changeAndSkip : List Cond := .code yX0_changeAndSkip cX0_changeAndSkip 7 (some .int) :: ([.fieldLink RX0 9 "WordMill" "memory" "[J", .methodLink RX0 30 yX0_store, .instanceMethod yX0_store, .selects RX0 yX0_store yX0_store, .initialized RX0, .code yX0_store cX0_store 4 none, .constantLong RX0 152 (68719476735), .methodLink RX0 137 yX0_holds, .static yX0_holds, .code yX0_holds cX0_holds 10 (some .boolean), .methodLink RX0 115 yX0_number, .static yX0_number, .code yX0_number cX0_number 2 (some .long), .methodLink RX0 141 yX0_skipIf, .instanceMethod yX0_skipIf, .selects RX0 yX0_skipIf yX0_skipIf, .code yX0_skipIf cX0_skipIf 2 (some .int), .fieldLink RX0 17 "WordMill" "next" "I", .methodLink RX0 69 yX0_jump, .instanceMethod yX0_jump, .selects RX0 yX0_jump yX0_jump, .code yX0_jump cX0_jump 2 (some .int)] ++ wsX00)
def wsX0_test_r1 : List Cond := [Cond.fieldLink RX0 9 "WordMill" "memory" "[J", Cond.methodLink RX0 137 yX0_holds, Cond.static yX0_holds, Cond.initialized RX0, Cond.code yX0_holds cX0_holds 10 (some .boolean), Cond.methodLink RX0 115 yX0_number, Cond.static yX0_number, Cond.code yX0_number cX0_number 2 (some .long), Cond.methodLink RX0 141 yX0_skipIf, Cond.instanceMethod yX0_skipIf, Cond.selects RX0 yX0_skipIf yX0_skipIf, Cond.code yX0_skipIf cX0_skipIf 2 (some .int), Cond.fieldLink RX0 17 "WordMill" "next" "I", Cond.methodLink RX0 69 yX0_jump, Cond.instanceMethod yX0_jump, Cond.selects RX0 yX0_jump yX0_jump, Cond.code yX0_jump cX0_jump 2 (some .int), Cond.methodLink RX0 145 yX0_changeAndJump, Cond.instanceMethod yX0_changeAndJump, Cond.selects RX0 yX0_changeAndJump yX0_changeAndJump, Cond.code yX0_changeAndJump cX0_changeAndJump 5 (some .int), Cond.methodLink RX0 30 yX0_store, Cond.instanceMethod yX0_store, Cond.selects RX0 yX0_store yX0_store]
def wsX0_test_r2 : List Cond := [Cond.code yX0_store cX0_store 4 none, Cond.constantLong RX0 152 (68719476735), Cond.methodLink RX0 149 yX0_changeAndSkip, Cond.instanceMethod yX0_changeAndSkip, Cond.selects RX0 yX0_changeAndSkip yX0_changeAndSkip, Cond.code yX0_changeAndSkip cX0_changeAndSkip 7 (some .int)]
def wsX0_test : List Cond := .code yX0_test cX0_test 6 (some .int) :: ((wsX0_test_r1 ++ wsX0_test_r2) ++ wsX00)
def wsX0_perform_r1 : List Cond := [Cond.methodLink RX0 61 yX0_combine, Cond.instanceMethod yX0_combine, Cond.selects RX0 yX0_combine yX0_combine, Cond.initialized RX0, Cond.code yX0_combine cX0_combine 7 (some .int), Cond.fieldLink RX0 9 "WordMill" "memory" "[J", Cond.methodLink RX0 102 yX0_isOfHalves, Cond.static yX0_isOfHalves, Cond.code yX0_isOfHalves cX0_isOfHalves 1 (some .boolean), Cond.methodLink RX0 105 yX0_ofHalves, Cond.static yX0_ofHalves, Cond.code yX0_ofHalves cX0_ofHalves 5 (some .long), Cond.constantLong RX0 130 (68719214592), Cond.methodLink RX0 58 yX0_rightHalf, Cond.static yX0_rightHalf, Cond.code yX0_rightHalf cX0_rightHalf 2 (some .int), Cond.constant RX0 34 (262143), Cond.methodLink RX0 112 yX0_leftHalf, Cond.static yX0_leftHalf, Cond.code yX0_leftHalf cX0_leftHalf 2 (some .int), Cond.methodLink RX0 109 yX0_ofWords, Cond.static yX0_ofWords, Cond.code yX0_ofWords cX0_ofWords 5 (some .long), Cond.methodLink RX0 119 Lib.MathLoose.abs_long.x]
def wsX0_perform_r2 : List Cond := [Cond.static Lib.MathLoose.abs_long.x, Cond.initialized "java/lang/Math", Cond.code Lib.MathLoose.abs_long.x Lib.MathLoose.abs_long.code 2 (some .long), Cond.constantLong RX0 128 (-1), Cond.methodLink RX0 115 yX0_number, Cond.static yX0_number, Cond.code yX0_number cX0_number 2 (some .long), Cond.methodLink RX0 124 yX0_shifted, Cond.static yX0_shifted, Cond.code yX0_shifted cX0_shifted 4 (some .long), Cond.methodLink RX0 30 yX0_store, Cond.instanceMethod yX0_store, Cond.selects RX0 yX0_store yX0_store, Cond.code yX0_store cX0_store 4 none, Cond.constantLong RX0 152 (68719476735), Cond.methodLink RX0 65 yX0_divide, Cond.instanceMethod yX0_divide, Cond.selects RX0 yX0_divide yX0_divide, Cond.code yX0_divide cX0_divide 8 (some .int), Cond.constantLong RX0 132 (-34359738368), Cond.methodLink RX0 69 yX0_jump, Cond.instanceMethod yX0_jump, Cond.selects RX0 yX0_jump yX0_jump, Cond.code yX0_jump cX0_jump 2 (some .int)]
def wsX0_perform_r3 : List Cond := [Cond.fieldLink RX0 17 "WordMill" "next" "I", Cond.methodLink RX0 73 yX0_pushNextPlace, Cond.instanceMethod yX0_pushNextPlace, Cond.selects RX0 yX0_pushNextPlace yX0_pushNextPlace, Cond.code yX0_pushNextPlace cX0_pushNextPlace 4 (some .int), Cond.methodLink RX0 93 yX0_push, Cond.instanceMethod yX0_push, Cond.selects RX0 yX0_push yX0_push, Cond.code yX0_push cX0_push 5 (some .int), Cond.methodLink RX0 134 yX0_moveTop, Cond.instanceMethod yX0_moveTop, Cond.selects RX0 yX0_moveTop yX0_moveTop, Cond.code yX0_moveTop cX0_moveTop 5 none, Cond.methodLink RX0 77 yX0_popToPc, Cond.instanceMethod yX0_popToPc, Cond.selects RX0 yX0_popToPc yX0_popToPc, Cond.code yX0_popToPc cX0_popToPc 3 (some .int), Cond.methodLink RX0 80 yX0_performOnMemory, Cond.instanceMethod yX0_performOnMemory, Cond.selects RX0 yX0_performOnMemory yX0_performOnMemory, Cond.code yX0_performOnMemory cX0_performOnMemory 4 (some .int), Cond.methodLink RX0 90 yX0_exchange, Cond.instanceMethod yX0_exchange, Cond.selects RX0 yX0_exchange yX0_exchange]
def wsX0_perform_r4 : List Cond := [Cond.code yX0_exchange cX0_exchange 5 (some .int), Cond.methodLink RX0 96 yX0_popToMemory, Cond.instanceMethod yX0_popToMemory, Cond.selects RX0 yX0_popToMemory yX0_popToMemory, Cond.code yX0_popToMemory cX0_popToMemory 4 (some .int), Cond.methodLink RX0 99 yX0_leaveNextPlaceAndJump, Cond.instanceMethod yX0_leaveNextPlaceAndJump, Cond.selects RX0 yX0_leaveNextPlaceAndJump yX0_leaveNextPlaceAndJump, Cond.code yX0_leaveNextPlaceAndJump cX0_leaveNextPlaceAndJump 2 (some .int), Cond.methodLink RX0 83 yX0_isTest, Cond.static yX0_isTest, Cond.code yX0_isTest cX0_isTest 1 (some .boolean), Cond.methodLink RX0 87 yX0_test, Cond.instanceMethod yX0_test, Cond.selects RX0 yX0_test yX0_test, Cond.code yX0_test cX0_test 6 (some .int), Cond.methodLink RX0 137 yX0_holds, Cond.static yX0_holds, Cond.code yX0_holds cX0_holds 10 (some .boolean), Cond.methodLink RX0 141 yX0_skipIf, Cond.instanceMethod yX0_skipIf, Cond.selects RX0 yX0_skipIf yX0_skipIf, Cond.code yX0_skipIf cX0_skipIf 2 (some .int), Cond.methodLink RX0 145 yX0_changeAndJump]
def wsX0_perform_r5 : List Cond := [Cond.instanceMethod yX0_changeAndJump, Cond.selects RX0 yX0_changeAndJump yX0_changeAndJump, Cond.code yX0_changeAndJump cX0_changeAndJump 5 (some .int), Cond.methodLink RX0 149 yX0_changeAndSkip, Cond.instanceMethod yX0_changeAndSkip, Cond.selects RX0 yX0_changeAndSkip yX0_changeAndSkip, Cond.code yX0_changeAndSkip cX0_changeAndSkip 7 (some .int)]
def wsX0_perform : List Cond := .code yX0_perform cX0_perform 4 (some .int) :: ((wsX0_perform_r1 ++ (wsX0_perform_r2 ++ (wsX0_perform_r3 ++ (wsX0_perform_r4 ++ wsX0_perform_r5)))) ++ wsX00)
def wsX0_step_r1 : List Cond := [Cond.fieldLink RX0 9 "WordMill" "memory" "[J", Cond.fieldLink RX0 13 "WordMill" "pc" "I", Cond.fieldLink RX0 17 "WordMill" "next" "I", Cond.methodLink RX0 43 yX0_effective, Cond.instanceMethod yX0_effective, Cond.selects RX0 yX0_effective yX0_effective, Cond.initialized RX0, Cond.code yX0_effective cX0_effective 7 (some .int), Cond.methodLink RX0 51 yX0_indexed, Cond.instanceMethod yX0_indexed, Cond.selects RX0 yX0_indexed yX0_indexed, Cond.code yX0_indexed cX0_indexed 5 (some .int), Cond.constant RX0 34 (262143), Cond.methodLink RX0 58 yX0_rightHalf, Cond.static yX0_rightHalf, Cond.code yX0_rightHalf cX0_rightHalf 2 (some .int), Cond.methodLink RX0 54 yX0_isIndirect, Cond.static yX0_isIndirect, Cond.code yX0_isIndirect cX0_isIndirect 2 (some .boolean), Cond.methodLink RX0 47 yX0_perform, Cond.instanceMethod yX0_perform, Cond.selects RX0 yX0_perform yX0_perform, Cond.code yX0_perform cX0_perform 4 (some .int), Cond.methodLink RX0 61 yX0_combine]
def wsX0_step_r2 : List Cond := [Cond.instanceMethod yX0_combine, Cond.selects RX0 yX0_combine yX0_combine, Cond.code yX0_combine cX0_combine 7 (some .int), Cond.methodLink RX0 102 yX0_isOfHalves, Cond.static yX0_isOfHalves, Cond.code yX0_isOfHalves cX0_isOfHalves 1 (some .boolean), Cond.methodLink RX0 105 yX0_ofHalves, Cond.static yX0_ofHalves, Cond.code yX0_ofHalves cX0_ofHalves 5 (some .long), Cond.constantLong RX0 130 (68719214592), Cond.methodLink RX0 112 yX0_leftHalf, Cond.static yX0_leftHalf, Cond.code yX0_leftHalf cX0_leftHalf 2 (some .int), Cond.methodLink RX0 109 yX0_ofWords, Cond.static yX0_ofWords, Cond.code yX0_ofWords cX0_ofWords 5 (some .long), Cond.methodLink RX0 119 Lib.MathLoose.abs_long.x, Cond.static Lib.MathLoose.abs_long.x, Cond.initialized "java/lang/Math", Cond.code Lib.MathLoose.abs_long.x Lib.MathLoose.abs_long.code 2 (some .long), Cond.constantLong RX0 128 (-1), Cond.methodLink RX0 115 yX0_number, Cond.static yX0_number, Cond.code yX0_number cX0_number 2 (some .long)]
def wsX0_step_r3 : List Cond := [Cond.methodLink RX0 124 yX0_shifted, Cond.static yX0_shifted, Cond.code yX0_shifted cX0_shifted 4 (some .long), Cond.methodLink RX0 30 yX0_store, Cond.instanceMethod yX0_store, Cond.selects RX0 yX0_store yX0_store, Cond.code yX0_store cX0_store 4 none, Cond.constantLong RX0 152 (68719476735), Cond.methodLink RX0 65 yX0_divide, Cond.instanceMethod yX0_divide, Cond.selects RX0 yX0_divide yX0_divide, Cond.code yX0_divide cX0_divide 8 (some .int), Cond.constantLong RX0 132 (-34359738368), Cond.methodLink RX0 69 yX0_jump, Cond.instanceMethod yX0_jump, Cond.selects RX0 yX0_jump yX0_jump, Cond.code yX0_jump cX0_jump 2 (some .int), Cond.methodLink RX0 73 yX0_pushNextPlace, Cond.instanceMethod yX0_pushNextPlace, Cond.selects RX0 yX0_pushNextPlace yX0_pushNextPlace, Cond.code yX0_pushNextPlace cX0_pushNextPlace 4 (some .int), Cond.methodLink RX0 93 yX0_push, Cond.instanceMethod yX0_push, Cond.selects RX0 yX0_push yX0_push]
def wsX0_step_r4 : List Cond := [Cond.code yX0_push cX0_push 5 (some .int), Cond.methodLink RX0 134 yX0_moveTop, Cond.instanceMethod yX0_moveTop, Cond.selects RX0 yX0_moveTop yX0_moveTop, Cond.code yX0_moveTop cX0_moveTop 5 none, Cond.methodLink RX0 77 yX0_popToPc, Cond.instanceMethod yX0_popToPc, Cond.selects RX0 yX0_popToPc yX0_popToPc, Cond.code yX0_popToPc cX0_popToPc 3 (some .int), Cond.methodLink RX0 80 yX0_performOnMemory, Cond.instanceMethod yX0_performOnMemory, Cond.selects RX0 yX0_performOnMemory yX0_performOnMemory, Cond.code yX0_performOnMemory cX0_performOnMemory 4 (some .int), Cond.methodLink RX0 90 yX0_exchange, Cond.instanceMethod yX0_exchange, Cond.selects RX0 yX0_exchange yX0_exchange, Cond.code yX0_exchange cX0_exchange 5 (some .int), Cond.methodLink RX0 96 yX0_popToMemory, Cond.instanceMethod yX0_popToMemory, Cond.selects RX0 yX0_popToMemory yX0_popToMemory, Cond.code yX0_popToMemory cX0_popToMemory 4 (some .int), Cond.methodLink RX0 99 yX0_leaveNextPlaceAndJump, Cond.instanceMethod yX0_leaveNextPlaceAndJump, Cond.selects RX0 yX0_leaveNextPlaceAndJump yX0_leaveNextPlaceAndJump]
def wsX0_step_r5 : List Cond := [Cond.code yX0_leaveNextPlaceAndJump cX0_leaveNextPlaceAndJump 2 (some .int), Cond.methodLink RX0 83 yX0_isTest, Cond.static yX0_isTest, Cond.code yX0_isTest cX0_isTest 1 (some .boolean), Cond.methodLink RX0 87 yX0_test, Cond.instanceMethod yX0_test, Cond.selects RX0 yX0_test yX0_test, Cond.code yX0_test cX0_test 6 (some .int), Cond.methodLink RX0 137 yX0_holds, Cond.static yX0_holds, Cond.code yX0_holds cX0_holds 10 (some .boolean), Cond.methodLink RX0 141 yX0_skipIf, Cond.instanceMethod yX0_skipIf, Cond.selects RX0 yX0_skipIf yX0_skipIf, Cond.code yX0_skipIf cX0_skipIf 2 (some .int), Cond.methodLink RX0 145 yX0_changeAndJump, Cond.instanceMethod yX0_changeAndJump, Cond.selects RX0 yX0_changeAndJump yX0_changeAndJump, Cond.code yX0_changeAndJump cX0_changeAndJump 5 (some .int), Cond.methodLink RX0 149 yX0_changeAndSkip, Cond.instanceMethod yX0_changeAndSkip, Cond.selects RX0 yX0_changeAndSkip yX0_changeAndSkip, Cond.code yX0_changeAndSkip cX0_changeAndSkip 7 (some .int)]
def wsX0_step : List Cond := .code yX0_step cX0_step 6 (some .int) :: ((wsX0_step_r1 ++ (wsX0_step_r2 ++ (wsX0_step_r3 ++ (wsX0_step_r4 ++ wsX0_step_r5)))) ++ wsX00)
def wsX0_run_r1 : List Cond := [Cond.fieldLink RX0 23 "WordMill" "doneInRun" "I", Cond.fieldLink RX0 17 "WordMill" "next" "I", Cond.fieldLink RX0 13 "WordMill" "pc" "I", Cond.fieldLink RX0 20 "WordMill" "doneInAll" "I", Cond.constant RX0 39 (2147483647), Cond.methodLink RX0 26 yX0_refuseOutside, Cond.static yX0_refuseOutside, Cond.initialized RX0, Cond.code yX0_refuseOutside cX0_refuseOutside 2 none, Cond.classLink RX0 40 "java/lang/IllegalArgumentException", Cond.initialized "java/lang/IllegalArgumentException", Cond.methodLink RX0 35 yX0_step, Cond.instanceMethod yX0_step, Cond.selects RX0 yX0_step yX0_step, Cond.code yX0_step cX0_step 6 (some .int), Cond.fieldLink RX0 9 "WordMill" "memory" "[J", Cond.methodLink RX0 43 yX0_effective, Cond.instanceMethod yX0_effective, Cond.selects RX0 yX0_effective yX0_effective, Cond.code yX0_effective cX0_effective 7 (some .int), Cond.methodLink RX0 51 yX0_indexed, Cond.instanceMethod yX0_indexed, Cond.selects RX0 yX0_indexed yX0_indexed, Cond.code yX0_indexed cX0_indexed 5 (some .int)]
def wsX0_run_r2 : List Cond := [Cond.constant RX0 34 (262143), Cond.methodLink RX0 58 yX0_rightHalf, Cond.static yX0_rightHalf, Cond.code yX0_rightHalf cX0_rightHalf 2 (some .int), Cond.methodLink RX0 54 yX0_isIndirect, Cond.static yX0_isIndirect, Cond.code yX0_isIndirect cX0_isIndirect 2 (some .boolean), Cond.methodLink RX0 47 yX0_perform, Cond.instanceMethod yX0_perform, Cond.selects RX0 yX0_perform yX0_perform, Cond.code yX0_perform cX0_perform 4 (some .int), Cond.methodLink RX0 61 yX0_combine, Cond.instanceMethod yX0_combine, Cond.selects RX0 yX0_combine yX0_combine, Cond.code yX0_combine cX0_combine 7 (some .int), Cond.methodLink RX0 102 yX0_isOfHalves, Cond.static yX0_isOfHalves, Cond.code yX0_isOfHalves cX0_isOfHalves 1 (some .boolean), Cond.methodLink RX0 105 yX0_ofHalves, Cond.static yX0_ofHalves, Cond.code yX0_ofHalves cX0_ofHalves 5 (some .long), Cond.constantLong RX0 130 (68719214592), Cond.methodLink RX0 112 yX0_leftHalf, Cond.static yX0_leftHalf]
def wsX0_run_r3 : List Cond := [Cond.code yX0_leftHalf cX0_leftHalf 2 (some .int), Cond.methodLink RX0 109 yX0_ofWords, Cond.static yX0_ofWords, Cond.code yX0_ofWords cX0_ofWords 5 (some .long), Cond.methodLink RX0 119 Lib.MathLoose.abs_long.x, Cond.static Lib.MathLoose.abs_long.x, Cond.initialized "java/lang/Math", Cond.code Lib.MathLoose.abs_long.x Lib.MathLoose.abs_long.code 2 (some .long), Cond.constantLong RX0 128 (-1), Cond.methodLink RX0 115 yX0_number, Cond.static yX0_number, Cond.code yX0_number cX0_number 2 (some .long), Cond.methodLink RX0 124 yX0_shifted, Cond.static yX0_shifted, Cond.code yX0_shifted cX0_shifted 4 (some .long), Cond.methodLink RX0 30 yX0_store, Cond.instanceMethod yX0_store, Cond.selects RX0 yX0_store yX0_store, Cond.code yX0_store cX0_store 4 none, Cond.constantLong RX0 152 (68719476735), Cond.methodLink RX0 65 yX0_divide, Cond.instanceMethod yX0_divide, Cond.selects RX0 yX0_divide yX0_divide, Cond.code yX0_divide cX0_divide 8 (some .int)]
def wsX0_run_r4 : List Cond := [Cond.constantLong RX0 132 (-34359738368), Cond.methodLink RX0 69 yX0_jump, Cond.instanceMethod yX0_jump, Cond.selects RX0 yX0_jump yX0_jump, Cond.code yX0_jump cX0_jump 2 (some .int), Cond.methodLink RX0 73 yX0_pushNextPlace, Cond.instanceMethod yX0_pushNextPlace, Cond.selects RX0 yX0_pushNextPlace yX0_pushNextPlace, Cond.code yX0_pushNextPlace cX0_pushNextPlace 4 (some .int), Cond.methodLink RX0 93 yX0_push, Cond.instanceMethod yX0_push, Cond.selects RX0 yX0_push yX0_push, Cond.code yX0_push cX0_push 5 (some .int), Cond.methodLink RX0 134 yX0_moveTop, Cond.instanceMethod yX0_moveTop, Cond.selects RX0 yX0_moveTop yX0_moveTop, Cond.code yX0_moveTop cX0_moveTop 5 none, Cond.methodLink RX0 77 yX0_popToPc, Cond.instanceMethod yX0_popToPc, Cond.selects RX0 yX0_popToPc yX0_popToPc, Cond.code yX0_popToPc cX0_popToPc 3 (some .int), Cond.methodLink RX0 80 yX0_performOnMemory, Cond.instanceMethod yX0_performOnMemory, Cond.selects RX0 yX0_performOnMemory yX0_performOnMemory]
def wsX0_run_r5 : List Cond := [Cond.code yX0_performOnMemory cX0_performOnMemory 4 (some .int), Cond.methodLink RX0 90 yX0_exchange, Cond.instanceMethod yX0_exchange, Cond.selects RX0 yX0_exchange yX0_exchange, Cond.code yX0_exchange cX0_exchange 5 (some .int), Cond.methodLink RX0 96 yX0_popToMemory, Cond.instanceMethod yX0_popToMemory, Cond.selects RX0 yX0_popToMemory yX0_popToMemory, Cond.code yX0_popToMemory cX0_popToMemory 4 (some .int), Cond.methodLink RX0 99 yX0_leaveNextPlaceAndJump, Cond.instanceMethod yX0_leaveNextPlaceAndJump, Cond.selects RX0 yX0_leaveNextPlaceAndJump yX0_leaveNextPlaceAndJump, Cond.code yX0_leaveNextPlaceAndJump cX0_leaveNextPlaceAndJump 2 (some .int), Cond.methodLink RX0 83 yX0_isTest, Cond.static yX0_isTest, Cond.code yX0_isTest cX0_isTest 1 (some .boolean), Cond.methodLink RX0 87 yX0_test, Cond.instanceMethod yX0_test, Cond.selects RX0 yX0_test yX0_test, Cond.code yX0_test cX0_test 6 (some .int), Cond.methodLink RX0 137 yX0_holds, Cond.static yX0_holds, Cond.code yX0_holds cX0_holds 10 (some .boolean), Cond.methodLink RX0 141 yX0_skipIf]
def wsX0_run_r6 : List Cond := [Cond.instanceMethod yX0_skipIf, Cond.selects RX0 yX0_skipIf yX0_skipIf, Cond.code yX0_skipIf cX0_skipIf 2 (some .int), Cond.methodLink RX0 145 yX0_changeAndJump, Cond.instanceMethod yX0_changeAndJump, Cond.selects RX0 yX0_changeAndJump yX0_changeAndJump, Cond.code yX0_changeAndJump cX0_changeAndJump 5 (some .int), Cond.methodLink RX0 149 yX0_changeAndSkip, Cond.instanceMethod yX0_changeAndSkip, Cond.selects RX0 yX0_changeAndSkip yX0_changeAndSkip, Cond.code yX0_changeAndSkip cX0_changeAndSkip 7 (some .int)]
def wsX0_run : List Cond := .code yX0_run cX0_run 4 (some .int) :: ((wsX0_run_r1 ++ (wsX0_run_r2 ++ (wsX0_run_r3 ++ (wsX0_run_r4 ++ (wsX0_run_r5 ++ wsX0_run_r6))))) ++ wsX00 ++ (vx_at0 RX0 42 "java/lang/IllegalArgumentException" ["java/lang/RuntimeException", "java/lang/Exception"]).filter goodWord)
def wsX0_count : List Cond := .code yX0_count cX0_count 2 (some .int) :: ([.fieldLink RX0 13 "WordMill" "pc" "I", .fieldLink RX0 20 "WordMill" "doneInAll" "I", .fieldLink RX0 23 "WordMill" "doneInRun" "I"] ++ wsX00)
def wsX1_init : List Cond := .code yX1_init cX1_init 1 none :: ([.methodLink RX1 1 objectInit, .instanceMethod objectInit, .code objectInit ⟨#[0xb1]⟩ 1 none, .arrayClass .long, .fieldLink RX1 7 "WordMillModel" "memory" "[J"] ++ wsX10)
def wsX1_thrown : List Cond := .code yX1_thrown cX1_thrown 1 (some .int) :: ([.fieldLink RX1 13 "WordMillModel" "thrown" "I"] ++ wsX10)
def wsX1_bad : List Cond := .code yX1_bad cX1_bad 2 (some .boolean) :: ([.fieldLink RX1 13 "WordMillModel" "thrown" "I"] ++ wsX10)
def wsX1_isPlace : List Cond := .code yX1_isPlace cX1_isPlace 2 (some .boolean) :: ([.constantLong RX1 17 (4096)])
def wsX1_put : List Cond := .code yX1_put cX1_put 4 none :: ([.fieldLink RX1 7 "WordMillModel" "memory" "[J", .constantLong RX1 27 (68719476735), .methodLink RX1 19 yX1_isPlace, .static yX1_isPlace, .initialized RX1, .code yX1_isPlace cX1_isPlace 2 (some .boolean), .constantLong RX1 17 (4096), .methodLink RX1 23 yX1_bad, .instanceMethod yX1_bad, .selects RX1 yX1_bad yX1_bad, .code yX1_bad cX1_bad 2 (some .boolean), .fieldLink RX1 13 "WordMillModel" "thrown" "I"] ++ wsX10)
def wsX1_word : List Cond := .code yX1_word cX1_word 2 (some .long) :: ([.fieldLink RX1 7 "WordMillModel" "memory" "[J", .methodLink RX1 19 yX1_isPlace, .static yX1_isPlace, .initialized RX1, .code yX1_isPlace cX1_isPlace 2 (some .boolean), .constantLong RX1 17 (4096), .methodLink RX1 23 yX1_bad, .instanceMethod yX1_bad, .selects RX1 yX1_bad yX1_bad, .code yX1_bad cX1_bad 2 (some .boolean), .fieldLink RX1 13 "WordMillModel" "thrown" "I"] ++ wsX10)
def wsX1_code : List Cond := .code yX1_code cX1_code 9 (some .long) :: ([.constantLong RX1 29 (4194304), .constantLong RX1 31 (262143), .fieldLink RX1 7 "WordMillModel" "memory" "[J", .methodLink RX1 19 yX1_isPlace, .static yX1_isPlace, .initialized RX1, .code yX1_isPlace cX1_isPlace 2 (some .boolean), .constantLong RX1 17 (4096), .methodLink RX1 23 yX1_bad, .instanceMethod yX1_bad, .selects RX1 yX1_bad yX1_bad, .code yX1_bad cX1_bad 2 (some .boolean), .fieldLink RX1 13 "WordMillModel" "thrown" "I"] ++ wsX10)
def wsX1_go : List Cond := .code yX1_go cX1_go 2 none :: ([.fieldLink RX1 33 "WordMillModel" "pc" "I", .methodLink RX1 19 yX1_isPlace, .static yX1_isPlace, .initialized RX1, .code yX1_isPlace cX1_isPlace 2 (some .boolean), .constantLong RX1 17 (4096), .methodLink RX1 23 yX1_bad, .instanceMethod yX1_bad, .selects RX1 yX1_bad yX1_bad, .code yX1_bad cX1_bad 2 (some .boolean), .fieldLink RX1 13 "WordMillModel" "thrown" "I"] ++ wsX10)
def wsX1_number : List Cond := .code yX1_number cX1_number 2 (some .long) :: ([])
def wsX1_at : List Cond := .code yX1_at cX1_at 3 (some .long) :: ([.fieldLink RX1 7 "WordMillModel" "memory" "[J", .fieldLink RX1 36 "WordMillModel" "fault" "I", .methodLink RX1 19 yX1_isPlace, .static yX1_isPlace, .initialized RX1, .code yX1_isPlace cX1_isPlace 2 (some .boolean), .constantLong RX1 17 (4096)] ++ wsX10)
def wsX1_effective : List Cond := .code yX1_effective cX1_effective 9 (some .long) :: ([.constantLong RX1 39 (15), .constantLong RX1 31 (262143), .fieldLink RX1 7 "WordMillModel" "memory" "[J", .fieldLink RX1 36 "WordMillModel" "fault" "I", .methodLink RX1 41 yX1_at, .instanceMethod yX1_at, .selects RX1 yX1_at yX1_at, .initialized RX1, .code yX1_at cX1_at 3 (some .long), .methodLink RX1 19 yX1_isPlace, .static yX1_isPlace, .code yX1_isPlace cX1_isPlace 2 (some .boolean), .constantLong RX1 17 (4096)] ++ wsX10)
def wsX1_is : List Cond := .code yX1_is cX1_is 5 (some .boolean) :: ([])
def wsX1_isKnown : List Cond := .code yX1_isKnown cX1_isKnown 1 (some .boolean) :: ([])
def wsX1_needsWord : List Cond := .code yX1_needsWord cX1_needsWord 1 (some .boolean) :: ([])
def wsX1_tested : List Cond := .code yX1_tested cX1_tested 14 (some .int) :: ([.fieldLink RX1 7 "WordMillModel" "memory" "[J", .constantLong RX1 77 (4095), .constantLong RX1 27 (68719476735), .methodLink RX1 79 yX1_number, .static yX1_number, .initialized RX1, .code yX1_number cX1_number 2 (some .long), .methodLink RX1 82 yX1_is, .static yX1_is, .code yX1_is cX1_is 5 (some .boolean)] ++ wsX10)
def wsX1_half : List Cond := .code yX1_half cX1_half 4 (some .long) :: ([.constantLong RX1 86 (-262144), .constantLong RX1 31 (262143)])
def wsX1_piled : List Cond := .code yX1_piled cX1_piled 14 (some .int) :: ([.fieldLink RX1 7 "WordMillModel" "memory" "[J", .constantLong RX1 77 (4095), .constantLong RX1 31 (262143), .fieldLink RX1 36 "WordMillModel" "fault" "I", .methodLink RX1 41 yX1_at, .instanceMethod yX1_at, .selects RX1 yX1_at yX1_at, .initialized RX1, .code yX1_at cX1_at 3 (some .long), .methodLink RX1 19 yX1_isPlace, .static yX1_isPlace, .code yX1_isPlace cX1_isPlace 2 (some .boolean), .constantLong RX1 17 (4096), .methodLink RX1 88 yX1_half, .static yX1_half, .code yX1_half cX1_half 4 (some .long), .constantLong RX1 86 (-262144)] ++ wsX10)
def wsX1_divided : List Cond := .code yX1_divided cX1_divided 6 none :: ([.constantLong RX1 103 (-34359738368), .constantLong RX1 105 (-1), .fieldLink RX1 36 "WordMillModel" "fault" "I", .fieldLink RX1 7 "WordMillModel" "memory" "[J", .constantLong RX1 27 (68719476735)] ++ wsX10)
def wsX1_bits : List Cond := .code yX1_bits cX1_bits 7 none :: ([.fieldLink RX1 7 "WordMillModel" "memory" "[J", .constantLong RX1 105 (-1), .constantLong RX1 27 (68719476735), .constantLong RX1 31 (262143), .methodLink RX1 88 yX1_half, .static yX1_half, .initialized RX1, .code yX1_half cX1_half 4 (some .long), .constantLong RX1 86 (-262144)] ++ wsX10)
def wsX1_moved : List Cond := .code yX1_moved cX1_moved 11 none :: ([.fieldLink RX1 7 "WordMillModel" "memory" "[J", .constantLong RX1 31 (262143), .constantLong RX1 27 (68719476735), .constantLong RX1 96 (36), .constantLong RX1 98 (-36), .methodLink RX1 79 yX1_number, .static yX1_number, .initialized RX1, .code yX1_number cX1_number 2 (some .long), .methodLink RX1 92 yX1_divided, .instanceMethod yX1_divided, .selects RX1 yX1_divided yX1_divided, .code yX1_divided cX1_divided 6 none, .constantLong RX1 103 (-34359738368), .constantLong RX1 105 (-1), .fieldLink RX1 36 "WordMillModel" "fault" "I", .methodLink RX1 100 yX1_bits, .instanceMethod yX1_bits, .selects RX1 yX1_bits yX1_bits, .code yX1_bits cX1_bits 7 none, .methodLink RX1 88 yX1_half, .static yX1_half, .code yX1_half cX1_half 4 (some .long), .constantLong RX1 86 (-262144)] ++ wsX10)
def wsX1_one_r1 : List Cond := [Cond.fieldLink RX1 36 "WordMillModel" "fault" "I", Cond.fieldLink RX1 33 "WordMillModel" "pc" "I", Cond.methodLink RX1 63 yX1_needsWord, Cond.static yX1_needsWord, Cond.initialized RX1, Cond.code yX1_needsWord cX1_needsWord 1 (some .boolean), Cond.methodLink RX1 41 yX1_at, Cond.instanceMethod yX1_at, Cond.selects RX1 yX1_at yX1_at, Cond.code yX1_at cX1_at 3 (some .long), Cond.fieldLink RX1 7 "WordMillModel" "memory" "[J", Cond.methodLink RX1 19 yX1_isPlace, Cond.static yX1_isPlace, Cond.code yX1_isPlace cX1_isPlace 2 (some .boolean), Cond.constantLong RX1 17 (4096), Cond.methodLink RX1 66 yX1_tested, Cond.instanceMethod yX1_tested, Cond.selects RX1 yX1_tested yX1_tested, Cond.code yX1_tested cX1_tested 14 (some .int), Cond.constantLong RX1 77 (4095), Cond.constantLong RX1 27 (68719476735), Cond.methodLink RX1 79 yX1_number, Cond.static yX1_number, Cond.code yX1_number cX1_number 2 (some .long)]
def wsX1_one_r2 : List Cond := [Cond.methodLink RX1 82 yX1_is, Cond.static yX1_is, Cond.code yX1_is cX1_is 5 (some .boolean), Cond.methodLink RX1 70 yX1_piled, Cond.instanceMethod yX1_piled, Cond.selects RX1 yX1_piled yX1_piled, Cond.code yX1_piled cX1_piled 14 (some .int), Cond.constantLong RX1 31 (262143), Cond.methodLink RX1 88 yX1_half, Cond.static yX1_half, Cond.code yX1_half cX1_half 4 (some .long), Cond.constantLong RX1 86 (-262144), Cond.methodLink RX1 73 yX1_moved, Cond.instanceMethod yX1_moved, Cond.selects RX1 yX1_moved yX1_moved, Cond.code yX1_moved cX1_moved 11 none, Cond.constantLong RX1 96 (36), Cond.constantLong RX1 98 (-36), Cond.methodLink RX1 92 yX1_divided, Cond.instanceMethod yX1_divided, Cond.selects RX1 yX1_divided yX1_divided, Cond.code yX1_divided cX1_divided 6 none, Cond.constantLong RX1 103 (-34359738368), Cond.constantLong RX1 105 (-1)]
def wsX1_one_r3 : List Cond := [Cond.methodLink RX1 100 yX1_bits, Cond.instanceMethod yX1_bits, Cond.selects RX1 yX1_bits yX1_bits, Cond.code yX1_bits cX1_bits 7 none]
def wsX1_one : List Cond := .code yX1_one cX1_one 9 none :: ((wsX1_one_r1 ++ (wsX1_one_r2 ++ wsX1_one_r3)) ++ wsX10)
def wsX1_run_r1 : List Cond := [Cond.fieldLink RX1 45 "WordMillModel" "latest" "I", Cond.fieldLink RX1 7 "WordMillModel" "memory" "[J", Cond.fieldLink RX1 33 "WordMillModel" "pc" "I", Cond.fieldLink RX1 36 "WordMillModel" "fault" "I", Cond.fieldLink RX1 52 "WordMillModel" "done" "J", Cond.constantLong RX1 39 (15), Cond.methodLink RX1 23 yX1_bad, Cond.instanceMethod yX1_bad, Cond.selects RX1 yX1_bad yX1_bad, Cond.initialized RX1, Cond.code yX1_bad cX1_bad 2 (some .boolean), Cond.fieldLink RX1 13 "WordMillModel" "thrown" "I", Cond.methodLink RX1 48 yX1_isKnown, Cond.static yX1_isKnown, Cond.code yX1_isKnown cX1_isKnown 1 (some .boolean), Cond.methodLink RX1 56 yX1_effective, Cond.instanceMethod yX1_effective, Cond.selects RX1 yX1_effective yX1_effective, Cond.code yX1_effective cX1_effective 9 (some .long), Cond.constantLong RX1 31 (262143), Cond.methodLink RX1 41 yX1_at, Cond.instanceMethod yX1_at, Cond.selects RX1 yX1_at yX1_at, Cond.code yX1_at cX1_at 3 (some .long)]
def wsX1_run_r2 : List Cond := [Cond.methodLink RX1 19 yX1_isPlace, Cond.static yX1_isPlace, Cond.code yX1_isPlace cX1_isPlace 2 (some .boolean), Cond.constantLong RX1 17 (4096), Cond.methodLink RX1 59 yX1_one, Cond.instanceMethod yX1_one, Cond.selects RX1 yX1_one yX1_one, Cond.code yX1_one cX1_one 9 none, Cond.methodLink RX1 63 yX1_needsWord, Cond.static yX1_needsWord, Cond.code yX1_needsWord cX1_needsWord 1 (some .boolean), Cond.methodLink RX1 66 yX1_tested, Cond.instanceMethod yX1_tested, Cond.selects RX1 yX1_tested yX1_tested, Cond.code yX1_tested cX1_tested 14 (some .int), Cond.constantLong RX1 77 (4095), Cond.constantLong RX1 27 (68719476735), Cond.methodLink RX1 79 yX1_number, Cond.static yX1_number, Cond.code yX1_number cX1_number 2 (some .long), Cond.methodLink RX1 82 yX1_is, Cond.static yX1_is, Cond.code yX1_is cX1_is 5 (some .boolean), Cond.methodLink RX1 70 yX1_piled]
def wsX1_run_r3 : List Cond := [Cond.instanceMethod yX1_piled, Cond.selects RX1 yX1_piled yX1_piled, Cond.code yX1_piled cX1_piled 14 (some .int), Cond.methodLink RX1 88 yX1_half, Cond.static yX1_half, Cond.code yX1_half cX1_half 4 (some .long), Cond.constantLong RX1 86 (-262144), Cond.methodLink RX1 73 yX1_moved, Cond.instanceMethod yX1_moved, Cond.selects RX1 yX1_moved yX1_moved, Cond.code yX1_moved cX1_moved 11 none, Cond.constantLong RX1 96 (36), Cond.constantLong RX1 98 (-36), Cond.methodLink RX1 92 yX1_divided, Cond.instanceMethod yX1_divided, Cond.selects RX1 yX1_divided yX1_divided, Cond.code yX1_divided cX1_divided 6 none, Cond.constantLong RX1 103 (-34359738368), Cond.constantLong RX1 105 (-1), Cond.methodLink RX1 100 yX1_bits, Cond.instanceMethod yX1_bits, Cond.selects RX1 yX1_bits yX1_bits, Cond.code yX1_bits cX1_bits 7 none]
def wsX1_run : List Cond := .code yX1_run cX1_run 5 (some .int) :: ((wsX1_run_r1 ++ (wsX1_run_r2 ++ wsX1_run_r3)) ++ wsX10)
def wsX1_count : List Cond := .code yX1_count cX1_count 2 (some .int) :: ([.fieldLink RX1 13 "WordMillModel" "thrown" "I", .fieldLink RX1 33 "WordMillModel" "pc" "I", .fieldLink RX1 52 "WordMillModel" "done" "J", .constantLong RX1 107 (2147483647), .fieldLink RX1 45 "WordMillModel" "latest" "I"] ++ wsX10)
def wsJ9_abs_067f4 : List Cond := .code yJ9_abs_067f4 cJ9_abs_067f4 2 (some .long) :: ([])
def wsL_put : List Cond := .codeWith yL_put cL_put 5 (some .int) [(0, 6, 9, 13)] :: ([.classLink RL 13 "java/lang/IllegalArgumentException", .methodLink RL 7 yX0_put, .instanceMethod yX0_put, .selects RX0 yX0_put yX0_put, .initialized RX0, .code yX0_put cX0_put 4 none, .methodLink RX0 26 yX0_refuseOutside, .static yX0_refuseOutside, .code yX0_refuseOutside cX0_refuseOutside 2 none, .classLink RX0 40 "java/lang/IllegalArgumentException", .initialized "java/lang/IllegalArgumentException", .methodLink RX0 30 yX0_store, .instanceMethod yX0_store, .selects RX0 yX0_store yX0_store, .code yX0_store cX0_store 4 none, .fieldLink RX0 9 "WordMill" "memory" "[J", .constantLong RX0 152 (68719476735)] ++ wsX00 ++ (vx_at0 RX0 42 "java/lang/IllegalArgumentException" ["java/lang/RuntimeException", "java/lang/Exception"]).filter goodWord)
def wsL_word : List Cond := .codeWith yL_word cL_word 4 (some .int) [(0, 8, 11, 13)] :: ([.classLink RL 13 "java/lang/IllegalArgumentException", .methodLink RL 15 yX0_word, .instanceMethod yX0_word, .selects RX0 yX0_word yX0_word, .initialized RX0, .code yX0_word cX0_word 2 (some .long), .fieldLink RX0 9 "WordMill" "memory" "[J", .methodLink RX0 26 yX0_refuseOutside, .static yX0_refuseOutside, .code yX0_refuseOutside cX0_refuseOutside 2 none, .classLink RX0 40 "java/lang/IllegalArgumentException", .initialized "java/lang/IllegalArgumentException"] ++ wsX00 ++ (vx_at0 RX0 42 "java/lang/IllegalArgumentException" ["java/lang/RuntimeException", "java/lang/Exception"]).filter goodWord)
def wsL_code : List Cond := .codeWith yL_code cL_code 9 (some .int) [(0, 17, 20, 13)] :: ([.classLink RL 13 "java/lang/IllegalArgumentException", .methodLink RL 19 yX0_code, .instanceMethod yX0_code, .selects RX0 yX0_code yX0_code, .initialized RX0, .code yX0_code cX0_code 9 (some .long), .constant RX0 34 (262143), .methodLink RX0 26 yX0_refuseOutside, .static yX0_refuseOutside, .code yX0_refuseOutside cX0_refuseOutside 2 none, .classLink RX0 40 "java/lang/IllegalArgumentException", .initialized "java/lang/IllegalArgumentException", .methodLink RX0 30 yX0_store, .instanceMethod yX0_store, .selects RX0 yX0_store yX0_store, .code yX0_store cX0_store 4 none, .fieldLink RX0 9 "WordMill" "memory" "[J", .constantLong RX0 152 (68719476735)] ++ wsX00 ++ (vx_at0 RX0 42 "java/lang/IllegalArgumentException" ["java/lang/RuntimeException", "java/lang/Exception"]).filter goodWord)
def wsL_go : List Cond := .codeWith yL_go cL_go 3 (some .int) [(0, 5, 8, 13)] :: ([.classLink RL 13 "java/lang/IllegalArgumentException", .methodLink RL 23 yX0_go, .instanceMethod yX0_go, .selects RX0 yX0_go yX0_go, .initialized RX0, .code yX0_go cX0_go 2 none, .fieldLink RX0 13 "WordMill" "pc" "I", .methodLink RX0 26 yX0_refuseOutside, .static yX0_refuseOutside, .code yX0_refuseOutside cX0_refuseOutside 2 none, .classLink RX0 40 "java/lang/IllegalArgumentException", .initialized "java/lang/IllegalArgumentException"] ++ wsX00 ++ (vx_at0 RX0 42 "java/lang/IllegalArgumentException" ["java/lang/RuntimeException", "java/lang/Exception"]).filter goodWord)
def wsL_run_r1 : List Cond := [Cond.classLink RL 13 "java/lang/IllegalArgumentException", Cond.methodLink RL 27 yX0_run, Cond.instanceMethod yX0_run, Cond.selects RX0 yX0_run yX0_run, Cond.initialized RX0, Cond.code yX0_run cX0_run 4 (some .int), Cond.fieldLink RX0 23 "WordMill" "doneInRun" "I", Cond.fieldLink RX0 17 "WordMill" "next" "I", Cond.fieldLink RX0 13 "WordMill" "pc" "I", Cond.fieldLink RX0 20 "WordMill" "doneInAll" "I", Cond.constant RX0 39 (2147483647), Cond.methodLink RX0 26 yX0_refuseOutside, Cond.static yX0_refuseOutside, Cond.code yX0_refuseOutside cX0_refuseOutside 2 none, Cond.classLink RX0 40 "java/lang/IllegalArgumentException", Cond.initialized "java/lang/IllegalArgumentException", Cond.methodLink RX0 35 yX0_step, Cond.instanceMethod yX0_step, Cond.selects RX0 yX0_step yX0_step, Cond.code yX0_step cX0_step 6 (some .int), Cond.fieldLink RX0 9 "WordMill" "memory" "[J", Cond.methodLink RX0 43 yX0_effective, Cond.instanceMethod yX0_effective, Cond.selects RX0 yX0_effective yX0_effective]
def wsL_run_r2 : List Cond := [Cond.code yX0_effective cX0_effective 7 (some .int), Cond.methodLink RX0 51 yX0_indexed, Cond.instanceMethod yX0_indexed, Cond.selects RX0 yX0_indexed yX0_indexed, Cond.code yX0_indexed cX0_indexed 5 (some .int), Cond.constant RX0 34 (262143), Cond.methodLink RX0 58 yX0_rightHalf, Cond.static yX0_rightHalf, Cond.code yX0_rightHalf cX0_rightHalf 2 (some .int), Cond.methodLink RX0 54 yX0_isIndirect, Cond.static yX0_isIndirect, Cond.code yX0_isIndirect cX0_isIndirect 2 (some .boolean), Cond.methodLink RX0 47 yX0_perform, Cond.instanceMethod yX0_perform, Cond.selects RX0 yX0_perform yX0_perform, Cond.code yX0_perform cX0_perform 4 (some .int), Cond.methodLink RX0 61 yX0_combine, Cond.instanceMethod yX0_combine, Cond.selects RX0 yX0_combine yX0_combine, Cond.code yX0_combine cX0_combine 7 (some .int), Cond.methodLink RX0 102 yX0_isOfHalves, Cond.static yX0_isOfHalves, Cond.code yX0_isOfHalves cX0_isOfHalves 1 (some .boolean), Cond.methodLink RX0 105 yX0_ofHalves]
def wsL_run_r3 : List Cond := [Cond.static yX0_ofHalves, Cond.code yX0_ofHalves cX0_ofHalves 5 (some .long), Cond.constantLong RX0 130 (68719214592), Cond.methodLink RX0 112 yX0_leftHalf, Cond.static yX0_leftHalf, Cond.code yX0_leftHalf cX0_leftHalf 2 (some .int), Cond.methodLink RX0 109 yX0_ofWords, Cond.static yX0_ofWords, Cond.code yX0_ofWords cX0_ofWords 5 (some .long), Cond.methodLink RX0 119 Lib.MathLoose.abs_long.x, Cond.static Lib.MathLoose.abs_long.x, Cond.initialized "java/lang/Math", Cond.code Lib.MathLoose.abs_long.x Lib.MathLoose.abs_long.code 2 (some .long), Cond.constantLong RX0 128 (-1), Cond.methodLink RX0 115 yX0_number, Cond.static yX0_number, Cond.code yX0_number cX0_number 2 (some .long), Cond.methodLink RX0 124 yX0_shifted, Cond.static yX0_shifted, Cond.code yX0_shifted cX0_shifted 4 (some .long), Cond.methodLink RX0 30 yX0_store, Cond.instanceMethod yX0_store, Cond.selects RX0 yX0_store yX0_store, Cond.code yX0_store cX0_store 4 none]
def wsL_run_r4 : List Cond := [Cond.constantLong RX0 152 (68719476735), Cond.methodLink RX0 65 yX0_divide, Cond.instanceMethod yX0_divide, Cond.selects RX0 yX0_divide yX0_divide, Cond.code yX0_divide cX0_divide 8 (some .int), Cond.constantLong RX0 132 (-34359738368), Cond.methodLink RX0 69 yX0_jump, Cond.instanceMethod yX0_jump, Cond.selects RX0 yX0_jump yX0_jump, Cond.code yX0_jump cX0_jump 2 (some .int), Cond.methodLink RX0 73 yX0_pushNextPlace, Cond.instanceMethod yX0_pushNextPlace, Cond.selects RX0 yX0_pushNextPlace yX0_pushNextPlace, Cond.code yX0_pushNextPlace cX0_pushNextPlace 4 (some .int), Cond.methodLink RX0 93 yX0_push, Cond.instanceMethod yX0_push, Cond.selects RX0 yX0_push yX0_push, Cond.code yX0_push cX0_push 5 (some .int), Cond.methodLink RX0 134 yX0_moveTop, Cond.instanceMethod yX0_moveTop, Cond.selects RX0 yX0_moveTop yX0_moveTop, Cond.code yX0_moveTop cX0_moveTop 5 none, Cond.methodLink RX0 77 yX0_popToPc, Cond.instanceMethod yX0_popToPc]
def wsL_run_r5 : List Cond := [Cond.selects RX0 yX0_popToPc yX0_popToPc, Cond.code yX0_popToPc cX0_popToPc 3 (some .int), Cond.methodLink RX0 80 yX0_performOnMemory, Cond.instanceMethod yX0_performOnMemory, Cond.selects RX0 yX0_performOnMemory yX0_performOnMemory, Cond.code yX0_performOnMemory cX0_performOnMemory 4 (some .int), Cond.methodLink RX0 90 yX0_exchange, Cond.instanceMethod yX0_exchange, Cond.selects RX0 yX0_exchange yX0_exchange, Cond.code yX0_exchange cX0_exchange 5 (some .int), Cond.methodLink RX0 96 yX0_popToMemory, Cond.instanceMethod yX0_popToMemory, Cond.selects RX0 yX0_popToMemory yX0_popToMemory, Cond.code yX0_popToMemory cX0_popToMemory 4 (some .int), Cond.methodLink RX0 99 yX0_leaveNextPlaceAndJump, Cond.instanceMethod yX0_leaveNextPlaceAndJump, Cond.selects RX0 yX0_leaveNextPlaceAndJump yX0_leaveNextPlaceAndJump, Cond.code yX0_leaveNextPlaceAndJump cX0_leaveNextPlaceAndJump 2 (some .int), Cond.methodLink RX0 83 yX0_isTest, Cond.static yX0_isTest, Cond.code yX0_isTest cX0_isTest 1 (some .boolean), Cond.methodLink RX0 87 yX0_test, Cond.instanceMethod yX0_test, Cond.selects RX0 yX0_test yX0_test]
def wsL_run_r6 : List Cond := [Cond.code yX0_test cX0_test 6 (some .int), Cond.methodLink RX0 137 yX0_holds, Cond.static yX0_holds, Cond.code yX0_holds cX0_holds 10 (some .boolean), Cond.methodLink RX0 141 yX0_skipIf, Cond.instanceMethod yX0_skipIf, Cond.selects RX0 yX0_skipIf yX0_skipIf, Cond.code yX0_skipIf cX0_skipIf 2 (some .int), Cond.methodLink RX0 145 yX0_changeAndJump, Cond.instanceMethod yX0_changeAndJump, Cond.selects RX0 yX0_changeAndJump yX0_changeAndJump, Cond.code yX0_changeAndJump cX0_changeAndJump 5 (some .int), Cond.methodLink RX0 149 yX0_changeAndSkip, Cond.instanceMethod yX0_changeAndSkip, Cond.selects RX0 yX0_changeAndSkip yX0_changeAndSkip, Cond.code yX0_changeAndSkip cX0_changeAndSkip 7 (some .int)]
def wsL_run : List Cond := .codeWith yL_run cL_run 4 (some .int) [(0, 9, 12, 13)] :: ((wsL_run_r1 ++ (wsL_run_r2 ++ (wsL_run_r3 ++ (wsL_run_r4 ++ (wsL_run_r5 ++ wsL_run_r6))))) ++ wsX00 ++ (vx_at0 RX0 42 "java/lang/IllegalArgumentException" ["java/lang/RuntimeException", "java/lang/Exception"]).filter goodWord)
def wsL_law0_r1 : List Cond := [Cond.classLink RL 8 RX0, Cond.instantiable RX0 5, Cond.initialized RX0, Cond.classLink RL 32 RX1, Cond.instantiable RX1 6, Cond.initialized RX1, Cond.arrayClass .long, Cond.constantLong RL 35 (4294967295), Cond.methodLink RL 31 yX0_init, Cond.instanceMethod yX0_init, Cond.code yX0_init cX0_init 1 none, Cond.methodLink RX0 1 objectInit, Cond.instanceMethod objectInit, Cond.code objectInit ⟨#[0xb1]⟩ 1 none, Cond.fieldLink RX0 9 "WordMill" "memory" "[J", Cond.fieldLink RX0 13 "WordMill" "pc" "I", Cond.fieldLink RX0 17 "WordMill" "next" "I", Cond.fieldLink RX0 20 "WordMill" "doneInAll" "I", Cond.fieldLink RX0 23 "WordMill" "doneInRun" "I", Cond.methodLink RL 34 yX1_init, Cond.instanceMethod yX1_init, Cond.code yX1_init cX1_init 1 none, Cond.methodLink RX1 1 objectInit, Cond.fieldLink RX1 7 "WordMillModel" "memory" "[J"]
def wsL_law0_r2 : List Cond := [Cond.methodLink RL 37 yL_put, Cond.static yL_put, Cond.initialized RL, Cond.codeWith yL_put cL_put 5 (some .int) [(0, 6, 9, 13)], Cond.classLink RL 13 "java/lang/IllegalArgumentException", Cond.methodLink RL 7 yX0_put, Cond.instanceMethod yX0_put, Cond.selects RX0 yX0_put yX0_put, Cond.code yX0_put cX0_put 4 none, Cond.methodLink RX0 26 yX0_refuseOutside, Cond.static yX0_refuseOutside, Cond.code yX0_refuseOutside cX0_refuseOutside 2 none, Cond.classLink RX0 40 "java/lang/IllegalArgumentException", Cond.initialized "java/lang/IllegalArgumentException", Cond.methodLink RX0 30 yX0_store, Cond.instanceMethod yX0_store, Cond.selects RX0 yX0_store yX0_store, Cond.code yX0_store cX0_store 4 none, Cond.constantLong RX0 152 (68719476735), Cond.methodLink RL 42 yX1_put, Cond.instanceMethod yX1_put, Cond.selects RX1 yX1_put yX1_put, Cond.code yX1_put cX1_put 4 none, Cond.constantLong RX1 27 (68719476735)]
def wsL_law0_r3 : List Cond := [Cond.methodLink RX1 19 yX1_isPlace, Cond.static yX1_isPlace, Cond.code yX1_isPlace cX1_isPlace 2 (some .boolean), Cond.constantLong RX1 17 (4096), Cond.methodLink RX1 23 yX1_bad, Cond.instanceMethod yX1_bad, Cond.selects RX1 yX1_bad yX1_bad, Cond.code yX1_bad cX1_bad 2 (some .boolean), Cond.fieldLink RX1 13 "WordMillModel" "thrown" "I", Cond.methodLink RL 43 yX1_thrown, Cond.instanceMethod yX1_thrown, Cond.selects RX1 yX1_thrown yX1_thrown, Cond.code yX1_thrown cX1_thrown 1 (some .int), Cond.methodLink RL 47 yL_word, Cond.static yL_word, Cond.codeWith yL_word cL_word 4 (some .int) [(0, 8, 11, 13)], Cond.methodLink RL 15 yX0_word, Cond.instanceMethod yX0_word, Cond.selects RX0 yX0_word yX0_word, Cond.code yX0_word cX0_word 2 (some .long), Cond.methodLink RL 50 yX1_word, Cond.instanceMethod yX1_word, Cond.selects RX1 yX1_word yX1_word, Cond.code yX1_word cX1_word 2 (some .long)]
def wsL_law0_r4 : List Cond := [Cond.methodLink RL 51 yL_code, Cond.static yL_code, Cond.codeWith yL_code cL_code 9 (some .int) [(0, 17, 20, 13)], Cond.methodLink RL 19 yX0_code, Cond.instanceMethod yX0_code, Cond.selects RX0 yX0_code yX0_code, Cond.code yX0_code cX0_code 9 (some .long), Cond.constant RX0 34 (262143), Cond.methodLink RL 54 yX1_code, Cond.instanceMethod yX1_code, Cond.selects RX1 yX1_code yX1_code, Cond.code yX1_code cX1_code 9 (some .long), Cond.constantLong RX1 29 (4194304), Cond.constantLong RX1 31 (262143), Cond.methodLink RL 55 yL_go, Cond.static yL_go, Cond.codeWith yL_go cL_go 3 (some .int) [(0, 5, 8, 13)], Cond.methodLink RL 23 yX0_go, Cond.instanceMethod yX0_go, Cond.selects RX0 yX0_go yX0_go, Cond.code yX0_go cX0_go 2 none, Cond.methodLink RL 58 yX1_go, Cond.instanceMethod yX1_go, Cond.selects RX1 yX1_go yX1_go]
def wsL_law0_r5 : List Cond := [Cond.code yX1_go cX1_go 2 none, Cond.fieldLink RX1 33 "WordMillModel" "pc" "I", Cond.methodLink RL 59 yL_run, Cond.static yL_run, Cond.codeWith yL_run cL_run 4 (some .int) [(0, 9, 12, 13)], Cond.methodLink RL 27 yX0_run, Cond.instanceMethod yX0_run, Cond.selects RX0 yX0_run yX0_run, Cond.code yX0_run cX0_run 4 (some .int), Cond.constant RX0 39 (2147483647), Cond.methodLink RX0 35 yX0_step, Cond.instanceMethod yX0_step, Cond.selects RX0 yX0_step yX0_step, Cond.code yX0_step cX0_step 6 (some .int), Cond.methodLink RX0 43 yX0_effective, Cond.instanceMethod yX0_effective, Cond.selects RX0 yX0_effective yX0_effective, Cond.code yX0_effective cX0_effective 7 (some .int), Cond.methodLink RX0 51 yX0_indexed, Cond.instanceMethod yX0_indexed, Cond.selects RX0 yX0_indexed yX0_indexed, Cond.code yX0_indexed cX0_indexed 5 (some .int), Cond.methodLink RX0 58 yX0_rightHalf, Cond.static yX0_rightHalf]
def wsL_law0_r6 : List Cond := [Cond.code yX0_rightHalf cX0_rightHalf 2 (some .int), Cond.methodLink RX0 54 yX0_isIndirect, Cond.static yX0_isIndirect, Cond.code yX0_isIndirect cX0_isIndirect 2 (some .boolean), Cond.methodLink RX0 47 yX0_perform, Cond.instanceMethod yX0_perform, Cond.selects RX0 yX0_perform yX0_perform, Cond.code yX0_perform cX0_perform 4 (some .int), Cond.methodLink RX0 61 yX0_combine, Cond.instanceMethod yX0_combine, Cond.selects RX0 yX0_combine yX0_combine, Cond.code yX0_combine cX0_combine 7 (some .int), Cond.methodLink RX0 102 yX0_isOfHalves, Cond.static yX0_isOfHalves, Cond.code yX0_isOfHalves cX0_isOfHalves 1 (some .boolean), Cond.methodLink RX0 105 yX0_ofHalves, Cond.static yX0_ofHalves, Cond.code yX0_ofHalves cX0_ofHalves 5 (some .long), Cond.constantLong RX0 130 (68719214592), Cond.methodLink RX0 112 yX0_leftHalf, Cond.static yX0_leftHalf, Cond.code yX0_leftHalf cX0_leftHalf 2 (some .int), Cond.methodLink RX0 109 yX0_ofWords, Cond.static yX0_ofWords]
def wsL_law0_r7 : List Cond := [Cond.code yX0_ofWords cX0_ofWords 5 (some .long), Cond.methodLink RX0 119 Lib.MathLoose.abs_long.x, Cond.static Lib.MathLoose.abs_long.x, Cond.initialized "java/lang/Math", Cond.code Lib.MathLoose.abs_long.x Lib.MathLoose.abs_long.code 2 (some .long), Cond.constantLong RX0 128 (-1), Cond.methodLink RX0 115 yX0_number, Cond.static yX0_number, Cond.code yX0_number cX0_number 2 (some .long), Cond.methodLink RX0 124 yX0_shifted, Cond.static yX0_shifted, Cond.code yX0_shifted cX0_shifted 4 (some .long), Cond.methodLink RX0 65 yX0_divide, Cond.instanceMethod yX0_divide, Cond.selects RX0 yX0_divide yX0_divide, Cond.code yX0_divide cX0_divide 8 (some .int), Cond.constantLong RX0 132 (-34359738368), Cond.methodLink RX0 69 yX0_jump, Cond.instanceMethod yX0_jump, Cond.selects RX0 yX0_jump yX0_jump, Cond.code yX0_jump cX0_jump 2 (some .int), Cond.methodLink RX0 73 yX0_pushNextPlace, Cond.instanceMethod yX0_pushNextPlace, Cond.selects RX0 yX0_pushNextPlace yX0_pushNextPlace]
def wsL_law0_r8 : List Cond := [Cond.code yX0_pushNextPlace cX0_pushNextPlace 4 (some .int), Cond.methodLink RX0 93 yX0_push, Cond.instanceMethod yX0_push, Cond.selects RX0 yX0_push yX0_push, Cond.code yX0_push cX0_push 5 (some .int), Cond.methodLink RX0 134 yX0_moveTop, Cond.instanceMethod yX0_moveTop, Cond.selects RX0 yX0_moveTop yX0_moveTop, Cond.code yX0_moveTop cX0_moveTop 5 none, Cond.methodLink RX0 77 yX0_popToPc, Cond.instanceMethod yX0_popToPc, Cond.selects RX0 yX0_popToPc yX0_popToPc, Cond.code yX0_popToPc cX0_popToPc 3 (some .int), Cond.methodLink RX0 80 yX0_performOnMemory, Cond.instanceMethod yX0_performOnMemory, Cond.selects RX0 yX0_performOnMemory yX0_performOnMemory, Cond.code yX0_performOnMemory cX0_performOnMemory 4 (some .int), Cond.methodLink RX0 90 yX0_exchange, Cond.instanceMethod yX0_exchange, Cond.selects RX0 yX0_exchange yX0_exchange, Cond.code yX0_exchange cX0_exchange 5 (some .int), Cond.methodLink RX0 96 yX0_popToMemory, Cond.instanceMethod yX0_popToMemory, Cond.selects RX0 yX0_popToMemory yX0_popToMemory]
def wsL_law0_r9 : List Cond := [Cond.code yX0_popToMemory cX0_popToMemory 4 (some .int), Cond.methodLink RX0 99 yX0_leaveNextPlaceAndJump, Cond.instanceMethod yX0_leaveNextPlaceAndJump, Cond.selects RX0 yX0_leaveNextPlaceAndJump yX0_leaveNextPlaceAndJump, Cond.code yX0_leaveNextPlaceAndJump cX0_leaveNextPlaceAndJump 2 (some .int), Cond.methodLink RX0 83 yX0_isTest, Cond.static yX0_isTest, Cond.code yX0_isTest cX0_isTest 1 (some .boolean), Cond.methodLink RX0 87 yX0_test, Cond.instanceMethod yX0_test, Cond.selects RX0 yX0_test yX0_test, Cond.code yX0_test cX0_test 6 (some .int), Cond.methodLink RX0 137 yX0_holds, Cond.static yX0_holds, Cond.code yX0_holds cX0_holds 10 (some .boolean), Cond.methodLink RX0 141 yX0_skipIf, Cond.instanceMethod yX0_skipIf, Cond.selects RX0 yX0_skipIf yX0_skipIf, Cond.code yX0_skipIf cX0_skipIf 2 (some .int), Cond.methodLink RX0 145 yX0_changeAndJump, Cond.instanceMethod yX0_changeAndJump, Cond.selects RX0 yX0_changeAndJump yX0_changeAndJump, Cond.code yX0_changeAndJump cX0_changeAndJump 5 (some .int), Cond.methodLink RX0 149 yX0_changeAndSkip]
def wsL_law0_r10 : List Cond := [Cond.instanceMethod yX0_changeAndSkip, Cond.selects RX0 yX0_changeAndSkip yX0_changeAndSkip, Cond.code yX0_changeAndSkip cX0_changeAndSkip 7 (some .int), Cond.methodLink RL 61 yX1_run, Cond.instanceMethod yX1_run, Cond.selects RX1 yX1_run yX1_run, Cond.code yX1_run cX1_run 5 (some .int), Cond.fieldLink RX1 45 "WordMillModel" "latest" "I", Cond.fieldLink RX1 36 "WordMillModel" "fault" "I", Cond.fieldLink RX1 52 "WordMillModel" "done" "J", Cond.constantLong RX1 39 (15), Cond.methodLink RX1 48 yX1_isKnown, Cond.static yX1_isKnown, Cond.code yX1_isKnown cX1_isKnown 1 (some .boolean), Cond.methodLink RX1 56 yX1_effective, Cond.instanceMethod yX1_effective, Cond.selects RX1 yX1_effective yX1_effective, Cond.code yX1_effective cX1_effective 9 (some .long), Cond.methodLink RX1 41 yX1_at, Cond.instanceMethod yX1_at, Cond.selects RX1 yX1_at yX1_at, Cond.code yX1_at cX1_at 3 (some .long), Cond.methodLink RX1 59 yX1_one, Cond.instanceMethod yX1_one]
def wsL_law0_r11 : List Cond := [Cond.selects RX1 yX1_one yX1_one, Cond.code yX1_one cX1_one 9 none, Cond.methodLink RX1 63 yX1_needsWord, Cond.static yX1_needsWord, Cond.code yX1_needsWord cX1_needsWord 1 (some .boolean), Cond.methodLink RX1 66 yX1_tested, Cond.instanceMethod yX1_tested, Cond.selects RX1 yX1_tested yX1_tested, Cond.code yX1_tested cX1_tested 14 (some .int), Cond.constantLong RX1 77 (4095), Cond.methodLink RX1 79 yX1_number, Cond.static yX1_number, Cond.code yX1_number cX1_number 2 (some .long), Cond.methodLink RX1 82 yX1_is, Cond.static yX1_is, Cond.code yX1_is cX1_is 5 (some .boolean), Cond.methodLink RX1 70 yX1_piled, Cond.instanceMethod yX1_piled, Cond.selects RX1 yX1_piled yX1_piled, Cond.code yX1_piled cX1_piled 14 (some .int), Cond.methodLink RX1 88 yX1_half, Cond.static yX1_half, Cond.code yX1_half cX1_half 4 (some .long), Cond.constantLong RX1 86 (-262144)]
def wsL_law0_r12 : List Cond := [Cond.methodLink RX1 73 yX1_moved, Cond.instanceMethod yX1_moved, Cond.selects RX1 yX1_moved yX1_moved, Cond.code yX1_moved cX1_moved 11 none, Cond.constantLong RX1 96 (36), Cond.constantLong RX1 98 (-36), Cond.methodLink RX1 92 yX1_divided, Cond.instanceMethod yX1_divided, Cond.selects RX1 yX1_divided yX1_divided, Cond.code yX1_divided cX1_divided 6 none, Cond.constantLong RX1 103 (-34359738368), Cond.constantLong RX1 105 (-1), Cond.methodLink RX1 100 yX1_bits, Cond.instanceMethod yX1_bits, Cond.selects RX1 yX1_bits yX1_bits, Cond.code yX1_bits cX1_bits 7 none, Cond.methodLink RL 62 yX0_count, Cond.instanceMethod yX0_count, Cond.selects RX0 yX0_count yX0_count, Cond.code yX0_count cX0_count 2 (some .int), Cond.methodLink RL 65 yX1_count, Cond.instanceMethod yX1_count, Cond.selects RX1 yX1_count yX1_count, Cond.code yX1_count cX1_count 2 (some .int)]
def wsL_law0_r13 : List Cond := [Cond.constantLong RX1 107 (2147483647)]
def wsL_law0 : List Cond := (wsL_law0_r1 ++ (wsL_law0_r2 ++ (wsL_law0_r3 ++ (wsL_law0_r4 ++ (wsL_law0_r5 ++ (wsL_law0_r6 ++ (wsL_law0_r7 ++ (wsL_law0_r8 ++ (wsL_law0_r9 ++ (wsL_law0_r10 ++ (wsL_law0_r11 ++ (wsL_law0_r12 ++ wsL_law0_r13)))))))))))) ++ wsX00 ++ wsX10 ++ ([] : List Cond)
def wsL_law : List Cond := wsL_law0 ++ (vx_at0 RX0 42 "java/lang/IllegalArgumentException" ["java/lang/RuntimeException", "java/lang/Exception"]).filter goodWord
abbrev vwCl : List vw_C := [(RX0, TX0, 5), (RX1, TX1, 6)]
end
section
theorem dX0_init_0 : decode cX0_init 0 = .ok (.aload_n 0, 1) := by decide +kernel
theorem dX0_init_1 : decode cX0_init 1 = .ok (.invokespecial 1, 3) := by decide +kernel
theorem dX0_init_4 : decode cX0_init 4 = .ok (.aload_n 0, 1) := by decide +kernel
theorem dX0_init_5 : decode cX0_init 5 = .ok (.sipush 4096, 3) := by decide +kernel
theorem dX0_init_8 : decode cX0_init 8 = .ok (.newarray .long, 2) := by decide +kernel
theorem dX0_init_10 : decode cX0_init 10 = .ok (.putfield 9, 3) := by decide +kernel
theorem dX0_init_13 : decode cX0_init 13 = .ok (.aload_n 0, 1) := by decide +kernel
theorem dX0_init_14 : decode cX0_init 14 = .ok (.iconst 0, 1) := by decide +kernel
theorem dX0_init_15 : decode cX0_init 15 = .ok (.putfield 13, 3) := by decide +kernel
theorem dX0_init_18 : decode cX0_init 18 = .ok (.aload_n 0, 1) := by decide +kernel
theorem dX0_init_19 : decode cX0_init 19 = .ok (.iconst 0, 1) := by decide +kernel
theorem dX0_init_20 : decode cX0_init 20 = .ok (.putfield 17, 3) := by decide +kernel
theorem dX0_init_23 : decode cX0_init 23 = .ok (.aload_n 0, 1) := by decide +kernel
theorem dX0_init_24 : decode cX0_init 24 = .ok (.iconst 0, 1) := by decide +kernel
theorem dX0_init_25 : decode cX0_init 25 = .ok (.putfield 20, 3) := by decide +kernel
theorem dX0_init_28 : decode cX0_init 28 = .ok (.aload_n 0, 1) := by decide +kernel
theorem dX0_init_29 : decode cX0_init 29 = .ok (.iconst 0, 1) := by decide +kernel
theorem dX0_init_30 : decode cX0_init 30 = .ok (.putfield 23, 3) := by decide +kernel
theorem dX0_init_33 : decode cX0_init 33 = .ok (.return_, 1) := by decide +kernel
set_option maxRecDepth 20000 in
theorem ggX0_put_X0_refuseOutside : GoodIn wsX0_put wsX0_refuseOutside := goodIn_ca (goodIn_r _ [4, 5, 6] (by decide +kernel) (by decide +kernel)) (goodIn_sub (fun _ h => List.mem_cons_of_mem _ (List.mem_append_right _ h)) (by decide +kernel))
set_option maxRecDepth 20000 in
theorem gX0_put_X0_refuseOutside : GoodIn wsX0_put (va_wsS RX0 26 yX0_refuseOutside wsX0_refuseOutside) := goodIn_app (goodIn_of _ (by decide +kernel)) ggX0_put_X0_refuseOutside
set_option maxRecDepth 20000 in
theorem ggX0_put_X0_store : GoodIn wsX0_put wsX0_store := goodIn_r _ [10, 11, 12, 13, 14, 15, 16, 17] (by decide +kernel) (by decide +kernel)
set_option maxRecDepth 20000 in
theorem gX0_put_X0_store : GoodIn wsX0_put (wsV RX0 30 RX0 yX0_store wsX0_store) := goodIn_app (goodIn_of _ (by decide +kernel)) ggX0_put_X0_store
theorem dX0_put_0 : decode cX0_put 0 = .ok (.iload_n 1, 1) := by decide +kernel
theorem dX0_put_1 : decode cX0_put 1 = .ok (.sipush 4095, 3) := by decide +kernel
theorem dX0_put_4 : decode cX0_put 4 = .ok (.invokestatic 26, 3) := by decide +kernel
theorem dX0_put_7 : decode cX0_put 7 = .ok (.aload_n 0, 1) := by decide +kernel
theorem dX0_put_8 : decode cX0_put 8 = .ok (.iload_n 1, 1) := by decide +kernel
theorem dX0_put_9 : decode cX0_put 9 = .ok (.lload_n 2, 1) := by decide +kernel
theorem dX0_put_10 : decode cX0_put 10 = .ok (.invokevirtual 30, 3) := by decide +kernel
theorem dX0_put_13 : decode cX0_put 13 = .ok (.return_, 1) := by decide +kernel
set_option maxRecDepth 20000 in
theorem ggX0_word_X0_refuseOutside : GoodIn wsX0_word wsX0_refuseOutside := goodIn_ca (goodIn_r _ [5, 6, 7] (by decide +kernel) (by decide +kernel)) (goodIn_sub (fun _ h => List.mem_cons_of_mem _ (List.mem_append_right _ h)) (by decide +kernel))
set_option maxRecDepth 20000 in
theorem gX0_word_X0_refuseOutside : GoodIn wsX0_word (va_wsS RX0 26 yX0_refuseOutside wsX0_refuseOutside) := goodIn_app (goodIn_of _ (by decide +kernel)) ggX0_word_X0_refuseOutside
theorem dX0_word_0 : decode cX0_word 0 = .ok (.iload_n 1, 1) := by decide +kernel
theorem dX0_word_1 : decode cX0_word 1 = .ok (.sipush 4095, 3) := by decide +kernel
theorem dX0_word_4 : decode cX0_word 4 = .ok (.invokestatic 26, 3) := by decide +kernel
theorem dX0_word_7 : decode cX0_word 7 = .ok (.aload_n 0, 1) := by decide +kernel
theorem dX0_word_8 : decode cX0_word 8 = .ok (.getfield 9, 3) := by decide +kernel
theorem dX0_word_11 : decode cX0_word 11 = .ok (.iload_n 1, 1) := by decide +kernel
theorem dX0_word_12 : decode cX0_word 12 = .ok (.laload, 1) := by decide +kernel
theorem dX0_word_13 : decode cX0_word 13 = .ok (.lreturn, 1) := by decide +kernel
set_option maxRecDepth 20000 in
theorem ggX0_code_X0_refuseOutside : GoodIn wsX0_code wsX0_refuseOutside := goodIn_ca (goodIn_r _ [5, 6, 7] (by decide +kernel) (by decide +kernel)) (goodIn_sub (fun _ h => List.mem_cons_of_mem _ (List.mem_append_right _ h)) (by decide +kernel))
set_option maxRecDepth 20000 in
theorem gX0_code_X0_refuseOutside : GoodIn wsX0_code (va_wsS RX0 26 yX0_refuseOutside wsX0_refuseOutside) := goodIn_app (goodIn_of _ (by decide +kernel)) ggX0_code_X0_refuseOutside
set_option maxRecDepth 20000 in
theorem ggX0_code_X0_store : GoodIn wsX0_code wsX0_store := goodIn_r _ [11, 12, 13, 14, 15, 16, 17, 18] (by decide +kernel) (by decide +kernel)
set_option maxRecDepth 20000 in
theorem gX0_code_X0_store : GoodIn wsX0_code (wsV RX0 30 RX0 yX0_store wsX0_store) := goodIn_app (goodIn_of _ (by decide +kernel)) ggX0_code_X0_store
theorem dX0_code_0 : decode cX0_code 0 = .ok (.iload_n 1, 1) := by decide +kernel
theorem dX0_code_1 : decode cX0_code 1 = .ok (.sipush 4095, 3) := by decide +kernel
theorem dX0_code_4 : decode cX0_code 4 = .ok (.invokestatic 26, 3) := by decide +kernel
theorem dX0_code_7 : decode cX0_code 7 = .ok (.iload_n 2, 1) := by decide +kernel
theorem dX0_code_8 : decode cX0_code 8 = .ok (.sipush 511, 3) := by decide +kernel
theorem dX0_code_11 : decode cX0_code 11 = .ok (.invokestatic 26, 3) := by decide +kernel
theorem dX0_code_14 : decode cX0_code 14 = .ok (.iload_n 3, 1) := by decide +kernel
theorem dX0_code_15 : decode cX0_code 15 = .ok (.bipush 15, 2) := by decide +kernel
theorem dX0_code_17 : decode cX0_code 17 = .ok (.invokestatic 26, 3) := by decide +kernel
theorem dX0_code_20 : decode cX0_code 20 = .ok (.iload 5, 2) := by decide +kernel
theorem dX0_code_22 : decode cX0_code 22 = .ok (.bipush 15, 2) := by decide +kernel
theorem dX0_code_24 : decode cX0_code 24 = .ok (.invokestatic 26, 3) := by decide +kernel
theorem dX0_code_27 : decode cX0_code 27 = .ok (.iload_n 2, 1) := by decide +kernel
theorem dX0_code_28 : decode cX0_code 28 = .ok (.i2l, 1) := by decide +kernel
theorem dX0_code_29 : decode cX0_code 29 = .ok (.bipush 27, 2) := by decide +kernel
theorem dX0_code_31 : decode cX0_code 31 = .ok (.lshl, 1) := by decide +kernel
theorem dX0_code_32 : decode cX0_code 32 = .ok (.iload_n 3, 1) := by decide +kernel
theorem dX0_code_33 : decode cX0_code 33 = .ok (.i2l, 1) := by decide +kernel
theorem dX0_code_34 : decode cX0_code 34 = .ok (.bipush 23, 2) := by decide +kernel
theorem dX0_code_36 : decode cX0_code 36 = .ok (.lshl, 1) := by decide +kernel
theorem dX0_code_37 : decode cX0_code 37 = .ok (.lor, 1) := by decide +kernel
theorem dX0_code_38 : decode cX0_code 38 = .ok (.iload 4, 2) := by decide +kernel
theorem dX0_code_40 : decode cX0_code 40 = .ok (.ifCond .eq 7, 3) := by decide +kernel
theorem dX0_code_43 : decode cX0_code 43 = .ok (.lconst 1, 1) := by decide +kernel
theorem dX0_code_44 : decode cX0_code 44 = .ok (.goto 4, 3) := by decide +kernel
theorem dX0_code_47 : decode cX0_code 47 = .ok (.lconst 0, 1) := by decide +kernel
theorem dX0_code_48 : decode cX0_code 48 = .ok (.bipush 22, 2) := by decide +kernel
theorem dX0_code_50 : decode cX0_code 50 = .ok (.lshl, 1) := by decide +kernel
theorem dX0_code_51 : decode cX0_code 51 = .ok (.lor, 1) := by decide +kernel
theorem dX0_code_52 : decode cX0_code 52 = .ok (.iload 5, 2) := by decide +kernel
theorem dX0_code_54 : decode cX0_code 54 = .ok (.i2l, 1) := by decide +kernel
theorem dX0_code_55 : decode cX0_code 55 = .ok (.bipush 18, 2) := by decide +kernel
theorem dX0_code_57 : decode cX0_code 57 = .ok (.lshl, 1) := by decide +kernel
theorem dX0_code_58 : decode cX0_code 58 = .ok (.lor, 1) := by decide +kernel
theorem dX0_code_59 : decode cX0_code 59 = .ok (.iload 6, 2) := by decide +kernel
theorem dX0_code_61 : decode cX0_code 61 = .ok (.ldc 34, 2) := by decide +kernel
theorem dX0_code_63 : decode cX0_code 63 = .ok (.iand, 1) := by decide +kernel
theorem dX0_code_64 : decode cX0_code 64 = .ok (.i2l, 1) := by decide +kernel
theorem dX0_code_65 : decode cX0_code 65 = .ok (.lor, 1) := by decide +kernel
theorem dX0_code_66 : decode cX0_code 66 = .ok (.lstore 7, 2) := by decide +kernel
theorem dX0_code_68 : decode cX0_code 68 = .ok (.aload_n 0, 1) := by decide +kernel
theorem dX0_code_69 : decode cX0_code 69 = .ok (.iload_n 1, 1) := by decide +kernel
theorem dX0_code_70 : decode cX0_code 70 = .ok (.lload 7, 2) := by decide +kernel
theorem dX0_code_72 : decode cX0_code 72 = .ok (.invokevirtual 30, 3) := by decide +kernel
theorem dX0_code_75 : decode cX0_code 75 = .ok (.lload 7, 2) := by decide +kernel
theorem dX0_code_77 : decode cX0_code 77 = .ok (.lreturn, 1) := by decide +kernel
set_option maxRecDepth 20000 in
theorem ggX0_go_X0_refuseOutside : GoodIn wsX0_go wsX0_refuseOutside := goodIn_ca (goodIn_r _ [5, 6, 7] (by decide +kernel) (by decide +kernel)) (goodIn_sub (fun _ h => List.mem_cons_of_mem _ (List.mem_append_right _ h)) (by decide +kernel))
set_option maxRecDepth 20000 in
theorem gX0_go_X0_refuseOutside : GoodIn wsX0_go (va_wsS RX0 26 yX0_refuseOutside wsX0_refuseOutside) := goodIn_app (goodIn_of _ (by decide +kernel)) ggX0_go_X0_refuseOutside
theorem dX0_go_0 : decode cX0_go 0 = .ok (.iload_n 1, 1) := by decide +kernel
theorem dX0_go_1 : decode cX0_go 1 = .ok (.sipush 4095, 3) := by decide +kernel
theorem dX0_go_4 : decode cX0_go 4 = .ok (.invokestatic 26, 3) := by decide +kernel
theorem dX0_go_7 : decode cX0_go 7 = .ok (.aload_n 0, 1) := by decide +kernel
theorem dX0_go_8 : decode cX0_go 8 = .ok (.iload_n 1, 1) := by decide +kernel
theorem dX0_go_9 : decode cX0_go 9 = .ok (.putfield 13, 3) := by decide +kernel
theorem dX0_go_12 : decode cX0_go 12 = .ok (.return_, 1) := by decide +kernel
set_option maxRecDepth 20000 in
theorem ggX0_run_X0_refuseOutside : GoodIn wsX0_run wsX0_refuseOutside := goodIn_ca (goodIn_r _ [9, 10, 11] (by decide +kernel) (by decide +kernel)) (goodIn_sub (fun _ h => List.mem_cons_of_mem _ (List.mem_append_right _ h)) (by decide +kernel))
set_option maxRecDepth 20000 in
theorem gX0_run_X0_refuseOutside : GoodIn wsX0_run (va_wsS RX0 26 yX0_refuseOutside wsX0_refuseOutside) := goodIn_app (goodIn_of _ (by decide +kernel)) ggX0_run_X0_refuseOutside
set_option maxRecDepth 20000 in
theorem ggX0_run_X0_step : GoodIn wsX0_run wsX0_step := goodIn_r _ [15, 16, 3, 2, 17, 18, 19, 8, 20, 21, 22, 23, 24, 25, 26, 27, 28, 29, 30, 31, 32, 33, 34, 35, 36, 37, 38, 39, 40, 41, 42, 43, 44, 45, 46, 47, 48, 49, 50, 51, 52, 53, 54, 55, 56, 57, 58, 59, 60, 61, 62, 63, 64, 65, 66, 67, 68, 69, 70, 71, 72, 73, 74, 75, 76, 77, 78, 79, 80, 81, 82, 83, 84, 85, 86, 87, 88, 89, 90, 91, 92, 93, 94, 95, 96, 97, 98, 99, 100, 101, 102, 103, 104, 105, 106, 107, 108, 109, 110, 111, 112, 113, 114, 115, 116, 117, 118, 119, 120, 121, 122, 123, 124, 125, 126, 127, 128, 129, 130, 131, 132, 133, 134, 135, 136] (by decide +kernel) (by decide +kernel)
set_option maxRecDepth 20000 in
theorem gX0_run_X0_step : GoodIn wsX0_run (wsV RX0 35 RX0 yX0_step wsX0_step) := goodIn_app (goodIn_of _ (by decide +kernel)) ggX0_run_X0_step
theorem dX0_run_0 : decode cX0_run 0 = .ok (.iload_n 1, 1) := by decide +kernel
theorem dX0_run_1 : decode cX0_run 1 = .ok (.sipush 20000, 3) := by decide +kernel
theorem dX0_run_4 : decode cX0_run 4 = .ok (.invokestatic 26, 3) := by decide +kernel
theorem dX0_run_7 : decode cX0_run 7 = .ok (.aload_n 0, 1) := by decide +kernel
theorem dX0_run_8 : decode cX0_run 8 = .ok (.iconst 0, 1) := by decide +kernel
theorem dX0_run_9 : decode cX0_run 9 = .ok (.putfield 23, 3) := by decide +kernel
theorem dX0_run_12 : decode cX0_run 12 = .ok (.iconst 0, 1) := by decide +kernel
theorem dX0_run_13 : decode cX0_run 13 = .ok (.istore_n 2, 1) := by decide +kernel
theorem dX0_run_14 : decode cX0_run 14 = .ok (.iload_n 2, 1) := by decide +kernel
theorem dX0_run_15 : decode cX0_run 15 = .ok (.iload_n 1, 1) := by decide +kernel
theorem dX0_run_16 : decode cX0_run 16 = .ok (.if_icmp .ge 58, 3) := by decide +kernel
theorem dX0_run_19 : decode cX0_run 19 = .ok (.aload_n 0, 1) := by decide +kernel
theorem dX0_run_20 : decode cX0_run 20 = .ok (.invokevirtual 35, 3) := by decide +kernel
theorem dX0_run_23 : decode cX0_run 23 = .ok (.istore_n 3, 1) := by decide +kernel
theorem dX0_run_24 : decode cX0_run 24 = .ok (.iload_n 3, 1) := by decide +kernel
theorem dX0_run_25 : decode cX0_run 25 = .ok (.ifCond .le 5, 3) := by decide +kernel
theorem dX0_run_28 : decode cX0_run 28 = .ok (.iload_n 3, 1) := by decide +kernel
theorem dX0_run_29 : decode cX0_run 29 = .ok (.ireturn, 1) := by decide +kernel
theorem dX0_run_30 : decode cX0_run 30 = .ok (.aload_n 0, 1) := by decide +kernel
theorem dX0_run_31 : decode cX0_run 31 = .ok (.aload_n 0, 1) := by decide +kernel
theorem dX0_run_32 : decode cX0_run 32 = .ok (.getfield 17, 3) := by decide +kernel
theorem dX0_run_35 : decode cX0_run 35 = .ok (.putfield 13, 3) := by decide +kernel
theorem dX0_run_38 : decode cX0_run 38 = .ok (.aload_n 0, 1) := by decide +kernel
theorem dX0_run_39 : decode cX0_run 39 = .ok (.dup, 1) := by decide +kernel
theorem dX0_run_40 : decode cX0_run 40 = .ok (.getfield 23, 3) := by decide +kernel
theorem dX0_run_43 : decode cX0_run 43 = .ok (.iconst 1, 1) := by decide +kernel
theorem dX0_run_44 : decode cX0_run 44 = .ok (.iadd, 1) := by decide +kernel
theorem dX0_run_45 : decode cX0_run 45 = .ok (.putfield 23, 3) := by decide +kernel
theorem dX0_run_48 : decode cX0_run 48 = .ok (.aload_n 0, 1) := by decide +kernel
theorem dX0_run_49 : decode cX0_run 49 = .ok (.aload_n 0, 1) := by decide +kernel
theorem dX0_run_50 : decode cX0_run 50 = .ok (.getfield 20, 3) := by decide +kernel
theorem dX0_run_53 : decode cX0_run 53 = .ok (.iconst 1, 1) := by decide +kernel
theorem dX0_run_54 : decode cX0_run 54 = .ok (.iadd, 1) := by decide +kernel
theorem dX0_run_55 : decode cX0_run 55 = .ok (.ldc 39, 2) := by decide +kernel
theorem dX0_run_57 : decode cX0_run 57 = .ok (.iand, 1) := by decide +kernel
theorem dX0_run_58 : decode cX0_run 58 = .ok (.putfield 20, 3) := by decide +kernel
theorem dX0_run_61 : decode cX0_run 61 = .ok (.iload_n 3, 1) := by decide +kernel
theorem dX0_run_62 : decode cX0_run 62 = .ok (.iconst (-1), 1) := by decide +kernel
theorem dX0_run_63 : decode cX0_run 63 = .ok (.if_icmp .ne 5, 3) := by decide +kernel
theorem dX0_run_66 : decode cX0_run 66 = .ok (.iconst (-1), 1) := by decide +kernel
theorem dX0_run_67 : decode cX0_run 67 = .ok (.ireturn, 1) := by decide +kernel
theorem dX0_run_68 : decode cX0_run 68 = .ok (.iinc 2 1, 3) := by decide +kernel
theorem dX0_run_71 : decode cX0_run 71 = .ok (.goto (-57), 3) := by decide +kernel
theorem dX0_run_74 : decode cX0_run 74 = .ok (.iconst 0, 1) := by decide +kernel
theorem dX0_run_75 : decode cX0_run 75 = .ok (.ireturn, 1) := by decide +kernel
theorem dX0_count_0 : decode cX0_count 0 = .ok (.iload_n 1, 1) := by decide +kernel
theorem dX0_count_1 : decode cX0_count 1 = .ok (.tableswitch 42 0 2 #[27, 32, 37], 27) := by decide +kernel
theorem dX0_count_28 : decode cX0_count 28 = .ok (.aload_n 0, 1) := by decide +kernel
theorem dX0_count_29 : decode cX0_count 29 = .ok (.getfield 13, 3) := by decide +kernel
theorem dX0_count_32 : decode cX0_count 32 = .ok (.ireturn, 1) := by decide +kernel
theorem dX0_count_33 : decode cX0_count 33 = .ok (.aload_n 0, 1) := by decide +kernel
theorem dX0_count_34 : decode cX0_count 34 = .ok (.getfield 20, 3) := by decide +kernel
theorem dX0_count_37 : decode cX0_count 37 = .ok (.ireturn, 1) := by decide +kernel
theorem dX0_count_38 : decode cX0_count 38 = .ok (.aload_n 0, 1) := by decide +kernel
theorem dX0_count_39 : decode cX0_count 39 = .ok (.getfield 23, 3) := by decide +kernel
theorem dX0_count_42 : decode cX0_count 42 = .ok (.ireturn, 1) := by decide +kernel
theorem dX0_count_43 : decode cX0_count 43 = .ok (.iconst (-1), 1) := by decide +kernel
theorem dX0_count_44 : decode cX0_count 44 = .ok (.ireturn, 1) := by decide +kernel
theorem dX0_refuseOutside_0 : decode cX0_refuseOutside 0 = .ok (.iload_n 0, 1) := by decide +kernel
theorem dX0_refuseOutside_1 : decode cX0_refuseOutside 1 = .ok (.ifCond .lt 8, 3) := by decide +kernel
theorem dX0_refuseOutside_4 : decode cX0_refuseOutside 4 = .ok (.iload_n 0, 1) := by decide +kernel
theorem dX0_refuseOutside_5 : decode cX0_refuseOutside 5 = .ok (.iload_n 1, 1) := by decide +kernel
theorem dX0_refuseOutside_6 : decode cX0_refuseOutside 6 = .ok (.if_icmp .le 11, 3) := by decide +kernel
theorem dX0_refuseOutside_9 : decode cX0_refuseOutside 9 = .ok (.new 40, 3) := by decide +kernel
theorem dX0_refuseOutside_12 : decode cX0_refuseOutside 12 = .ok (.dup, 1) := by decide +kernel
theorem dX0_refuseOutside_13 : decode cX0_refuseOutside 13 = .ok (.invokespecial 42, 3) := by decide +kernel
theorem dX0_refuseOutside_16 : decode cX0_refuseOutside 16 = .ok (.athrow, 1) := by decide +kernel
theorem dX0_refuseOutside_17 : decode cX0_refuseOutside 17 = .ok (.return_, 1) := by decide +kernel
set_option maxRecDepth 20000 in
theorem ggX0_step_X0_effective : GoodIn wsX0_step wsX0_effective := goodIn_r _ [8, 1, 9, 10, 11, 7, 12, 13, 14, 15, 16, 17, 18, 19, 120, 121, 122, 123, 124] (by decide +kernel) (by decide +kernel)
set_option maxRecDepth 20000 in
theorem gX0_step_X0_effective : GoodIn wsX0_step (wsV RX0 43 RX0 yX0_effective wsX0_effective) := goodIn_app (goodIn_of _ (by decide +kernel)) ggX0_step_X0_effective
set_option maxRecDepth 20000 in
theorem ggX0_step_X0_perform : GoodIn wsX0_step wsX0_perform := goodIn_r _ [23, 24, 25, 26, 7, 27, 1, 28, 29, 30, 31, 32, 33, 34, 14, 15, 16, 13, 35, 36, 37, 38, 39, 40, 41, 42, 43, 44, 45, 46, 47, 48, 49, 50, 51, 52, 53, 54, 55, 56, 57, 58, 59, 60, 61, 62, 63, 64, 65, 3, 66, 67, 68, 69, 70, 71, 72, 73, 74, 75, 76, 77, 78, 79, 80, 81, 82, 83, 84, 85, 86, 87, 88, 89, 90, 91, 92, 93, 94, 95, 96, 97, 98, 99, 100, 101, 102, 103, 104, 105, 106, 107, 108, 109, 110, 111, 112, 113, 114, 115, 116, 117, 118, 119, 120, 121, 122, 123, 124] (by decide +kernel) (by decide +kernel)
set_option maxRecDepth 20000 in
theorem gX0_step_X0_perform : GoodIn wsX0_step (wsV RX0 47 RX0 yX0_perform wsX0_perform) := goodIn_app (goodIn_of _ (by decide +kernel)) ggX0_step_X0_perform
theorem dX0_step_0 : decode cX0_step 0 = .ok (.aload_n 0, 1) := by decide +kernel
theorem dX0_step_1 : decode cX0_step 1 = .ok (.getfield 9, 3) := by decide +kernel
theorem dX0_step_4 : decode cX0_step 4 = .ok (.aload_n 0, 1) := by decide +kernel
theorem dX0_step_5 : decode cX0_step 5 = .ok (.getfield 13, 3) := by decide +kernel
theorem dX0_step_8 : decode cX0_step 8 = .ok (.laload, 1) := by decide +kernel
theorem dX0_step_9 : decode cX0_step 9 = .ok (.lstore_n 1, 1) := by decide +kernel
theorem dX0_step_10 : decode cX0_step 10 = .ok (.aload_n 0, 1) := by decide +kernel
theorem dX0_step_11 : decode cX0_step 11 = .ok (.lload_n 1, 1) := by decide +kernel
theorem dX0_step_12 : decode cX0_step 12 = .ok (.invokevirtual 43, 3) := by decide +kernel
theorem dX0_step_15 : decode cX0_step 15 = .ok (.istore_n 3, 1) := by decide +kernel
theorem dX0_step_16 : decode cX0_step 16 = .ok (.iload_n 3, 1) := by decide +kernel
theorem dX0_step_17 : decode cX0_step 17 = .ok (.iconst (-1), 1) := by decide +kernel
theorem dX0_step_18 : decode cX0_step 18 = .ok (.if_icmp .ne 5, 3) := by decide +kernel
theorem dX0_step_21 : decode cX0_step 21 = .ok (.iconst 2, 1) := by decide +kernel
theorem dX0_step_22 : decode cX0_step 22 = .ok (.ireturn, 1) := by decide +kernel
theorem dX0_step_23 : decode cX0_step 23 = .ok (.aload_n 0, 1) := by decide +kernel
theorem dX0_step_24 : decode cX0_step 24 = .ok (.aload_n 0, 1) := by decide +kernel
theorem dX0_step_25 : decode cX0_step 25 = .ok (.getfield 13, 3) := by decide +kernel
theorem dX0_step_28 : decode cX0_step 28 = .ok (.iconst 1, 1) := by decide +kernel
theorem dX0_step_29 : decode cX0_step 29 = .ok (.iadd, 1) := by decide +kernel
theorem dX0_step_30 : decode cX0_step 30 = .ok (.sipush 4095, 3) := by decide +kernel
theorem dX0_step_33 : decode cX0_step 33 = .ok (.iand, 1) := by decide +kernel
theorem dX0_step_34 : decode cX0_step 34 = .ok (.putfield 17, 3) := by decide +kernel
theorem dX0_step_37 : decode cX0_step 37 = .ok (.lload_n 1, 1) := by decide +kernel
theorem dX0_step_38 : decode cX0_step 38 = .ok (.bipush 27, 2) := by decide +kernel
theorem dX0_step_40 : decode cX0_step 40 = .ok (.lshr, 1) := by decide +kernel
theorem dX0_step_41 : decode cX0_step 41 = .ok (.l2i, 1) := by decide +kernel
theorem dX0_step_42 : decode cX0_step 42 = .ok (.sipush 511, 3) := by decide +kernel
theorem dX0_step_45 : decode cX0_step 45 = .ok (.iand, 1) := by decide +kernel
theorem dX0_step_46 : decode cX0_step 46 = .ok (.istore 4, 2) := by decide +kernel
theorem dX0_step_48 : decode cX0_step 48 = .ok (.lload_n 1, 1) := by decide +kernel
theorem dX0_step_49 : decode cX0_step 49 = .ok (.bipush 23, 2) := by decide +kernel
theorem dX0_step_51 : decode cX0_step 51 = .ok (.lshr, 1) := by decide +kernel
theorem dX0_step_52 : decode cX0_step 52 = .ok (.l2i, 1) := by decide +kernel
theorem dX0_step_53 : decode cX0_step 53 = .ok (.bipush 15, 2) := by decide +kernel
theorem dX0_step_55 : decode cX0_step 55 = .ok (.iand, 1) := by decide +kernel
theorem dX0_step_56 : decode cX0_step 56 = .ok (.istore 5, 2) := by decide +kernel
theorem dX0_step_58 : decode cX0_step 58 = .ok (.aload_n 0, 1) := by decide +kernel
theorem dX0_step_59 : decode cX0_step 59 = .ok (.iload 4, 2) := by decide +kernel
theorem dX0_step_61 : decode cX0_step 61 = .ok (.iload 5, 2) := by decide +kernel
theorem dX0_step_63 : decode cX0_step 63 = .ok (.iload_n 3, 1) := by decide +kernel
theorem dX0_step_64 : decode cX0_step 64 = .ok (.invokevirtual 47, 3) := by decide +kernel
theorem dX0_step_67 : decode cX0_step 67 = .ok (.ireturn, 1) := by decide +kernel
set_option maxRecDepth 20000 in
theorem ggX0_effective_X0_indexed : GoodIn wsX0_effective wsX0_indexed := goodIn_r _ [6, 1, 7, 8, 9, 5, 10, 14, 15, 16, 17, 18] (by decide +kernel) (by decide +kernel)
set_option maxRecDepth 20000 in
theorem gX0_effective_X0_indexed : GoodIn wsX0_effective (wsV RX0 51 RX0 yX0_indexed wsX0_indexed) := goodIn_app (goodIn_of _ (by decide +kernel)) ggX0_effective_X0_indexed
set_option maxRecDepth 20000 in
theorem ggX0_effective_X0_isIndirect : GoodIn wsX0_effective wsX0_isIndirect := goodIn_r _ [13] (by decide +kernel) (by decide +kernel)
set_option maxRecDepth 20000 in
theorem gX0_effective_X0_isIndirect : GoodIn wsX0_effective (va_wsS RX0 54 yX0_isIndirect wsX0_isIndirect) := goodIn_app (goodIn_of _ (by decide +kernel)) ggX0_effective_X0_isIndirect
theorem dX0_effective_0 : decode cX0_effective 0 = .ok (.lload_n 1, 1) := by decide +kernel
theorem dX0_effective_1 : decode cX0_effective 1 = .ok (.lstore_n 3, 1) := by decide +kernel
theorem dX0_effective_2 : decode cX0_effective 2 = .ok (.aload_n 0, 1) := by decide +kernel
theorem dX0_effective_3 : decode cX0_effective 3 = .ok (.lload_n 3, 1) := by decide +kernel
theorem dX0_effective_4 : decode cX0_effective 4 = .ok (.invokevirtual 51, 3) := by decide +kernel
theorem dX0_effective_7 : decode cX0_effective 7 = .ok (.istore 5, 2) := by decide +kernel
theorem dX0_effective_9 : decode cX0_effective 9 = .ok (.iconst 0, 1) := by decide +kernel
theorem dX0_effective_10 : decode cX0_effective 10 = .ok (.istore 6, 2) := by decide +kernel
theorem dX0_effective_12 : decode cX0_effective 12 = .ok (.iload 6, 2) := by decide +kernel
theorem dX0_effective_14 : decode cX0_effective 14 = .ok (.bipush 20, 2) := by decide +kernel
theorem dX0_effective_16 : decode cX0_effective 16 = .ok (.if_icmp .ge 41, 3) := by decide +kernel
theorem dX0_effective_19 : decode cX0_effective 19 = .ok (.lload_n 3, 1) := by decide +kernel
theorem dX0_effective_20 : decode cX0_effective 20 = .ok (.invokestatic 54, 3) := by decide +kernel
theorem dX0_effective_23 : decode cX0_effective 23 = .ok (.ifCond .eq 34, 3) := by decide +kernel
theorem dX0_effective_26 : decode cX0_effective 26 = .ok (.iload 5, 2) := by decide +kernel
theorem dX0_effective_28 : decode cX0_effective 28 = .ok (.sipush 4096, 3) := by decide +kernel
theorem dX0_effective_31 : decode cX0_effective 31 = .ok (.if_icmp .lt 5, 3) := by decide +kernel
theorem dX0_effective_34 : decode cX0_effective 34 = .ok (.iconst (-1), 1) := by decide +kernel
theorem dX0_effective_35 : decode cX0_effective 35 = .ok (.ireturn, 1) := by decide +kernel
theorem dX0_effective_36 : decode cX0_effective 36 = .ok (.aload_n 0, 1) := by decide +kernel
theorem dX0_effective_37 : decode cX0_effective 37 = .ok (.getfield 9, 3) := by decide +kernel
theorem dX0_effective_40 : decode cX0_effective 40 = .ok (.iload 5, 2) := by decide +kernel
theorem dX0_effective_42 : decode cX0_effective 42 = .ok (.laload, 1) := by decide +kernel
theorem dX0_effective_43 : decode cX0_effective 43 = .ok (.lstore_n 3, 1) := by decide +kernel
theorem dX0_effective_44 : decode cX0_effective 44 = .ok (.aload_n 0, 1) := by decide +kernel
theorem dX0_effective_45 : decode cX0_effective 45 = .ok (.lload_n 3, 1) := by decide +kernel
theorem dX0_effective_46 : decode cX0_effective 46 = .ok (.invokevirtual 51, 3) := by decide +kernel
theorem dX0_effective_49 : decode cX0_effective 49 = .ok (.istore 5, 2) := by decide +kernel
theorem dX0_effective_51 : decode cX0_effective 51 = .ok (.iinc 6 1, 3) := by decide +kernel
theorem dX0_effective_54 : decode cX0_effective 54 = .ok (.goto (-42), 3) := by decide +kernel
theorem dX0_effective_57 : decode cX0_effective 57 = .ok (.iload 5, 2) := by decide +kernel
theorem dX0_effective_59 : decode cX0_effective 59 = .ok (.ireturn, 1) := by decide +kernel
set_option maxRecDepth 20000 in
theorem ggX0_indexed_X0_rightHalf : GoodIn wsX0_indexed wsX0_rightHalf := goodIn_r _ [6, 2] (by decide +kernel) (by decide +kernel)
set_option maxRecDepth 20000 in
theorem gX0_indexed_X0_rightHalf : GoodIn wsX0_indexed (va_wsS RX0 58 yX0_rightHalf wsX0_rightHalf) := goodIn_app (goodIn_of _ (by decide +kernel)) ggX0_indexed_X0_rightHalf
theorem dX0_indexed_0 : decode cX0_indexed 0 = .ok (.lload_n 1, 1) := by decide +kernel
theorem dX0_indexed_1 : decode cX0_indexed 1 = .ok (.bipush 18, 2) := by decide +kernel
theorem dX0_indexed_3 : decode cX0_indexed 3 = .ok (.lshr, 1) := by decide +kernel
theorem dX0_indexed_4 : decode cX0_indexed 4 = .ok (.l2i, 1) := by decide +kernel
theorem dX0_indexed_5 : decode cX0_indexed 5 = .ok (.bipush 15, 2) := by decide +kernel
theorem dX0_indexed_7 : decode cX0_indexed 7 = .ok (.iand, 1) := by decide +kernel
theorem dX0_indexed_8 : decode cX0_indexed 8 = .ok (.istore_n 3, 1) := by decide +kernel
theorem dX0_indexed_9 : decode cX0_indexed 9 = .ok (.lload_n 1, 1) := by decide +kernel
theorem dX0_indexed_10 : decode cX0_indexed 10 = .ok (.invokestatic 58, 3) := by decide +kernel
theorem dX0_indexed_13 : decode cX0_indexed 13 = .ok (.istore 4, 2) := by decide +kernel
theorem dX0_indexed_15 : decode cX0_indexed 15 = .ok (.iload_n 3, 1) := by decide +kernel
theorem dX0_indexed_16 : decode cX0_indexed 16 = .ok (.ifCond .ne 8, 3) := by decide +kernel
theorem dX0_indexed_19 : decode cX0_indexed 19 = .ok (.iload 4, 2) := by decide +kernel
theorem dX0_indexed_21 : decode cX0_indexed 21 = .ok (.goto 18, 3) := by decide +kernel
theorem dX0_indexed_24 : decode cX0_indexed 24 = .ok (.iload 4, 2) := by decide +kernel
theorem dX0_indexed_26 : decode cX0_indexed 26 = .ok (.aload_n 0, 1) := by decide +kernel
theorem dX0_indexed_27 : decode cX0_indexed 27 = .ok (.getfield 9, 3) := by decide +kernel
theorem dX0_indexed_30 : decode cX0_indexed 30 = .ok (.iload_n 3, 1) := by decide +kernel
theorem dX0_indexed_31 : decode cX0_indexed 31 = .ok (.laload, 1) := by decide +kernel
theorem dX0_indexed_32 : decode cX0_indexed 32 = .ok (.invokestatic 58, 3) := by decide +kernel
theorem dX0_indexed_35 : decode cX0_indexed 35 = .ok (.iadd, 1) := by decide +kernel
theorem dX0_indexed_36 : decode cX0_indexed 36 = .ok (.ldc 34, 2) := by decide +kernel
theorem dX0_indexed_38 : decode cX0_indexed 38 = .ok (.iand, 1) := by decide +kernel
theorem dX0_indexed_39 : decode cX0_indexed 39 = .ok (.ireturn, 1) := by decide +kernel
theorem dX0_isIndirect_0 : decode cX0_isIndirect 0 = .ok (.lload_n 0, 1) := by decide +kernel
theorem dX0_isIndirect_1 : decode cX0_isIndirect 1 = .ok (.bipush 22, 2) := by decide +kernel
theorem dX0_isIndirect_3 : decode cX0_isIndirect 3 = .ok (.lshr, 1) := by decide +kernel
theorem dX0_isIndirect_4 : decode cX0_isIndirect 4 = .ok (.lconst 1, 1) := by decide +kernel
theorem dX0_isIndirect_5 : decode cX0_isIndirect 5 = .ok (.land, 1) := by decide +kernel
theorem dX0_isIndirect_6 : decode cX0_isIndirect 6 = .ok (.lconst 1, 1) := by decide +kernel
theorem dX0_isIndirect_7 : decode cX0_isIndirect 7 = .ok (.lcmp, 1) := by decide +kernel
theorem dX0_isIndirect_8 : decode cX0_isIndirect 8 = .ok (.ifCond .ne 7, 3) := by decide +kernel
theorem dX0_isIndirect_11 : decode cX0_isIndirect 11 = .ok (.iconst 1, 1) := by decide +kernel
theorem dX0_isIndirect_12 : decode cX0_isIndirect 12 = .ok (.goto 4, 3) := by decide +kernel
theorem dX0_isIndirect_15 : decode cX0_isIndirect 15 = .ok (.iconst 0, 1) := by decide +kernel
theorem dX0_isIndirect_16 : decode cX0_isIndirect 16 = .ok (.ireturn, 1) := by decide +kernel
set_option maxRecDepth 20000 in
theorem ggX0_perform_X0_combine : GoodIn wsX0_perform wsX0_combine := goodIn_r _ [5, 6, 7, 8, 4, 9, 10, 11, 12, 13, 14, 15, 16, 17, 18, 19, 20, 21, 22, 23, 24, 25, 26, 27, 28, 29, 30, 31, 32, 33, 34, 35, 36, 37, 38, 39, 104, 105, 106, 107, 108] (by decide +kernel) (by decide +kernel)
set_option maxRecDepth 20000 in
theorem gX0_perform_X0_combine : GoodIn wsX0_perform (wsV RX0 61 RX0 yX0_combine wsX0_combine) := goodIn_app (goodIn_of _ (by decide +kernel)) ggX0_perform_X0_combine
set_option maxRecDepth 20000 in
theorem ggX0_perform_X0_divide : GoodIn wsX0_perform wsX0_divide := goodIn_r _ [43, 6, 28, 44, 29, 30, 4, 31, 35, 36, 37, 38, 39, 104, 105, 106, 107, 108] (by decide +kernel) (by decide +kernel)
set_option maxRecDepth 20000 in
theorem gX0_perform_X0_divide : GoodIn wsX0_perform (wsV RX0 65 RX0 yX0_divide wsX0_divide) := goodIn_app (goodIn_of _ (by decide +kernel)) ggX0_perform_X0_divide
set_option maxRecDepth 20000 in
theorem ggX0_perform_X0_jump : GoodIn wsX0_perform wsX0_jump := goodIn_r _ [48, 49, 104, 105, 106, 107, 108] (by decide +kernel) (by decide +kernel)
set_option maxRecDepth 20000 in
theorem gX0_perform_X0_jump : GoodIn wsX0_perform (wsV RX0 69 RX0 yX0_jump wsX0_jump) := goodIn_app (goodIn_of _ (by decide +kernel)) ggX0_perform_X0_jump
set_option maxRecDepth 20000 in
theorem ggX0_perform_X0_pushNextPlace : GoodIn wsX0_perform wsX0_pushNextPlace := goodIn_r _ [53, 49, 54, 55, 56, 4, 57, 6, 17, 14, 15, 16, 58, 59, 60, 61, 13, 35, 36, 37, 38, 39, 45, 46, 47, 48, 104, 105, 106, 107, 108] (by decide +kernel) (by decide +kernel)
set_option maxRecDepth 20000 in
theorem gX0_perform_X0_pushNextPlace : GoodIn wsX0_perform (wsV RX0 73 RX0 yX0_pushNextPlace wsX0_pushNextPlace) := goodIn_app (goodIn_of _ (by decide +kernel)) ggX0_perform_X0_pushNextPlace
set_option maxRecDepth 20000 in
theorem ggX0_perform_X0_popToPc : GoodIn wsX0_perform wsX0_popToPc := goodIn_r _ [65, 6, 14, 15, 4, 16, 17, 45, 46, 47, 48, 49, 58, 59, 60, 61, 13, 35, 36, 37, 38, 39, 104, 105, 106, 107, 108] (by decide +kernel) (by decide +kernel)
set_option maxRecDepth 20000 in
theorem gX0_perform_X0_popToPc : GoodIn wsX0_perform (wsV RX0 77 RX0 yX0_popToPc wsX0_popToPc) := goodIn_app (goodIn_of _ (by decide +kernel)) ggX0_perform_X0_popToPc
set_option maxRecDepth 20000 in
theorem ggX0_perform_X0_performOnMemory : GoodIn wsX0_perform wsX0_performOnMemory := goodIn_r _ [69, 6, 35, 36, 37, 4, 38, 39, 40, 41, 42, 43, 28, 44, 29, 30, 31, 70, 71, 72, 73, 54, 55, 56, 57, 17, 14, 15, 16, 58, 59, 60, 61, 13, 74, 75, 76, 77, 78, 79, 80, 81, 49, 45, 46, 47, 48, 1, 2, 3, 5, 7, 8, 9, 10, 11, 12, 18, 19, 20, 21, 22, 23, 24, 25, 26, 27, 32, 33, 34, 104, 105, 106, 107, 108] (by decide +kernel) (by decide +kernel)
set_option maxRecDepth 20000 in
theorem gX0_perform_X0_performOnMemory : GoodIn wsX0_perform (wsV RX0 80 RX0 yX0_performOnMemory wsX0_performOnMemory) := goodIn_app (goodIn_of _ (by decide +kernel)) ggX0_perform_X0_performOnMemory
set_option maxRecDepth 20000 in
theorem ggX0_perform_X0_isTest : GoodIn wsX0_perform wsX0_isTest := goodIn_r _ [84] (by decide +kernel) (by decide +kernel)
set_option maxRecDepth 20000 in
theorem gX0_perform_X0_isTest : GoodIn wsX0_perform (va_wsS RX0 83 yX0_isTest wsX0_isTest) := goodIn_app (goodIn_of _ (by decide +kernel)) ggX0_perform_X0_isTest
set_option maxRecDepth 20000 in
theorem ggX0_perform_X0_test : GoodIn wsX0_perform wsX0_test := goodIn_r _ [88, 6, 89, 90, 4, 91, 29, 30, 31, 92, 93, 94, 95, 49, 45, 46, 47, 48, 96, 97, 98, 99, 35, 36, 37, 38, 39, 100, 101, 102, 103, 104, 105, 106, 107, 108] (by decide +kernel) (by decide +kernel)
set_option maxRecDepth 20000 in
theorem gX0_perform_X0_test : GoodIn wsX0_perform (wsV RX0 87 RX0 yX0_test wsX0_test) := goodIn_app (goodIn_of _ (by decide +kernel)) ggX0_perform_X0_test
theorem dX0_perform_0 : decode cX0_perform 0 = .ok (.iload_n 1, 1) := by decide +kernel
theorem dX0_perform_1 : decode cX0_perform 1 = .ok (.lookupswitch 372 #[(0, 315), (128, 353), (129, 317), (130, 353), (132, 353), (136, 353), (140, 353), (144, 353), (145, 317), (152, 353), (153, 326), (162, 317), (168, 353), (172, 334), (176, 340), (177, 353), (178, 353), (179, 347), (180, 353), (184, 353), (185, 317), (188, 353), (189, 317), (256, 317), (258, 353), (260, 353), (261, 317), (280, 353), (281, 317), (284, 353), (285, 317), (296, 317), (320, 353), (324, 353), (352, 353), (356, 353), (360, 353), (364, 353)], 315) := by decide +kernel
theorem dX0_perform_316 : decode cX0_perform 316 = .ok (.iconst (-1), 1) := by decide +kernel
theorem dX0_perform_317 : decode cX0_perform 317 = .ok (.ireturn, 1) := by decide +kernel
theorem dX0_perform_318 : decode cX0_perform 318 = .ok (.aload_n 0, 1) := by decide +kernel
theorem dX0_perform_319 : decode cX0_perform 319 = .ok (.iload_n 1, 1) := by decide +kernel
theorem dX0_perform_320 : decode cX0_perform 320 = .ok (.iload_n 2, 1) := by decide +kernel
theorem dX0_perform_321 : decode cX0_perform 321 = .ok (.iload_n 3, 1) := by decide +kernel
theorem dX0_perform_322 : decode cX0_perform 322 = .ok (.i2l, 1) := by decide +kernel
theorem dX0_perform_323 : decode cX0_perform 323 = .ok (.invokevirtual 61, 3) := by decide +kernel
theorem dX0_perform_326 : decode cX0_perform 326 = .ok (.ireturn, 1) := by decide +kernel
theorem dX0_perform_327 : decode cX0_perform 327 = .ok (.aload_n 0, 1) := by decide +kernel
theorem dX0_perform_328 : decode cX0_perform 328 = .ok (.iload_n 2, 1) := by decide +kernel
theorem dX0_perform_329 : decode cX0_perform 329 = .ok (.iload_n 3, 1) := by decide +kernel
theorem dX0_perform_330 : decode cX0_perform 330 = .ok (.i2l, 1) := by decide +kernel
theorem dX0_perform_331 : decode cX0_perform 331 = .ok (.invokevirtual 65, 3) := by decide +kernel
theorem dX0_perform_334 : decode cX0_perform 334 = .ok (.ireturn, 1) := by decide +kernel
theorem dX0_perform_335 : decode cX0_perform 335 = .ok (.aload_n 0, 1) := by decide +kernel
theorem dX0_perform_336 : decode cX0_perform 336 = .ok (.iload_n 3, 1) := by decide +kernel
theorem dX0_perform_337 : decode cX0_perform 337 = .ok (.invokevirtual 69, 3) := by decide +kernel
theorem dX0_perform_340 : decode cX0_perform 340 = .ok (.ireturn, 1) := by decide +kernel
theorem dX0_perform_341 : decode cX0_perform 341 = .ok (.aload_n 0, 1) := by decide +kernel
theorem dX0_perform_342 : decode cX0_perform 342 = .ok (.iload_n 2, 1) := by decide +kernel
theorem dX0_perform_343 : decode cX0_perform 343 = .ok (.iload_n 3, 1) := by decide +kernel
theorem dX0_perform_344 : decode cX0_perform 344 = .ok (.invokevirtual 73, 3) := by decide +kernel
theorem dX0_perform_347 : decode cX0_perform 347 = .ok (.ireturn, 1) := by decide +kernel
theorem dX0_perform_348 : decode cX0_perform 348 = .ok (.aload_n 0, 1) := by decide +kernel
theorem dX0_perform_349 : decode cX0_perform 349 = .ok (.iload_n 2, 1) := by decide +kernel
theorem dX0_perform_350 : decode cX0_perform 350 = .ok (.invokevirtual 77, 3) := by decide +kernel
theorem dX0_perform_353 : decode cX0_perform 353 = .ok (.ireturn, 1) := by decide +kernel
theorem dX0_perform_354 : decode cX0_perform 354 = .ok (.iload_n 3, 1) := by decide +kernel
theorem dX0_perform_355 : decode cX0_perform 355 = .ok (.sipush 4096, 3) := by decide +kernel
theorem dX0_perform_358 : decode cX0_perform 358 = .ok (.if_icmp .lt 7, 3) := by decide +kernel
theorem dX0_perform_361 : decode cX0_perform 361 = .ok (.iconst 2, 1) := by decide +kernel
theorem dX0_perform_362 : decode cX0_perform 362 = .ok (.goto 10, 3) := by decide +kernel
theorem dX0_perform_365 : decode cX0_perform 365 = .ok (.aload_n 0, 1) := by decide +kernel
theorem dX0_perform_366 : decode cX0_perform 366 = .ok (.iload_n 1, 1) := by decide +kernel
theorem dX0_perform_367 : decode cX0_perform 367 = .ok (.iload_n 2, 1) := by decide +kernel
theorem dX0_perform_368 : decode cX0_perform 368 = .ok (.iload_n 3, 1) := by decide +kernel
theorem dX0_perform_369 : decode cX0_perform 369 = .ok (.invokevirtual 80, 3) := by decide +kernel
theorem dX0_perform_372 : decode cX0_perform 372 = .ok (.ireturn, 1) := by decide +kernel
theorem dX0_perform_373 : decode cX0_perform 373 = .ok (.iload_n 1, 1) := by decide +kernel
theorem dX0_perform_374 : decode cX0_perform 374 = .ok (.invokestatic 83, 3) := by decide +kernel
theorem dX0_perform_377 : decode cX0_perform 377 = .ok (.ifCond .eq 13, 3) := by decide +kernel
theorem dX0_perform_380 : decode cX0_perform 380 = .ok (.aload_n 0, 1) := by decide +kernel
theorem dX0_perform_381 : decode cX0_perform 381 = .ok (.iload_n 1, 1) := by decide +kernel
theorem dX0_perform_382 : decode cX0_perform 382 = .ok (.iload_n 2, 1) := by decide +kernel
theorem dX0_perform_383 : decode cX0_perform 383 = .ok (.iload_n 3, 1) := by decide +kernel
theorem dX0_perform_384 : decode cX0_perform 384 = .ok (.invokevirtual 87, 3) := by decide +kernel
theorem dX0_perform_387 : decode cX0_perform 387 = .ok (.goto 4, 3) := by decide +kernel
theorem dX0_perform_390 : decode cX0_perform 390 = .ok (.iconst 1, 1) := by decide +kernel
theorem dX0_perform_391 : decode cX0_perform 391 = .ok (.ireturn, 1) := by decide +kernel
set_option maxRecDepth 20000 in
theorem ggX0_performOnMemory_X0_store : GoodIn wsX0_performOnMemory wsX0_store := goodIn_r _ [6, 1, 7, 70, 71, 72, 73, 74] (by decide +kernel) (by decide +kernel)
set_option maxRecDepth 20000 in
theorem gX0_performOnMemory_X0_store : GoodIn wsX0_performOnMemory (wsV RX0 30 RX0 yX0_store wsX0_store) := goodIn_app (goodIn_of _ (by decide +kernel)) ggX0_performOnMemory_X0_store
set_option maxRecDepth 20000 in
theorem ggX0_performOnMemory_X0_divide : GoodIn wsX0_performOnMemory wsX0_divide := goodIn_r _ [11, 1, 12, 13, 14, 15, 5, 16, 2, 3, 4, 6, 7, 70, 71, 72, 73, 74] (by decide +kernel) (by decide +kernel)
set_option maxRecDepth 20000 in
theorem gX0_performOnMemory_X0_divide : GoodIn wsX0_performOnMemory (wsV RX0 65 RX0 yX0_divide wsX0_divide) := goodIn_app (goodIn_of _ (by decide +kernel)) ggX0_performOnMemory_X0_divide
set_option maxRecDepth 20000 in
theorem ggX0_performOnMemory_X0_exchange : GoodIn wsX0_performOnMemory wsX0_exchange := goodIn_r _ [20, 1, 2, 3, 4, 5, 6, 7, 70, 71, 72, 73, 74] (by decide +kernel) (by decide +kernel)
set_option maxRecDepth 20000 in
theorem gX0_performOnMemory_X0_exchange : GoodIn wsX0_performOnMemory (wsV RX0 90 RX0 yX0_exchange wsX0_exchange) := goodIn_app (goodIn_of _ (by decide +kernel)) ggX0_performOnMemory_X0_exchange
set_option maxRecDepth 20000 in
theorem ggX0_performOnMemory_X0_push : GoodIn wsX0_performOnMemory wsX0_push := goodIn_r _ [24, 1, 25, 26, 27, 5, 28, 29, 30, 31, 32, 33, 2, 3, 4, 6, 7, 70, 71, 72, 73, 74] (by decide +kernel) (by decide +kernel)
set_option maxRecDepth 20000 in
theorem gX0_performOnMemory_X0_push : GoodIn wsX0_performOnMemory (wsV RX0 93 RX0 yX0_push wsX0_push) := goodIn_app (goodIn_of _ (by decide +kernel)) ggX0_performOnMemory_X0_push
set_option maxRecDepth 20000 in
theorem ggX0_performOnMemory_X0_popToMemory : GoodIn wsX0_performOnMemory wsX0_popToMemory := goodIn_r _ [37, 1, 26, 27, 5, 28, 25, 2, 3, 4, 6, 7, 29, 30, 31, 32, 33, 70, 71, 72, 73, 74] (by decide +kernel) (by decide +kernel)
set_option maxRecDepth 20000 in
theorem gX0_performOnMemory_X0_popToMemory : GoodIn wsX0_performOnMemory (wsV RX0 96 RX0 yX0_popToMemory wsX0_popToMemory) := goodIn_app (goodIn_of _ (by decide +kernel)) ggX0_performOnMemory_X0_popToMemory
set_option maxRecDepth 20000 in
theorem ggX0_performOnMemory_X0_leaveNextPlaceAndJump : GoodIn wsX0_performOnMemory wsX0_leaveNextPlaceAndJump := goodIn_r _ [41, 42, 2, 3, 4, 5, 6, 1, 7, 43, 44, 45, 46, 70, 71, 72, 73, 74] (by decide +kernel) (by decide +kernel)
set_option maxRecDepth 20000 in
theorem gX0_performOnMemory_X0_leaveNextPlaceAndJump : GoodIn wsX0_performOnMemory (wsV RX0 99 RX0 yX0_leaveNextPlaceAndJump wsX0_leaveNextPlaceAndJump) := goodIn_app (goodIn_of _ (by decide +kernel)) ggX0_performOnMemory_X0_leaveNextPlaceAndJump
set_option maxRecDepth 20000 in
theorem ggX0_performOnMemory_X0_combine : GoodIn wsX0_performOnMemory wsX0_combine := goodIn_r _ [50, 1, 51, 52, 5, 53, 54, 55, 56, 33, 26, 27, 28, 25, 57, 58, 59, 60, 61, 62, 63, 64, 65, 66, 12, 14, 15, 16, 67, 68, 69, 2, 3, 4, 6, 7, 70, 71, 72, 73, 74] (by decide +kernel) (by decide +kernel)
set_option maxRecDepth 20000 in
theorem gX0_performOnMemory_X0_combine : GoodIn wsX0_performOnMemory (wsV RX0 61 RX0 yX0_combine wsX0_combine) := goodIn_app (goodIn_of _ (by decide +kernel)) ggX0_performOnMemory_X0_combine
theorem dX0_performOnMemory_0 : decode cX0_performOnMemory 0 = .ok (.iload_n 1, 1) := by decide +kernel
theorem dX0_performOnMemory_1 : decode cX0_performOnMemory 1 = .ok (.lookupswitch 132 #[(130, 67), (152, 80), (168, 92), (177, 99), (178, 111), (180, 118), (258, 124)], 67) := by decide +kernel
theorem dX0_performOnMemory_68 : decode cX0_performOnMemory 68 = .ok (.aload_n 0, 1) := by decide +kernel
theorem dX0_performOnMemory_69 : decode cX0_performOnMemory 69 = .ok (.iload_n 3, 1) := by decide +kernel
theorem dX0_performOnMemory_70 : decode cX0_performOnMemory 70 = .ok (.aload_n 0, 1) := by decide +kernel
theorem dX0_performOnMemory_71 : decode cX0_performOnMemory 71 = .ok (.getfield 9, 3) := by decide +kernel
theorem dX0_performOnMemory_74 : decode cX0_performOnMemory 74 = .ok (.iload_n 2, 1) := by decide +kernel
theorem dX0_performOnMemory_75 : decode cX0_performOnMemory 75 = .ok (.laload, 1) := by decide +kernel
theorem dX0_performOnMemory_76 : decode cX0_performOnMemory 76 = .ok (.invokevirtual 30, 3) := by decide +kernel
theorem dX0_performOnMemory_79 : decode cX0_performOnMemory 79 = .ok (.iconst 0, 1) := by decide +kernel
theorem dX0_performOnMemory_80 : decode cX0_performOnMemory 80 = .ok (.ireturn, 1) := by decide +kernel
theorem dX0_performOnMemory_81 : decode cX0_performOnMemory 81 = .ok (.aload_n 0, 1) := by decide +kernel
theorem dX0_performOnMemory_82 : decode cX0_performOnMemory 82 = .ok (.iload_n 2, 1) := by decide +kernel
theorem dX0_performOnMemory_83 : decode cX0_performOnMemory 83 = .ok (.aload_n 0, 1) := by decide +kernel
theorem dX0_performOnMemory_84 : decode cX0_performOnMemory 84 = .ok (.getfield 9, 3) := by decide +kernel
theorem dX0_performOnMemory_87 : decode cX0_performOnMemory 87 = .ok (.iload_n 3, 1) := by decide +kernel
theorem dX0_performOnMemory_88 : decode cX0_performOnMemory 88 = .ok (.laload, 1) := by decide +kernel
theorem dX0_performOnMemory_89 : decode cX0_performOnMemory 89 = .ok (.invokevirtual 65, 3) := by decide +kernel
theorem dX0_performOnMemory_92 : decode cX0_performOnMemory 92 = .ok (.ireturn, 1) := by decide +kernel
theorem dX0_performOnMemory_93 : decode cX0_performOnMemory 93 = .ok (.aload_n 0, 1) := by decide +kernel
theorem dX0_performOnMemory_94 : decode cX0_performOnMemory 94 = .ok (.iload_n 2, 1) := by decide +kernel
theorem dX0_performOnMemory_95 : decode cX0_performOnMemory 95 = .ok (.iload_n 3, 1) := by decide +kernel
theorem dX0_performOnMemory_96 : decode cX0_performOnMemory 96 = .ok (.invokevirtual 90, 3) := by decide +kernel
theorem dX0_performOnMemory_99 : decode cX0_performOnMemory 99 = .ok (.ireturn, 1) := by decide +kernel
theorem dX0_performOnMemory_100 : decode cX0_performOnMemory 100 = .ok (.aload_n 0, 1) := by decide +kernel
theorem dX0_performOnMemory_101 : decode cX0_performOnMemory 101 = .ok (.iload_n 2, 1) := by decide +kernel
theorem dX0_performOnMemory_102 : decode cX0_performOnMemory 102 = .ok (.aload_n 0, 1) := by decide +kernel
theorem dX0_performOnMemory_103 : decode cX0_performOnMemory 103 = .ok (.getfield 9, 3) := by decide +kernel
theorem dX0_performOnMemory_106 : decode cX0_performOnMemory 106 = .ok (.iload_n 3, 1) := by decide +kernel
theorem dX0_performOnMemory_107 : decode cX0_performOnMemory 107 = .ok (.laload, 1) := by decide +kernel
theorem dX0_performOnMemory_108 : decode cX0_performOnMemory 108 = .ok (.invokevirtual 93, 3) := by decide +kernel
theorem dX0_performOnMemory_111 : decode cX0_performOnMemory 111 = .ok (.ireturn, 1) := by decide +kernel
theorem dX0_performOnMemory_112 : decode cX0_performOnMemory 112 = .ok (.aload_n 0, 1) := by decide +kernel
theorem dX0_performOnMemory_113 : decode cX0_performOnMemory 113 = .ok (.iload_n 2, 1) := by decide +kernel
theorem dX0_performOnMemory_114 : decode cX0_performOnMemory 114 = .ok (.iload_n 3, 1) := by decide +kernel
theorem dX0_performOnMemory_115 : decode cX0_performOnMemory 115 = .ok (.invokevirtual 96, 3) := by decide +kernel
theorem dX0_performOnMemory_118 : decode cX0_performOnMemory 118 = .ok (.ireturn, 1) := by decide +kernel
theorem dX0_performOnMemory_119 : decode cX0_performOnMemory 119 = .ok (.aload_n 0, 1) := by decide +kernel
theorem dX0_performOnMemory_120 : decode cX0_performOnMemory 120 = .ok (.iload_n 3, 1) := by decide +kernel
theorem dX0_performOnMemory_121 : decode cX0_performOnMemory 121 = .ok (.invokevirtual 99, 3) := by decide +kernel
theorem dX0_performOnMemory_124 : decode cX0_performOnMemory 124 = .ok (.ireturn, 1) := by decide +kernel
theorem dX0_performOnMemory_125 : decode cX0_performOnMemory 125 = .ok (.aload_n 0, 1) := by decide +kernel
theorem dX0_performOnMemory_126 : decode cX0_performOnMemory 126 = .ok (.iload_n 3, 1) := by decide +kernel
theorem dX0_performOnMemory_127 : decode cX0_performOnMemory 127 = .ok (.lconst 0, 1) := by decide +kernel
theorem dX0_performOnMemory_128 : decode cX0_performOnMemory 128 = .ok (.invokevirtual 30, 3) := by decide +kernel
theorem dX0_performOnMemory_131 : decode cX0_performOnMemory 131 = .ok (.iconst 0, 1) := by decide +kernel
theorem dX0_performOnMemory_132 : decode cX0_performOnMemory 132 = .ok (.ireturn, 1) := by decide +kernel
theorem dX0_performOnMemory_133 : decode cX0_performOnMemory 133 = .ok (.aload_n 0, 1) := by decide +kernel
theorem dX0_performOnMemory_134 : decode cX0_performOnMemory 134 = .ok (.iload_n 1, 1) := by decide +kernel
theorem dX0_performOnMemory_135 : decode cX0_performOnMemory 135 = .ok (.iload_n 2, 1) := by decide +kernel
theorem dX0_performOnMemory_136 : decode cX0_performOnMemory 136 = .ok (.aload_n 0, 1) := by decide +kernel
theorem dX0_performOnMemory_137 : decode cX0_performOnMemory 137 = .ok (.getfield 9, 3) := by decide +kernel
theorem dX0_performOnMemory_140 : decode cX0_performOnMemory 140 = .ok (.iload_n 3, 1) := by decide +kernel
theorem dX0_performOnMemory_141 : decode cX0_performOnMemory 141 = .ok (.laload, 1) := by decide +kernel
theorem dX0_performOnMemory_142 : decode cX0_performOnMemory 142 = .ok (.invokevirtual 61, 3) := by decide +kernel
theorem dX0_performOnMemory_145 : decode cX0_performOnMemory 145 = .ok (.ireturn, 1) := by decide +kernel
set_option maxRecDepth 20000 in
theorem ggX0_combine_X0_isOfHalves : GoodIn wsX0_combine wsX0_isOfHalves := goodIn_r _ [5] (by decide +kernel) (by decide +kernel)
set_option maxRecDepth 20000 in
theorem gX0_combine_X0_isOfHalves : GoodIn wsX0_combine (va_wsS RX0 102 yX0_isOfHalves wsX0_isOfHalves) := goodIn_app (goodIn_of _ (by decide +kernel)) ggX0_combine_X0_isOfHalves
set_option maxRecDepth 20000 in
theorem ggX0_combine_X0_ofHalves : GoodIn wsX0_combine wsX0_ofHalves := goodIn_r _ [8, 9, 10, 11, 4, 12, 13, 14, 15, 16] (by decide +kernel) (by decide +kernel)
set_option maxRecDepth 20000 in
theorem gX0_combine_X0_ofHalves : GoodIn wsX0_combine (va_wsS RX0 105 yX0_ofHalves wsX0_ofHalves) := goodIn_app (goodIn_of _ (by decide +kernel)) ggX0_combine_X0_ofHalves
set_option maxRecDepth 20000 in
theorem ggX0_combine_X0_ofWords : GoodIn wsX0_combine wsX0_ofWords := goodIn_r _ [19, 20, 21, 22, 23, 24, 14, 15, 4, 16, 13, 25, 26, 27, 28, 29, 30] (by decide +kernel) (by decide +kernel)
set_option maxRecDepth 20000 in
theorem gX0_combine_X0_ofWords : GoodIn wsX0_combine (va_wsS RX0 109 yX0_ofWords wsX0_ofWords) := goodIn_app (goodIn_of _ (by decide +kernel)) ggX0_combine_X0_ofWords
set_option maxRecDepth 20000 in
theorem ggX0_combine_X0_store : GoodIn wsX0_combine wsX0_store := goodIn_r _ [34, 1, 35, 36, 37, 38, 39, 40] (by decide +kernel) (by decide +kernel)
set_option maxRecDepth 20000 in
theorem gX0_combine_X0_store : GoodIn wsX0_combine (wsV RX0 30 RX0 yX0_store wsX0_store) := goodIn_app (goodIn_of _ (by decide +kernel)) ggX0_combine_X0_store
theorem dX0_combine_0 : decode cX0_combine 0 = .ok (.aload_n 0, 1) := by decide +kernel
theorem dX0_combine_1 : decode cX0_combine 1 = .ok (.getfield 9, 3) := by decide +kernel
theorem dX0_combine_4 : decode cX0_combine 4 = .ok (.iload_n 2, 1) := by decide +kernel
theorem dX0_combine_5 : decode cX0_combine 5 = .ok (.laload, 1) := by decide +kernel
theorem dX0_combine_6 : decode cX0_combine 6 = .ok (.lstore 5, 2) := by decide +kernel
theorem dX0_combine_8 : decode cX0_combine 8 = .ok (.aload_n 0, 1) := by decide +kernel
theorem dX0_combine_9 : decode cX0_combine 9 = .ok (.iload_n 2, 1) := by decide +kernel
theorem dX0_combine_10 : decode cX0_combine 10 = .ok (.iload_n 1, 1) := by decide +kernel
theorem dX0_combine_11 : decode cX0_combine 11 = .ok (.invokestatic 102, 3) := by decide +kernel
theorem dX0_combine_14 : decode cX0_combine 14 = .ok (.ifCond .eq 13, 3) := by decide +kernel
theorem dX0_combine_17 : decode cX0_combine 17 = .ok (.iload_n 1, 1) := by decide +kernel
theorem dX0_combine_18 : decode cX0_combine 18 = .ok (.lload 5, 2) := by decide +kernel
theorem dX0_combine_20 : decode cX0_combine 20 = .ok (.lload_n 3, 1) := by decide +kernel
theorem dX0_combine_21 : decode cX0_combine 21 = .ok (.invokestatic 105, 3) := by decide +kernel
theorem dX0_combine_24 : decode cX0_combine 24 = .ok (.goto 10, 3) := by decide +kernel
theorem dX0_combine_27 : decode cX0_combine 27 = .ok (.iload_n 1, 1) := by decide +kernel
theorem dX0_combine_28 : decode cX0_combine 28 = .ok (.lload 5, 2) := by decide +kernel
theorem dX0_combine_30 : decode cX0_combine 30 = .ok (.lload_n 3, 1) := by decide +kernel
theorem dX0_combine_31 : decode cX0_combine 31 = .ok (.invokestatic 109, 3) := by decide +kernel
theorem dX0_combine_34 : decode cX0_combine 34 = .ok (.invokevirtual 30, 3) := by decide +kernel
theorem dX0_combine_37 : decode cX0_combine 37 = .ok (.iconst 0, 1) := by decide +kernel
theorem dX0_combine_38 : decode cX0_combine 38 = .ok (.ireturn, 1) := by decide +kernel
theorem dX0_isOfHalves_0 : decode cX0_isOfHalves 0 = .ok (.iload_n 0, 1) := by decide +kernel
theorem dX0_isOfHalves_1 : decode cX0_isOfHalves 1 = .ok (.sipush 320, 3) := by decide +kernel
theorem dX0_isOfHalves_4 : decode cX0_isOfHalves 4 = .ok (.if_icmp .lt 7, 3) := by decide +kernel
theorem dX0_isOfHalves_7 : decode cX0_isOfHalves 7 = .ok (.iconst 1, 1) := by decide +kernel
theorem dX0_isOfHalves_8 : decode cX0_isOfHalves 8 = .ok (.goto 4, 3) := by decide +kernel
theorem dX0_isOfHalves_11 : decode cX0_isOfHalves 11 = .ok (.iconst 0, 1) := by decide +kernel
theorem dX0_isOfHalves_12 : decode cX0_isOfHalves 12 = .ok (.ireturn, 1) := by decide +kernel
set_option maxRecDepth 20000 in
theorem ggX0_ofWords_X0_leftHalf : GoodIn wsX0_ofWords wsX0_leftHalf := goodIn_r _ [9, 10] (by decide +kernel) (by decide +kernel)
set_option maxRecDepth 20000 in
theorem gX0_ofWords_X0_leftHalf : GoodIn wsX0_ofWords (va_wsS RX0 112 yX0_leftHalf wsX0_leftHalf) := goodIn_app (goodIn_of _ (by decide +kernel)) ggX0_ofWords_X0_leftHalf
set_option maxRecDepth 20000 in
theorem ggX0_ofWords_X0_number : GoodIn wsX0_ofWords wsX0_number := goodIn_r _ [13] (by decide +kernel) (by decide +kernel)
set_option maxRecDepth 20000 in
theorem gX0_ofWords_X0_number : GoodIn wsX0_ofWords (va_wsS RX0 115 yX0_number wsX0_number) := goodIn_app (goodIn_of _ (by decide +kernel)) ggX0_ofWords_X0_number
set_option maxRecDepth 20000 in
theorem ggX0_ofWords_X0_shifted : GoodIn wsX0_ofWords wsX0_shifted := goodIn_r _ [16] (by decide +kernel) (by decide +kernel)
set_option maxRecDepth 20000 in
theorem gX0_ofWords_X0_shifted : GoodIn wsX0_ofWords (va_wsS RX0 124 yX0_shifted wsX0_shifted) := goodIn_app (goodIn_of _ (by decide +kernel)) ggX0_ofWords_X0_shifted
theorem dX0_ofWords_0 : decode cX0_ofWords 0 = .ok (.iload_n 0, 1) := by decide +kernel
theorem dX0_ofWords_1 : decode cX0_ofWords 1 = .ok (.lookupswitch 216 #[(132, 155), (136, 166), (140, 169), (144, 177), (145, 177), (162, 181), (184, 188), (185, 188), (188, 192), (189, 192), (256, 196), (260, 198), (261, 198), (280, 202), (281, 202), (284, 206), (285, 206), (296, 210)], 155) := by decide +kernel
theorem dX0_ofWords_156 : decode cX0_ofWords 156 = .ok (.lload_n 3, 1) := by decide +kernel
theorem dX0_ofWords_157 : decode cX0_ofWords 157 = .ok (.bipush 18, 2) := by decide +kernel
theorem dX0_ofWords_159 : decode cX0_ofWords 159 = .ok (.lshl, 1) := by decide +kernel
theorem dX0_ofWords_160 : decode cX0_ofWords 160 = .ok (.lload_n 3, 1) := by decide +kernel
theorem dX0_ofWords_161 : decode cX0_ofWords 161 = .ok (.invokestatic 112, 3) := by decide +kernel
theorem dX0_ofWords_164 : decode cX0_ofWords 164 = .ok (.i2l, 1) := by decide +kernel
theorem dX0_ofWords_165 : decode cX0_ofWords 165 = .ok (.lor, 1) := by decide +kernel
theorem dX0_ofWords_166 : decode cX0_ofWords 166 = .ok (.lreturn, 1) := by decide +kernel
theorem dX0_ofWords_167 : decode cX0_ofWords 167 = .ok (.lload_n 3, 1) := by decide +kernel
theorem dX0_ofWords_168 : decode cX0_ofWords 168 = .ok (.lneg, 1) := by decide +kernel
theorem dX0_ofWords_169 : decode cX0_ofWords 169 = .ok (.lreturn, 1) := by decide +kernel
theorem dX0_ofWords_170 : decode cX0_ofWords 170 = .ok (.lload_n 3, 1) := by decide +kernel
theorem dX0_ofWords_171 : decode cX0_ofWords 171 = .ok (.invokestatic 115, 3) := by decide +kernel
theorem dX0_ofWords_174 : decode cX0_ofWords 174 = .ok (.invokestatic 119, 3) := by decide +kernel
theorem dX0_ofWords_177 : decode cX0_ofWords 177 = .ok (.lreturn, 1) := by decide +kernel
theorem dX0_ofWords_178 : decode cX0_ofWords 178 = .ok (.lload_n 1, 1) := by decide +kernel
theorem dX0_ofWords_179 : decode cX0_ofWords 179 = .ok (.lload_n 3, 1) := by decide +kernel
theorem dX0_ofWords_180 : decode cX0_ofWords 180 = .ok (.lmul, 1) := by decide +kernel
theorem dX0_ofWords_181 : decode cX0_ofWords 181 = .ok (.lreturn, 1) := by decide +kernel
theorem dX0_ofWords_182 : decode cX0_ofWords 182 = .ok (.lload_n 1, 1) := by decide +kernel
theorem dX0_ofWords_183 : decode cX0_ofWords 183 = .ok (.lload_n 3, 1) := by decide +kernel
theorem dX0_ofWords_184 : decode cX0_ofWords 184 = .ok (.l2i, 1) := by decide +kernel
theorem dX0_ofWords_185 : decode cX0_ofWords 185 = .ok (.invokestatic 124, 3) := by decide +kernel
theorem dX0_ofWords_188 : decode cX0_ofWords 188 = .ok (.lreturn, 1) := by decide +kernel
theorem dX0_ofWords_189 : decode cX0_ofWords 189 = .ok (.lload_n 1, 1) := by decide +kernel
theorem dX0_ofWords_190 : decode cX0_ofWords 190 = .ok (.lload_n 3, 1) := by decide +kernel
theorem dX0_ofWords_191 : decode cX0_ofWords 191 = .ok (.ladd, 1) := by decide +kernel
theorem dX0_ofWords_192 : decode cX0_ofWords 192 = .ok (.lreturn, 1) := by decide +kernel
theorem dX0_ofWords_193 : decode cX0_ofWords 193 = .ok (.lload_n 1, 1) := by decide +kernel
theorem dX0_ofWords_194 : decode cX0_ofWords 194 = .ok (.lload_n 3, 1) := by decide +kernel
theorem dX0_ofWords_195 : decode cX0_ofWords 195 = .ok (.lsub, 1) := by decide +kernel
theorem dX0_ofWords_196 : decode cX0_ofWords 196 = .ok (.lreturn, 1) := by decide +kernel
theorem dX0_ofWords_197 : decode cX0_ofWords 197 = .ok (.lconst 0, 1) := by decide +kernel
theorem dX0_ofWords_198 : decode cX0_ofWords 198 = .ok (.lreturn, 1) := by decide +kernel
theorem dX0_ofWords_199 : decode cX0_ofWords 199 = .ok (.lload_n 1, 1) := by decide +kernel
theorem dX0_ofWords_200 : decode cX0_ofWords 200 = .ok (.lload_n 3, 1) := by decide +kernel
theorem dX0_ofWords_201 : decode cX0_ofWords 201 = .ok (.land, 1) := by decide +kernel
theorem dX0_ofWords_202 : decode cX0_ofWords 202 = .ok (.lreturn, 1) := by decide +kernel
theorem dX0_ofWords_203 : decode cX0_ofWords 203 = .ok (.lload_n 1, 1) := by decide +kernel
theorem dX0_ofWords_204 : decode cX0_ofWords 204 = .ok (.lload_n 3, 1) := by decide +kernel
theorem dX0_ofWords_205 : decode cX0_ofWords 205 = .ok (.lxor, 1) := by decide +kernel
theorem dX0_ofWords_206 : decode cX0_ofWords 206 = .ok (.lreturn, 1) := by decide +kernel
theorem dX0_ofWords_207 : decode cX0_ofWords 207 = .ok (.lload_n 1, 1) := by decide +kernel
theorem dX0_ofWords_208 : decode cX0_ofWords 208 = .ok (.lload_n 3, 1) := by decide +kernel
theorem dX0_ofWords_209 : decode cX0_ofWords 209 = .ok (.lor, 1) := by decide +kernel
theorem dX0_ofWords_210 : decode cX0_ofWords 210 = .ok (.lreturn, 1) := by decide +kernel
theorem dX0_ofWords_211 : decode cX0_ofWords 211 = .ok (.lload_n 1, 1) := by decide +kernel
theorem dX0_ofWords_212 : decode cX0_ofWords 212 = .ok (.ldc2_w 128, 3) := by decide +kernel
theorem dX0_ofWords_215 : decode cX0_ofWords 215 = .ok (.lxor, 1) := by decide +kernel
theorem dX0_ofWords_216 : decode cX0_ofWords 216 = .ok (.lreturn, 1) := by decide +kernel
theorem dX0_ofWords_217 : decode cX0_ofWords 217 = .ok (.lload_n 3, 1) := by decide +kernel
theorem dX0_ofWords_218 : decode cX0_ofWords 218 = .ok (.lreturn, 1) := by decide +kernel
set_option maxRecDepth 20000 in
theorem ggX0_ofHalves_X0_rightHalf : GoodIn wsX0_ofHalves wsX0_rightHalf := goodIn_r _ [5, 6] (by decide +kernel) (by decide +kernel)
set_option maxRecDepth 20000 in
theorem gX0_ofHalves_X0_rightHalf : GoodIn wsX0_ofHalves (va_wsS RX0 58 yX0_rightHalf wsX0_rightHalf) := goodIn_app (goodIn_of _ (by decide +kernel)) ggX0_ofHalves_X0_rightHalf
set_option maxRecDepth 20000 in
theorem ggX0_ofHalves_X0_leftHalf : GoodIn wsX0_ofHalves wsX0_leftHalf := goodIn_r _ [9, 6] (by decide +kernel) (by decide +kernel)
set_option maxRecDepth 20000 in
theorem gX0_ofHalves_X0_leftHalf : GoodIn wsX0_ofHalves (va_wsS RX0 112 yX0_leftHalf wsX0_leftHalf) := goodIn_app (goodIn_of _ (by decide +kernel)) ggX0_ofHalves_X0_leftHalf
theorem dX0_ofHalves_0 : decode cX0_ofHalves 0 = .ok (.iload_n 0, 1) := by decide +kernel
theorem dX0_ofHalves_1 : decode cX0_ofHalves 1 = .ok (.lookupswitch 108 #[(320, 51), (324, 63), (352, 78), (356, 90), (360, 102)], 51) := by decide +kernel
theorem dX0_ofHalves_52 : decode cX0_ofHalves 52 = .ok (.lload_n 3, 1) := by decide +kernel
theorem dX0_ofHalves_53 : decode cX0_ofHalves 53 = .ok (.ldc2_w 130, 3) := by decide +kernel
theorem dX0_ofHalves_56 : decode cX0_ofHalves 56 = .ok (.land, 1) := by decide +kernel
theorem dX0_ofHalves_57 : decode cX0_ofHalves 57 = .ok (.lload_n 1, 1) := by decide +kernel
theorem dX0_ofHalves_58 : decode cX0_ofHalves 58 = .ok (.invokestatic 58, 3) := by decide +kernel
theorem dX0_ofHalves_61 : decode cX0_ofHalves 61 = .ok (.i2l, 1) := by decide +kernel
theorem dX0_ofHalves_62 : decode cX0_ofHalves 62 = .ok (.lor, 1) := by decide +kernel
theorem dX0_ofHalves_63 : decode cX0_ofHalves 63 = .ok (.lreturn, 1) := by decide +kernel
theorem dX0_ofHalves_64 : decode cX0_ofHalves 64 = .ok (.lload_n 3, 1) := by decide +kernel
theorem dX0_ofHalves_65 : decode cX0_ofHalves 65 = .ok (.invokestatic 58, 3) := by decide +kernel
theorem dX0_ofHalves_68 : decode cX0_ofHalves 68 = .ok (.i2l, 1) := by decide +kernel
theorem dX0_ofHalves_69 : decode cX0_ofHalves 69 = .ok (.bipush 18, 2) := by decide +kernel
theorem dX0_ofHalves_71 : decode cX0_ofHalves 71 = .ok (.lshl, 1) := by decide +kernel
theorem dX0_ofHalves_72 : decode cX0_ofHalves 72 = .ok (.lload_n 1, 1) := by decide +kernel
theorem dX0_ofHalves_73 : decode cX0_ofHalves 73 = .ok (.invokestatic 58, 3) := by decide +kernel
theorem dX0_ofHalves_76 : decode cX0_ofHalves 76 = .ok (.i2l, 1) := by decide +kernel
theorem dX0_ofHalves_77 : decode cX0_ofHalves 77 = .ok (.lor, 1) := by decide +kernel
theorem dX0_ofHalves_78 : decode cX0_ofHalves 78 = .ok (.lreturn, 1) := by decide +kernel
theorem dX0_ofHalves_79 : decode cX0_ofHalves 79 = .ok (.lload_n 1, 1) := by decide +kernel
theorem dX0_ofHalves_80 : decode cX0_ofHalves 80 = .ok (.ldc2_w 130, 3) := by decide +kernel
theorem dX0_ofHalves_83 : decode cX0_ofHalves 83 = .ok (.land, 1) := by decide +kernel
theorem dX0_ofHalves_84 : decode cX0_ofHalves 84 = .ok (.lload_n 3, 1) := by decide +kernel
theorem dX0_ofHalves_85 : decode cX0_ofHalves 85 = .ok (.invokestatic 58, 3) := by decide +kernel
theorem dX0_ofHalves_88 : decode cX0_ofHalves 88 = .ok (.i2l, 1) := by decide +kernel
theorem dX0_ofHalves_89 : decode cX0_ofHalves 89 = .ok (.lor, 1) := by decide +kernel
theorem dX0_ofHalves_90 : decode cX0_ofHalves 90 = .ok (.lreturn, 1) := by decide +kernel
theorem dX0_ofHalves_91 : decode cX0_ofHalves 91 = .ok (.lload_n 1, 1) := by decide +kernel
theorem dX0_ofHalves_92 : decode cX0_ofHalves 92 = .ok (.ldc2_w 130, 3) := by decide +kernel
theorem dX0_ofHalves_95 : decode cX0_ofHalves 95 = .ok (.land, 1) := by decide +kernel
theorem dX0_ofHalves_96 : decode cX0_ofHalves 96 = .ok (.lload_n 3, 1) := by decide +kernel
theorem dX0_ofHalves_97 : decode cX0_ofHalves 97 = .ok (.invokestatic 112, 3) := by decide +kernel
theorem dX0_ofHalves_100 : decode cX0_ofHalves 100 = .ok (.i2l, 1) := by decide +kernel
theorem dX0_ofHalves_101 : decode cX0_ofHalves 101 = .ok (.lor, 1) := by decide +kernel
theorem dX0_ofHalves_102 : decode cX0_ofHalves 102 = .ok (.lreturn, 1) := by decide +kernel
theorem dX0_ofHalves_103 : decode cX0_ofHalves 103 = .ok (.lload_n 3, 1) := by decide +kernel
theorem dX0_ofHalves_104 : decode cX0_ofHalves 104 = .ok (.invokestatic 58, 3) := by decide +kernel
theorem dX0_ofHalves_107 : decode cX0_ofHalves 107 = .ok (.i2l, 1) := by decide +kernel
theorem dX0_ofHalves_108 : decode cX0_ofHalves 108 = .ok (.lreturn, 1) := by decide +kernel
theorem dX0_ofHalves_109 : decode cX0_ofHalves 109 = .ok (.lload_n 3, 1) := by decide +kernel
theorem dX0_ofHalves_110 : decode cX0_ofHalves 110 = .ok (.invokestatic 112, 3) := by decide +kernel
theorem dX0_ofHalves_113 : decode cX0_ofHalves 113 = .ok (.i2l, 1) := by decide +kernel
theorem dX0_ofHalves_114 : decode cX0_ofHalves 114 = .ok (.lreturn, 1) := by decide +kernel
theorem dX0_shifted_0 : decode cX0_shifted 0 = .ok (.iload_n 2, 1) := by decide +kernel
theorem dX0_shifted_1 : decode cX0_shifted 1 = .ok (.bipush 14, 2) := by decide +kernel
theorem dX0_shifted_3 : decode cX0_shifted 3 = .ok (.ishl, 1) := by decide +kernel
theorem dX0_shifted_4 : decode cX0_shifted 4 = .ok (.bipush 14, 2) := by decide +kernel
theorem dX0_shifted_6 : decode cX0_shifted 6 = .ok (.ishr, 1) := by decide +kernel
theorem dX0_shifted_7 : decode cX0_shifted 7 = .ok (.istore_n 3, 1) := by decide +kernel
theorem dX0_shifted_8 : decode cX0_shifted 8 = .ok (.iload_n 3, 1) := by decide +kernel
theorem dX0_shifted_9 : decode cX0_shifted 9 = .ok (.bipush 36, 2) := by decide +kernel
theorem dX0_shifted_11 : decode cX0_shifted 11 = .ok (.if_icmp .ge 9, 3) := by decide +kernel
theorem dX0_shifted_14 : decode cX0_shifted 14 = .ok (.iload_n 3, 1) := by decide +kernel
theorem dX0_shifted_15 : decode cX0_shifted 15 = .ok (.bipush (-36), 2) := by decide +kernel
theorem dX0_shifted_17 : decode cX0_shifted 17 = .ok (.if_icmp .gt 5, 3) := by decide +kernel
theorem dX0_shifted_20 : decode cX0_shifted 20 = .ok (.lconst 0, 1) := by decide +kernel
theorem dX0_shifted_21 : decode cX0_shifted 21 = .ok (.lreturn, 1) := by decide +kernel
theorem dX0_shifted_22 : decode cX0_shifted 22 = .ok (.iload_n 3, 1) := by decide +kernel
theorem dX0_shifted_23 : decode cX0_shifted 23 = .ok (.ifCond .lt 9, 3) := by decide +kernel
theorem dX0_shifted_26 : decode cX0_shifted 26 = .ok (.lload_n 0, 1) := by decide +kernel
theorem dX0_shifted_27 : decode cX0_shifted 27 = .ok (.iload_n 3, 1) := by decide +kernel
theorem dX0_shifted_28 : decode cX0_shifted 28 = .ok (.lshl, 1) := by decide +kernel
theorem dX0_shifted_29 : decode cX0_shifted 29 = .ok (.goto 7, 3) := by decide +kernel
theorem dX0_shifted_32 : decode cX0_shifted 32 = .ok (.lload_n 0, 1) := by decide +kernel
theorem dX0_shifted_33 : decode cX0_shifted 33 = .ok (.iload_n 3, 1) := by decide +kernel
theorem dX0_shifted_34 : decode cX0_shifted 34 = .ok (.ineg, 1) := by decide +kernel
theorem dX0_shifted_35 : decode cX0_shifted 35 = .ok (.lshr, 1) := by decide +kernel
theorem dX0_shifted_36 : decode cX0_shifted 36 = .ok (.lreturn, 1) := by decide +kernel
set_option maxRecDepth 20000 in
theorem ggX0_divide_X0_number : GoodIn wsX0_divide wsX0_number := goodIn_r _ [7] (by decide +kernel) (by decide +kernel)
set_option maxRecDepth 20000 in
theorem gX0_divide_X0_number : GoodIn wsX0_divide (va_wsS RX0 115 yX0_number wsX0_number) := goodIn_app (goodIn_of _ (by decide +kernel)) ggX0_divide_X0_number
set_option maxRecDepth 20000 in
theorem ggX0_divide_X0_store : GoodIn wsX0_divide wsX0_store := goodIn_r _ [11, 1, 12, 13, 14, 15, 16, 17] (by decide +kernel) (by decide +kernel)
set_option maxRecDepth 20000 in
theorem gX0_divide_X0_store : GoodIn wsX0_divide (wsV RX0 30 RX0 yX0_store wsX0_store) := goodIn_app (goodIn_of _ (by decide +kernel)) ggX0_divide_X0_store
theorem dX0_divide_0 : decode cX0_divide 0 = .ok (.aload_n 0, 1) := by decide +kernel
theorem dX0_divide_1 : decode cX0_divide 1 = .ok (.getfield 9, 3) := by decide +kernel
theorem dX0_divide_4 : decode cX0_divide 4 = .ok (.iload_n 1, 1) := by decide +kernel
theorem dX0_divide_5 : decode cX0_divide 5 = .ok (.laload, 1) := by decide +kernel
theorem dX0_divide_6 : decode cX0_divide 6 = .ok (.invokestatic 115, 3) := by decide +kernel
theorem dX0_divide_9 : decode cX0_divide 9 = .ok (.lstore 4, 2) := by decide +kernel
theorem dX0_divide_11 : decode cX0_divide 11 = .ok (.lload_n 2, 1) := by decide +kernel
theorem dX0_divide_12 : decode cX0_divide 12 = .ok (.invokestatic 115, 3) := by decide +kernel
theorem dX0_divide_15 : decode cX0_divide 15 = .ok (.lstore 6, 2) := by decide +kernel
theorem dX0_divide_17 : decode cX0_divide 17 = .ok (.lload 6, 2) := by decide +kernel
theorem dX0_divide_19 : decode cX0_divide 19 = .ok (.lconst 0, 1) := by decide +kernel
theorem dX0_divide_20 : decode cX0_divide 20 = .ok (.lcmp, 1) := by decide +kernel
theorem dX0_divide_21 : decode cX0_divide 21 = .ok (.ifCond .eq 21, 3) := by decide +kernel
theorem dX0_divide_24 : decode cX0_divide 24 = .ok (.lload 6, 2) := by decide +kernel
theorem dX0_divide_26 : decode cX0_divide 26 = .ok (.ldc2_w 128, 3) := by decide +kernel
theorem dX0_divide_29 : decode cX0_divide 29 = .ok (.lcmp, 1) := by decide +kernel
theorem dX0_divide_30 : decode cX0_divide 30 = .ok (.ifCond .ne 14, 3) := by decide +kernel
theorem dX0_divide_33 : decode cX0_divide 33 = .ok (.lload 4, 2) := by decide +kernel
theorem dX0_divide_35 : decode cX0_divide 35 = .ok (.ldc2_w 132, 3) := by decide +kernel
theorem dX0_divide_38 : decode cX0_divide 38 = .ok (.lcmp, 1) := by decide +kernel
theorem dX0_divide_39 : decode cX0_divide 39 = .ok (.ifCond .ne 5, 3) := by decide +kernel
theorem dX0_divide_42 : decode cX0_divide 42 = .ok (.iconst 3, 1) := by decide +kernel
theorem dX0_divide_43 : decode cX0_divide 43 = .ok (.ireturn, 1) := by decide +kernel
theorem dX0_divide_44 : decode cX0_divide 44 = .ok (.aload_n 0, 1) := by decide +kernel
theorem dX0_divide_45 : decode cX0_divide 45 = .ok (.iload_n 1, 1) := by decide +kernel
theorem dX0_divide_46 : decode cX0_divide 46 = .ok (.lload 4, 2) := by decide +kernel
theorem dX0_divide_48 : decode cX0_divide 48 = .ok (.lload 6, 2) := by decide +kernel
theorem dX0_divide_50 : decode cX0_divide 50 = .ok (.ldiv, 1) := by decide +kernel
theorem dX0_divide_51 : decode cX0_divide 51 = .ok (.invokevirtual 30, 3) := by decide +kernel
theorem dX0_divide_54 : decode cX0_divide 54 = .ok (.aload_n 0, 1) := by decide +kernel
theorem dX0_divide_55 : decode cX0_divide 55 = .ok (.iload_n 1, 1) := by decide +kernel
theorem dX0_divide_56 : decode cX0_divide 56 = .ok (.iconst 1, 1) := by decide +kernel
theorem dX0_divide_57 : decode cX0_divide 57 = .ok (.iadd, 1) := by decide +kernel
theorem dX0_divide_58 : decode cX0_divide 58 = .ok (.bipush 15, 2) := by decide +kernel
theorem dX0_divide_60 : decode cX0_divide 60 = .ok (.iand, 1) := by decide +kernel
theorem dX0_divide_61 : decode cX0_divide 61 = .ok (.lload 4, 2) := by decide +kernel
theorem dX0_divide_63 : decode cX0_divide 63 = .ok (.lload 6, 2) := by decide +kernel
theorem dX0_divide_65 : decode cX0_divide 65 = .ok (.lrem, 1) := by decide +kernel
theorem dX0_divide_66 : decode cX0_divide 66 = .ok (.invokevirtual 30, 3) := by decide +kernel
theorem dX0_divide_69 : decode cX0_divide 69 = .ok (.iconst 0, 1) := by decide +kernel
theorem dX0_divide_70 : decode cX0_divide 70 = .ok (.ireturn, 1) := by decide +kernel
set_option maxRecDepth 20000 in
theorem ggX0_exchange_X0_store : GoodIn wsX0_exchange wsX0_store := goodIn_r _ [6, 1, 7, 8, 9, 10, 11, 12] (by decide +kernel) (by decide +kernel)
set_option maxRecDepth 20000 in
theorem gX0_exchange_X0_store : GoodIn wsX0_exchange (wsV RX0 30 RX0 yX0_store wsX0_store) := goodIn_app (goodIn_of _ (by decide +kernel)) ggX0_exchange_X0_store
theorem dX0_exchange_0 : decode cX0_exchange 0 = .ok (.aload_n 0, 1) := by decide +kernel
theorem dX0_exchange_1 : decode cX0_exchange 1 = .ok (.getfield 9, 3) := by decide +kernel
theorem dX0_exchange_4 : decode cX0_exchange 4 = .ok (.iload_n 1, 1) := by decide +kernel
theorem dX0_exchange_5 : decode cX0_exchange 5 = .ok (.laload, 1) := by decide +kernel
theorem dX0_exchange_6 : decode cX0_exchange 6 = .ok (.lstore_n 3, 1) := by decide +kernel
theorem dX0_exchange_7 : decode cX0_exchange 7 = .ok (.aload_n 0, 1) := by decide +kernel
theorem dX0_exchange_8 : decode cX0_exchange 8 = .ok (.iload_n 1, 1) := by decide +kernel
theorem dX0_exchange_9 : decode cX0_exchange 9 = .ok (.aload_n 0, 1) := by decide +kernel
theorem dX0_exchange_10 : decode cX0_exchange 10 = .ok (.getfield 9, 3) := by decide +kernel
theorem dX0_exchange_13 : decode cX0_exchange 13 = .ok (.iload_n 2, 1) := by decide +kernel
theorem dX0_exchange_14 : decode cX0_exchange 14 = .ok (.laload, 1) := by decide +kernel
theorem dX0_exchange_15 : decode cX0_exchange 15 = .ok (.invokevirtual 30, 3) := by decide +kernel
theorem dX0_exchange_18 : decode cX0_exchange 18 = .ok (.aload_n 0, 1) := by decide +kernel
theorem dX0_exchange_19 : decode cX0_exchange 19 = .ok (.iload_n 2, 1) := by decide +kernel
theorem dX0_exchange_20 : decode cX0_exchange 20 = .ok (.lload_n 3, 1) := by decide +kernel
theorem dX0_exchange_21 : decode cX0_exchange 21 = .ok (.invokevirtual 30, 3) := by decide +kernel
theorem dX0_exchange_24 : decode cX0_exchange 24 = .ok (.iconst 0, 1) := by decide +kernel
theorem dX0_exchange_25 : decode cX0_exchange 25 = .ok (.ireturn, 1) := by decide +kernel
theorem dX0_jump_0 : decode cX0_jump 0 = .ok (.aload_n 0, 1) := by decide +kernel
theorem dX0_jump_1 : decode cX0_jump 1 = .ok (.iload_n 1, 1) := by decide +kernel
theorem dX0_jump_2 : decode cX0_jump 2 = .ok (.sipush 4095, 3) := by decide +kernel
theorem dX0_jump_5 : decode cX0_jump 5 = .ok (.iand, 1) := by decide +kernel
theorem dX0_jump_6 : decode cX0_jump 6 = .ok (.putfield 17, 3) := by decide +kernel
theorem dX0_jump_9 : decode cX0_jump 9 = .ok (.iconst 0, 1) := by decide +kernel
theorem dX0_jump_10 : decode cX0_jump 10 = .ok (.ireturn, 1) := by decide +kernel
set_option maxRecDepth 20000 in
theorem ggX0_leaveNextPlaceAndJump_X0_store : GoodIn wsX0_leaveNextPlaceAndJump wsX0_store := goodIn_r _ [6, 7, 8, 13, 14, 15, 16, 17] (by decide +kernel) (by decide +kernel)
set_option maxRecDepth 20000 in
theorem gX0_leaveNextPlaceAndJump_X0_store : GoodIn wsX0_leaveNextPlaceAndJump (wsV RX0 30 RX0 yX0_store wsX0_store) := goodIn_app (goodIn_of _ (by decide +kernel)) ggX0_leaveNextPlaceAndJump_X0_store
set_option maxRecDepth 20000 in
theorem ggX0_leaveNextPlaceAndJump_X0_jump : GoodIn wsX0_leaveNextPlaceAndJump wsX0_jump := goodIn_r _ [12, 1, 13, 14, 15, 16, 17] (by decide +kernel) (by decide +kernel)
set_option maxRecDepth 20000 in
theorem gX0_leaveNextPlaceAndJump_X0_jump : GoodIn wsX0_leaveNextPlaceAndJump (wsV RX0 69 RX0 yX0_jump wsX0_jump) := goodIn_app (goodIn_of _ (by decide +kernel)) ggX0_leaveNextPlaceAndJump_X0_jump
theorem dX0_leaveNextPlaceAndJump_0 : decode cX0_leaveNextPlaceAndJump 0 = .ok (.aload_n 0, 1) := by decide +kernel
theorem dX0_leaveNextPlaceAndJump_1 : decode cX0_leaveNextPlaceAndJump 1 = .ok (.iload_n 1, 1) := by decide +kernel
theorem dX0_leaveNextPlaceAndJump_2 : decode cX0_leaveNextPlaceAndJump 2 = .ok (.aload_n 0, 1) := by decide +kernel
theorem dX0_leaveNextPlaceAndJump_3 : decode cX0_leaveNextPlaceAndJump 3 = .ok (.getfield 17, 3) := by decide +kernel
theorem dX0_leaveNextPlaceAndJump_6 : decode cX0_leaveNextPlaceAndJump 6 = .ok (.i2l, 1) := by decide +kernel
theorem dX0_leaveNextPlaceAndJump_7 : decode cX0_leaveNextPlaceAndJump 7 = .ok (.invokevirtual 30, 3) := by decide +kernel
theorem dX0_leaveNextPlaceAndJump_10 : decode cX0_leaveNextPlaceAndJump 10 = .ok (.aload_n 0, 1) := by decide +kernel
theorem dX0_leaveNextPlaceAndJump_11 : decode cX0_leaveNextPlaceAndJump 11 = .ok (.iload_n 1, 1) := by decide +kernel
theorem dX0_leaveNextPlaceAndJump_12 : decode cX0_leaveNextPlaceAndJump 12 = .ok (.iconst 1, 1) := by decide +kernel
theorem dX0_leaveNextPlaceAndJump_13 : decode cX0_leaveNextPlaceAndJump 13 = .ok (.iadd, 1) := by decide +kernel
theorem dX0_leaveNextPlaceAndJump_14 : decode cX0_leaveNextPlaceAndJump 14 = .ok (.invokevirtual 69, 3) := by decide +kernel
theorem dX0_leaveNextPlaceAndJump_17 : decode cX0_leaveNextPlaceAndJump 17 = .ok (.ireturn, 1) := by decide +kernel
set_option maxRecDepth 20000 in
theorem ggX0_pushNextPlace_X0_push : GoodIn wsX0_pushNextPlace wsX0_push := goodIn_r _ [6, 7, 8, 9, 10, 5, 11, 12, 13, 14, 15, 16, 17, 18, 19, 20, 21, 26, 27, 28, 29, 30] (by decide +kernel) (by decide +kernel)
set_option maxRecDepth 20000 in
theorem gX0_pushNextPlace_X0_push : GoodIn wsX0_pushNextPlace (wsV RX0 93 RX0 yX0_push wsX0_push) := goodIn_app (goodIn_of _ (by decide +kernel)) ggX0_pushNextPlace_X0_push
set_option maxRecDepth 20000 in
theorem ggX0_pushNextPlace_X0_jump : GoodIn wsX0_pushNextPlace wsX0_jump := goodIn_r _ [25, 1, 26, 27, 28, 29, 30] (by decide +kernel) (by decide +kernel)
set_option maxRecDepth 20000 in
theorem gX0_pushNextPlace_X0_jump : GoodIn wsX0_pushNextPlace (wsV RX0 69 RX0 yX0_jump wsX0_jump) := goodIn_app (goodIn_of _ (by decide +kernel)) ggX0_pushNextPlace_X0_jump
theorem dX0_pushNextPlace_0 : decode cX0_pushNextPlace 0 = .ok (.aload_n 0, 1) := by decide +kernel
theorem dX0_pushNextPlace_1 : decode cX0_pushNextPlace 1 = .ok (.iload_n 1, 1) := by decide +kernel
theorem dX0_pushNextPlace_2 : decode cX0_pushNextPlace 2 = .ok (.aload_n 0, 1) := by decide +kernel
theorem dX0_pushNextPlace_3 : decode cX0_pushNextPlace 3 = .ok (.getfield 17, 3) := by decide +kernel
theorem dX0_pushNextPlace_6 : decode cX0_pushNextPlace 6 = .ok (.i2l, 1) := by decide +kernel
theorem dX0_pushNextPlace_7 : decode cX0_pushNextPlace 7 = .ok (.invokevirtual 93, 3) := by decide +kernel
theorem dX0_pushNextPlace_10 : decode cX0_pushNextPlace 10 = .ok (.istore_n 3, 1) := by decide +kernel
theorem dX0_pushNextPlace_11 : decode cX0_pushNextPlace 11 = .ok (.iload_n 3, 1) := by decide +kernel
theorem dX0_pushNextPlace_12 : decode cX0_pushNextPlace 12 = .ok (.ifCond .ne 11, 3) := by decide +kernel
theorem dX0_pushNextPlace_15 : decode cX0_pushNextPlace 15 = .ok (.aload_n 0, 1) := by decide +kernel
theorem dX0_pushNextPlace_16 : decode cX0_pushNextPlace 16 = .ok (.iload_n 2, 1) := by decide +kernel
theorem dX0_pushNextPlace_17 : decode cX0_pushNextPlace 17 = .ok (.invokevirtual 69, 3) := by decide +kernel
theorem dX0_pushNextPlace_20 : decode cX0_pushNextPlace 20 = .ok (.goto 4, 3) := by decide +kernel
theorem dX0_pushNextPlace_23 : decode cX0_pushNextPlace 23 = .ok (.iload_n 3, 1) := by decide +kernel
theorem dX0_pushNextPlace_24 : decode cX0_pushNextPlace 24 = .ok (.ireturn, 1) := by decide +kernel
set_option maxRecDepth 20000 in
theorem ggX0_push_X0_rightHalf : GoodIn wsX0_push wsX0_rightHalf := goodIn_r _ [6, 2] (by decide +kernel) (by decide +kernel)
set_option maxRecDepth 20000 in
theorem gX0_push_X0_rightHalf : GoodIn wsX0_push (va_wsS RX0 58 yX0_rightHalf wsX0_rightHalf) := goodIn_app (goodIn_of _ (by decide +kernel)) ggX0_push_X0_rightHalf
set_option maxRecDepth 20000 in
theorem ggX0_push_X0_moveTop : GoodIn wsX0_push wsX0_moveTop := goodIn_r _ [10, 1, 11, 2, 3, 4, 5, 6, 12, 13, 14, 15, 16, 17, 18, 19, 20, 21] (by decide +kernel) (by decide +kernel)
set_option maxRecDepth 20000 in
theorem gX0_push_X0_moveTop : GoodIn wsX0_push (wsV RX0 134 RX0 yX0_moveTop wsX0_moveTop) := goodIn_app (goodIn_of _ (by decide +kernel)) ggX0_push_X0_moveTop
set_option maxRecDepth 20000 in
theorem ggX0_push_X0_store : GoodIn wsX0_push wsX0_store := goodIn_r _ [15, 1, 16, 17, 18, 19, 20, 21] (by decide +kernel) (by decide +kernel)
set_option maxRecDepth 20000 in
theorem gX0_push_X0_store : GoodIn wsX0_push (wsV RX0 30 RX0 yX0_store wsX0_store) := goodIn_app (goodIn_of _ (by decide +kernel)) ggX0_push_X0_store
theorem dX0_push_0 : decode cX0_push 0 = .ok (.aload_n 0, 1) := by decide +kernel
theorem dX0_push_1 : decode cX0_push 1 = .ok (.getfield 9, 3) := by decide +kernel
theorem dX0_push_4 : decode cX0_push 4 = .ok (.iload_n 1, 1) := by decide +kernel
theorem dX0_push_5 : decode cX0_push 5 = .ok (.laload, 1) := by decide +kernel
theorem dX0_push_6 : decode cX0_push 6 = .ok (.invokestatic 58, 3) := by decide +kernel
theorem dX0_push_9 : decode cX0_push 9 = .ok (.iconst 1, 1) := by decide +kernel
theorem dX0_push_10 : decode cX0_push 10 = .ok (.iadd, 1) := by decide +kernel
theorem dX0_push_11 : decode cX0_push 11 = .ok (.ldc 34, 2) := by decide +kernel
theorem dX0_push_13 : decode cX0_push 13 = .ok (.iand, 1) := by decide +kernel
theorem dX0_push_14 : decode cX0_push 14 = .ok (.istore 4, 2) := by decide +kernel
theorem dX0_push_16 : decode cX0_push 16 = .ok (.iload 4, 2) := by decide +kernel
theorem dX0_push_18 : decode cX0_push 18 = .ok (.sipush 4096, 3) := by decide +kernel
theorem dX0_push_21 : decode cX0_push 21 = .ok (.if_icmp .lt 5, 3) := by decide +kernel
theorem dX0_push_24 : decode cX0_push 24 = .ok (.iconst 2, 1) := by decide +kernel
theorem dX0_push_25 : decode cX0_push 25 = .ok (.ireturn, 1) := by decide +kernel
theorem dX0_push_26 : decode cX0_push 26 = .ok (.aload_n 0, 1) := by decide +kernel
theorem dX0_push_27 : decode cX0_push 27 = .ok (.iload_n 1, 1) := by decide +kernel
theorem dX0_push_28 : decode cX0_push 28 = .ok (.iconst 1, 1) := by decide +kernel
theorem dX0_push_29 : decode cX0_push 29 = .ok (.invokevirtual 134, 3) := by decide +kernel
theorem dX0_push_32 : decode cX0_push 32 = .ok (.aload_n 0, 1) := by decide +kernel
theorem dX0_push_33 : decode cX0_push 33 = .ok (.iload 4, 2) := by decide +kernel
theorem dX0_push_35 : decode cX0_push 35 = .ok (.lload_n 2, 1) := by decide +kernel
theorem dX0_push_36 : decode cX0_push 36 = .ok (.invokevirtual 30, 3) := by decide +kernel
theorem dX0_push_39 : decode cX0_push 39 = .ok (.iconst 0, 1) := by decide +kernel
theorem dX0_push_40 : decode cX0_push 40 = .ok (.ireturn, 1) := by decide +kernel
set_option maxRecDepth 20000 in
theorem ggX0_popToMemory_X0_rightHalf : GoodIn wsX0_popToMemory wsX0_rightHalf := goodIn_r _ [5, 6] (by decide +kernel) (by decide +kernel)
set_option maxRecDepth 20000 in
theorem gX0_popToMemory_X0_rightHalf : GoodIn wsX0_popToMemory (va_wsS RX0 58 yX0_rightHalf wsX0_rightHalf) := goodIn_app (goodIn_of _ (by decide +kernel)) ggX0_popToMemory_X0_rightHalf
set_option maxRecDepth 20000 in
theorem ggX0_popToMemory_X0_store : GoodIn wsX0_popToMemory wsX0_store := goodIn_r _ [10, 1, 11, 17, 18, 19, 20, 21] (by decide +kernel) (by decide +kernel)
set_option maxRecDepth 20000 in
theorem gX0_popToMemory_X0_store : GoodIn wsX0_popToMemory (wsV RX0 30 RX0 yX0_store wsX0_store) := goodIn_app (goodIn_of _ (by decide +kernel)) ggX0_popToMemory_X0_store
set_option maxRecDepth 20000 in
theorem ggX0_popToMemory_X0_moveTop : GoodIn wsX0_popToMemory wsX0_moveTop := goodIn_r _ [15, 1, 16, 6, 2, 3, 4, 5, 7, 8, 9, 10, 11, 17, 18, 19, 20, 21] (by decide +kernel) (by decide +kernel)
set_option maxRecDepth 20000 in
theorem gX0_popToMemory_X0_moveTop : GoodIn wsX0_popToMemory (wsV RX0 134 RX0 yX0_moveTop wsX0_moveTop) := goodIn_app (goodIn_of _ (by decide +kernel)) ggX0_popToMemory_X0_moveTop
theorem dX0_popToMemory_0 : decode cX0_popToMemory 0 = .ok (.aload_n 0, 1) := by decide +kernel
theorem dX0_popToMemory_1 : decode cX0_popToMemory 1 = .ok (.getfield 9, 3) := by decide +kernel
theorem dX0_popToMemory_4 : decode cX0_popToMemory 4 = .ok (.iload_n 1, 1) := by decide +kernel
theorem dX0_popToMemory_5 : decode cX0_popToMemory 5 = .ok (.laload, 1) := by decide +kernel
theorem dX0_popToMemory_6 : decode cX0_popToMemory 6 = .ok (.invokestatic 58, 3) := by decide +kernel
theorem dX0_popToMemory_9 : decode cX0_popToMemory 9 = .ok (.istore_n 3, 1) := by decide +kernel
theorem dX0_popToMemory_10 : decode cX0_popToMemory 10 = .ok (.iload_n 3, 1) := by decide +kernel
theorem dX0_popToMemory_11 : decode cX0_popToMemory 11 = .ok (.sipush 4096, 3) := by decide +kernel
theorem dX0_popToMemory_14 : decode cX0_popToMemory 14 = .ok (.if_icmp .lt 5, 3) := by decide +kernel
theorem dX0_popToMemory_17 : decode cX0_popToMemory 17 = .ok (.iconst 2, 1) := by decide +kernel
theorem dX0_popToMemory_18 : decode cX0_popToMemory 18 = .ok (.ireturn, 1) := by decide +kernel
theorem dX0_popToMemory_19 : decode cX0_popToMemory 19 = .ok (.aload_n 0, 1) := by decide +kernel
theorem dX0_popToMemory_20 : decode cX0_popToMemory 20 = .ok (.iload_n 2, 1) := by decide +kernel
theorem dX0_popToMemory_21 : decode cX0_popToMemory 21 = .ok (.aload_n 0, 1) := by decide +kernel
theorem dX0_popToMemory_22 : decode cX0_popToMemory 22 = .ok (.getfield 9, 3) := by decide +kernel
theorem dX0_popToMemory_25 : decode cX0_popToMemory 25 = .ok (.iload_n 3, 1) := by decide +kernel
theorem dX0_popToMemory_26 : decode cX0_popToMemory 26 = .ok (.laload, 1) := by decide +kernel
theorem dX0_popToMemory_27 : decode cX0_popToMemory 27 = .ok (.invokevirtual 30, 3) := by decide +kernel
theorem dX0_popToMemory_30 : decode cX0_popToMemory 30 = .ok (.aload_n 0, 1) := by decide +kernel
theorem dX0_popToMemory_31 : decode cX0_popToMemory 31 = .ok (.iload_n 1, 1) := by decide +kernel
theorem dX0_popToMemory_32 : decode cX0_popToMemory 32 = .ok (.iconst (-1), 1) := by decide +kernel
theorem dX0_popToMemory_33 : decode cX0_popToMemory 33 = .ok (.invokevirtual 134, 3) := by decide +kernel
theorem dX0_popToMemory_36 : decode cX0_popToMemory 36 = .ok (.iconst 0, 1) := by decide +kernel
theorem dX0_popToMemory_37 : decode cX0_popToMemory 37 = .ok (.ireturn, 1) := by decide +kernel
set_option maxRecDepth 20000 in
theorem ggX0_popToPc_X0_rightHalf : GoodIn wsX0_popToPc wsX0_rightHalf := goodIn_r _ [5, 6] (by decide +kernel) (by decide +kernel)
set_option maxRecDepth 20000 in
theorem gX0_popToPc_X0_rightHalf : GoodIn wsX0_popToPc (va_wsS RX0 58 yX0_rightHalf wsX0_rightHalf) := goodIn_app (goodIn_of _ (by decide +kernel)) ggX0_popToPc_X0_rightHalf
set_option maxRecDepth 20000 in
theorem ggX0_popToPc_X0_jump : GoodIn wsX0_popToPc wsX0_jump := goodIn_r _ [10, 11, 22, 23, 24, 25, 26] (by decide +kernel) (by decide +kernel)
set_option maxRecDepth 20000 in
theorem gX0_popToPc_X0_jump : GoodIn wsX0_popToPc (wsV RX0 69 RX0 yX0_jump wsX0_jump) := goodIn_app (goodIn_of _ (by decide +kernel)) ggX0_popToPc_X0_jump
set_option maxRecDepth 20000 in
theorem ggX0_popToPc_X0_moveTop : GoodIn wsX0_popToPc wsX0_moveTop := goodIn_r _ [15, 1, 16, 6, 2, 3, 4, 5, 17, 18, 19, 20, 21, 22, 23, 24, 25, 26] (by decide +kernel) (by decide +kernel)
set_option maxRecDepth 20000 in
theorem gX0_popToPc_X0_moveTop : GoodIn wsX0_popToPc (wsV RX0 134 RX0 yX0_moveTop wsX0_moveTop) := goodIn_app (goodIn_of _ (by decide +kernel)) ggX0_popToPc_X0_moveTop
theorem dX0_popToPc_0 : decode cX0_popToPc 0 = .ok (.aload_n 0, 1) := by decide +kernel
theorem dX0_popToPc_1 : decode cX0_popToPc 1 = .ok (.getfield 9, 3) := by decide +kernel
theorem dX0_popToPc_4 : decode cX0_popToPc 4 = .ok (.iload_n 1, 1) := by decide +kernel
theorem dX0_popToPc_5 : decode cX0_popToPc 5 = .ok (.laload, 1) := by decide +kernel
theorem dX0_popToPc_6 : decode cX0_popToPc 6 = .ok (.invokestatic 58, 3) := by decide +kernel
theorem dX0_popToPc_9 : decode cX0_popToPc 9 = .ok (.istore_n 2, 1) := by decide +kernel
theorem dX0_popToPc_10 : decode cX0_popToPc 10 = .ok (.iload_n 2, 1) := by decide +kernel
theorem dX0_popToPc_11 : decode cX0_popToPc 11 = .ok (.sipush 4096, 3) := by decide +kernel
theorem dX0_popToPc_14 : decode cX0_popToPc 14 = .ok (.if_icmp .lt 5, 3) := by decide +kernel
theorem dX0_popToPc_17 : decode cX0_popToPc 17 = .ok (.iconst 2, 1) := by decide +kernel
theorem dX0_popToPc_18 : decode cX0_popToPc 18 = .ok (.ireturn, 1) := by decide +kernel
theorem dX0_popToPc_19 : decode cX0_popToPc 19 = .ok (.aload_n 0, 1) := by decide +kernel
theorem dX0_popToPc_20 : decode cX0_popToPc 20 = .ok (.aload_n 0, 1) := by decide +kernel
theorem dX0_popToPc_21 : decode cX0_popToPc 21 = .ok (.getfield 9, 3) := by decide +kernel
theorem dX0_popToPc_24 : decode cX0_popToPc 24 = .ok (.iload_n 2, 1) := by decide +kernel
theorem dX0_popToPc_25 : decode cX0_popToPc 25 = .ok (.laload, 1) := by decide +kernel
theorem dX0_popToPc_26 : decode cX0_popToPc 26 = .ok (.invokestatic 58, 3) := by decide +kernel
theorem dX0_popToPc_29 : decode cX0_popToPc 29 = .ok (.invokevirtual 69, 3) := by decide +kernel
theorem dX0_popToPc_32 : decode cX0_popToPc 32 = .ok (.pop, 1) := by decide +kernel
theorem dX0_popToPc_33 : decode cX0_popToPc 33 = .ok (.aload_n 0, 1) := by decide +kernel
theorem dX0_popToPc_34 : decode cX0_popToPc 34 = .ok (.iload_n 1, 1) := by decide +kernel
theorem dX0_popToPc_35 : decode cX0_popToPc 35 = .ok (.iconst (-1), 1) := by decide +kernel
theorem dX0_popToPc_36 : decode cX0_popToPc 36 = .ok (.invokevirtual 134, 3) := by decide +kernel
theorem dX0_popToPc_39 : decode cX0_popToPc 39 = .ok (.iconst 0, 1) := by decide +kernel
theorem dX0_popToPc_40 : decode cX0_popToPc 40 = .ok (.ireturn, 1) := by decide +kernel
set_option maxRecDepth 20000 in
theorem ggX0_moveTop_X0_rightHalf : GoodIn wsX0_moveTop wsX0_rightHalf := goodIn_r _ [7, 3] (by decide +kernel) (by decide +kernel)
set_option maxRecDepth 20000 in
theorem gX0_moveTop_X0_rightHalf : GoodIn wsX0_moveTop (va_wsS RX0 58 yX0_rightHalf wsX0_rightHalf) := goodIn_app (goodIn_of _ (by decide +kernel)) ggX0_moveTop_X0_rightHalf
set_option maxRecDepth 20000 in
theorem ggX0_moveTop_X0_store : GoodIn wsX0_moveTop wsX0_store := goodIn_r _ [11, 1, 12, 13, 14, 15, 16, 17] (by decide +kernel) (by decide +kernel)
set_option maxRecDepth 20000 in
theorem gX0_moveTop_X0_store : GoodIn wsX0_moveTop (wsV RX0 30 RX0 yX0_store wsX0_store) := goodIn_app (goodIn_of _ (by decide +kernel)) ggX0_moveTop_X0_store
theorem dX0_moveTop_0 : decode cX0_moveTop 0 = .ok (.aload_n 0, 1) := by decide +kernel
theorem dX0_moveTop_1 : decode cX0_moveTop 1 = .ok (.getfield 9, 3) := by decide +kernel
theorem dX0_moveTop_4 : decode cX0_moveTop 4 = .ok (.iload_n 1, 1) := by decide +kernel
theorem dX0_moveTop_5 : decode cX0_moveTop 5 = .ok (.laload, 1) := by decide +kernel
theorem dX0_moveTop_6 : decode cX0_moveTop 6 = .ok (.lstore_n 3, 1) := by decide +kernel
theorem dX0_moveTop_7 : decode cX0_moveTop 7 = .ok (.aload_n 0, 1) := by decide +kernel
theorem dX0_moveTop_8 : decode cX0_moveTop 8 = .ok (.iload_n 1, 1) := by decide +kernel
theorem dX0_moveTop_9 : decode cX0_moveTop 9 = .ok (.lload_n 3, 1) := by decide +kernel
theorem dX0_moveTop_10 : decode cX0_moveTop 10 = .ok (.ldc2_w 130, 3) := by decide +kernel
theorem dX0_moveTop_13 : decode cX0_moveTop 13 = .ok (.land, 1) := by decide +kernel
theorem dX0_moveTop_14 : decode cX0_moveTop 14 = .ok (.lload_n 3, 1) := by decide +kernel
theorem dX0_moveTop_15 : decode cX0_moveTop 15 = .ok (.invokestatic 58, 3) := by decide +kernel
theorem dX0_moveTop_18 : decode cX0_moveTop 18 = .ok (.iload_n 2, 1) := by decide +kernel
theorem dX0_moveTop_19 : decode cX0_moveTop 19 = .ok (.iadd, 1) := by decide +kernel
theorem dX0_moveTop_20 : decode cX0_moveTop 20 = .ok (.ldc 34, 2) := by decide +kernel
theorem dX0_moveTop_22 : decode cX0_moveTop 22 = .ok (.iand, 1) := by decide +kernel
theorem dX0_moveTop_23 : decode cX0_moveTop 23 = .ok (.i2l, 1) := by decide +kernel
theorem dX0_moveTop_24 : decode cX0_moveTop 24 = .ok (.lor, 1) := by decide +kernel
theorem dX0_moveTop_25 : decode cX0_moveTop 25 = .ok (.invokevirtual 30, 3) := by decide +kernel
theorem dX0_moveTop_28 : decode cX0_moveTop 28 = .ok (.return_, 1) := by decide +kernel
theorem dX0_isTest_0 : decode cX0_isTest 0 = .ok (.iload_n 0, 1) := by decide +kernel
theorem dX0_isTest_1 : decode cX0_isTest 1 = .ok (.sipush 192, 3) := by decide +kernel
theorem dX0_isTest_4 : decode cX0_isTest 4 = .ok (.if_icmp .lt 14, 3) := by decide +kernel
theorem dX0_isTest_7 : decode cX0_isTest 7 = .ok (.iload_n 0, 1) := by decide +kernel
theorem dX0_isTest_8 : decode cX0_isTest 8 = .ok (.sipush 255, 3) := by decide +kernel
theorem dX0_isTest_11 : decode cX0_isTest 11 = .ok (.if_icmp .gt 7, 3) := by decide +kernel
theorem dX0_isTest_14 : decode cX0_isTest 14 = .ok (.iconst 1, 1) := by decide +kernel
theorem dX0_isTest_15 : decode cX0_isTest 15 = .ok (.goto 4, 3) := by decide +kernel
theorem dX0_isTest_18 : decode cX0_isTest 18 = .ok (.iconst 0, 1) := by decide +kernel
theorem dX0_isTest_19 : decode cX0_isTest 19 = .ok (.ireturn, 1) := by decide +kernel
set_option maxRecDepth 20000 in
theorem ggX0_test_X0_holds : GoodIn wsX0_test wsX0_holds := goodIn_r _ [5, 6, 7, 4, 8] (by decide +kernel) (by decide +kernel)
set_option maxRecDepth 20000 in
theorem gX0_test_X0_holds : GoodIn wsX0_test (va_wsS RX0 137 yX0_holds wsX0_holds) := goodIn_app (goodIn_of _ (by decide +kernel)) ggX0_test_X0_holds
set_option maxRecDepth 20000 in
theorem ggX0_test_X0_skipIf : GoodIn wsX0_test wsX0_skipIf := goodIn_r _ [12, 13, 14, 15, 16, 4, 17, 31, 32, 33, 34, 35] (by decide +kernel) (by decide +kernel)
set_option maxRecDepth 20000 in
theorem gX0_test_X0_skipIf : GoodIn wsX0_test (wsV RX0 141 RX0 yX0_skipIf wsX0_skipIf) := goodIn_app (goodIn_of _ (by decide +kernel)) ggX0_test_X0_skipIf
set_option maxRecDepth 20000 in
theorem ggX0_test_X0_changeAndJump : GoodIn wsX0_test wsX0_changeAndJump := goodIn_r _ [21, 1, 22, 23, 24, 4, 25, 26, 2, 3, 5, 6, 7, 8, 14, 15, 16, 17, 13, 31, 32, 33, 34, 35] (by decide +kernel) (by decide +kernel)
set_option maxRecDepth 20000 in
theorem gX0_test_X0_changeAndJump : GoodIn wsX0_test (wsV RX0 145 RX0 yX0_changeAndJump wsX0_changeAndJump) := goodIn_app (goodIn_of _ (by decide +kernel)) ggX0_test_X0_changeAndJump
set_option maxRecDepth 20000 in
theorem ggX0_test_X0_changeAndSkip : GoodIn wsX0_test wsX0_changeAndSkip := goodIn_r _ [30, 1, 22, 23, 24, 4, 25, 26, 2, 3, 5, 6, 7, 8, 9, 10, 11, 12, 13, 14, 15, 16, 17, 31, 32, 33, 34, 35] (by decide +kernel) (by decide +kernel)
set_option maxRecDepth 20000 in
theorem gX0_test_X0_changeAndSkip : GoodIn wsX0_test (wsV RX0 149 RX0 yX0_changeAndSkip wsX0_changeAndSkip) := goodIn_app (goodIn_of _ (by decide +kernel)) ggX0_test_X0_changeAndSkip
theorem dX0_test_0 : decode cX0_test 0 = .ok (.iload_n 1, 1) := by decide +kernel
theorem dX0_test_1 : decode cX0_test 1 = .ok (.bipush 8, 2) := by decide +kernel
theorem dX0_test_3 : decode cX0_test 3 = .ok (.iand, 1) := by decide +kernel
theorem dX0_test_4 : decode cX0_test 4 = .ok (.ifCond .eq 7, 3) := by decide +kernel
theorem dX0_test_7 : decode cX0_test 7 = .ok (.iconst 1, 1) := by decide +kernel
theorem dX0_test_8 : decode cX0_test 8 = .ok (.goto 4, 3) := by decide +kernel
theorem dX0_test_11 : decode cX0_test 11 = .ok (.iconst 0, 1) := by decide +kernel
theorem dX0_test_12 : decode cX0_test 12 = .ok (.istore 4, 2) := by decide +kernel
theorem dX0_test_14 : decode cX0_test 14 = .ok (.iload 4, 2) := by decide +kernel
theorem dX0_test_16 : decode cX0_test 16 = .ok (.ifCond .eq 12, 3) := by decide +kernel
theorem dX0_test_19 : decode cX0_test 19 = .ok (.iload_n 3, 1) := by decide +kernel
theorem dX0_test_20 : decode cX0_test 20 = .ok (.sipush 4096, 3) := by decide +kernel
theorem dX0_test_23 : decode cX0_test 23 = .ok (.if_icmp .lt 5, 3) := by decide +kernel
theorem dX0_test_26 : decode cX0_test 26 = .ok (.iconst 2, 1) := by decide +kernel
theorem dX0_test_27 : decode cX0_test 27 = .ok (.ireturn, 1) := by decide +kernel
theorem dX0_test_28 : decode cX0_test 28 = .ok (.iload_n 1, 1) := by decide +kernel
theorem dX0_test_29 : decode cX0_test 29 = .ok (.bipush 7, 2) := by decide +kernel
theorem dX0_test_31 : decode cX0_test 31 = .ok (.iand, 1) := by decide +kernel
theorem dX0_test_32 : decode cX0_test 32 = .ok (.istore 5, 2) := by decide +kernel
theorem dX0_test_34 : decode cX0_test 34 = .ok (.iload_n 1, 1) := by decide +kernel
theorem dX0_test_35 : decode cX0_test 35 = .ok (.sipush 504, 3) := by decide +kernel
theorem dX0_test_38 : decode cX0_test 38 = .ok (.iand, 1) := by decide +kernel
theorem dX0_test_39 : decode cX0_test 39 = .ok (.lookupswitch 155 #[(192, 65), (200, 83), (208, 105), (216, 115), (224, 125), (232, 135), (240, 145)], 65) := by decide +kernel
theorem dX0_test_104 : decode cX0_test 104 = .ok (.aload_n 0, 1) := by decide +kernel
theorem dX0_test_105 : decode cX0_test 105 = .ok (.iload 5, 2) := by decide +kernel
theorem dX0_test_107 : decode cX0_test 107 = .ok (.aload_n 0, 1) := by decide +kernel
theorem dX0_test_108 : decode cX0_test 108 = .ok (.getfield 9, 3) := by decide +kernel
theorem dX0_test_111 : decode cX0_test 111 = .ok (.iload_n 2, 1) := by decide +kernel
theorem dX0_test_112 : decode cX0_test 112 = .ok (.laload, 1) := by decide +kernel
theorem dX0_test_113 : decode cX0_test 113 = .ok (.iload_n 3, 1) := by decide +kernel
theorem dX0_test_114 : decode cX0_test 114 = .ok (.i2l, 1) := by decide +kernel
theorem dX0_test_115 : decode cX0_test 115 = .ok (.invokestatic 137, 3) := by decide +kernel
theorem dX0_test_118 : decode cX0_test 118 = .ok (.invokevirtual 141, 3) := by decide +kernel
theorem dX0_test_121 : decode cX0_test 121 = .ok (.ireturn, 1) := by decide +kernel
theorem dX0_test_122 : decode cX0_test 122 = .ok (.aload_n 0, 1) := by decide +kernel
theorem dX0_test_123 : decode cX0_test 123 = .ok (.iload 5, 2) := by decide +kernel
theorem dX0_test_125 : decode cX0_test 125 = .ok (.aload_n 0, 1) := by decide +kernel
theorem dX0_test_126 : decode cX0_test 126 = .ok (.getfield 9, 3) := by decide +kernel
theorem dX0_test_129 : decode cX0_test 129 = .ok (.iload_n 2, 1) := by decide +kernel
theorem dX0_test_130 : decode cX0_test 130 = .ok (.laload, 1) := by decide +kernel
theorem dX0_test_131 : decode cX0_test 131 = .ok (.aload_n 0, 1) := by decide +kernel
theorem dX0_test_132 : decode cX0_test 132 = .ok (.getfield 9, 3) := by decide +kernel
theorem dX0_test_135 : decode cX0_test 135 = .ok (.iload_n 3, 1) := by decide +kernel
theorem dX0_test_136 : decode cX0_test 136 = .ok (.laload, 1) := by decide +kernel
theorem dX0_test_137 : decode cX0_test 137 = .ok (.invokestatic 137, 3) := by decide +kernel
theorem dX0_test_140 : decode cX0_test 140 = .ok (.invokevirtual 141, 3) := by decide +kernel
theorem dX0_test_143 : decode cX0_test 143 = .ok (.ireturn, 1) := by decide +kernel
theorem dX0_test_144 : decode cX0_test 144 = .ok (.aload_n 0, 1) := by decide +kernel
theorem dX0_test_145 : decode cX0_test 145 = .ok (.iload 5, 2) := by decide +kernel
theorem dX0_test_147 : decode cX0_test 147 = .ok (.iload_n 2, 1) := by decide +kernel
theorem dX0_test_148 : decode cX0_test 148 = .ok (.iload_n 3, 1) := by decide +kernel
theorem dX0_test_149 : decode cX0_test 149 = .ok (.iconst 0, 1) := by decide +kernel
theorem dX0_test_150 : decode cX0_test 150 = .ok (.invokevirtual 145, 3) := by decide +kernel
theorem dX0_test_153 : decode cX0_test 153 = .ok (.ireturn, 1) := by decide +kernel
theorem dX0_test_154 : decode cX0_test 154 = .ok (.aload_n 0, 1) := by decide +kernel
theorem dX0_test_155 : decode cX0_test 155 = .ok (.iload 5, 2) := by decide +kernel
theorem dX0_test_157 : decode cX0_test 157 = .ok (.iload_n 2, 1) := by decide +kernel
theorem dX0_test_158 : decode cX0_test 158 = .ok (.iload_n 3, 1) := by decide +kernel
theorem dX0_test_159 : decode cX0_test 159 = .ok (.iconst 0, 1) := by decide +kernel
theorem dX0_test_160 : decode cX0_test 160 = .ok (.invokevirtual 149, 3) := by decide +kernel
theorem dX0_test_163 : decode cX0_test 163 = .ok (.ireturn, 1) := by decide +kernel
theorem dX0_test_164 : decode cX0_test 164 = .ok (.aload_n 0, 1) := by decide +kernel
theorem dX0_test_165 : decode cX0_test 165 = .ok (.iload 5, 2) := by decide +kernel
theorem dX0_test_167 : decode cX0_test 167 = .ok (.iload_n 2, 1) := by decide +kernel
theorem dX0_test_168 : decode cX0_test 168 = .ok (.iload_n 3, 1) := by decide +kernel
theorem dX0_test_169 : decode cX0_test 169 = .ok (.iconst 1, 1) := by decide +kernel
theorem dX0_test_170 : decode cX0_test 170 = .ok (.invokevirtual 145, 3) := by decide +kernel
theorem dX0_test_173 : decode cX0_test 173 = .ok (.ireturn, 1) := by decide +kernel
theorem dX0_test_174 : decode cX0_test 174 = .ok (.aload_n 0, 1) := by decide +kernel
theorem dX0_test_175 : decode cX0_test 175 = .ok (.iload 5, 2) := by decide +kernel
theorem dX0_test_177 : decode cX0_test 177 = .ok (.iload_n 2, 1) := by decide +kernel
theorem dX0_test_178 : decode cX0_test 178 = .ok (.iload_n 3, 1) := by decide +kernel
theorem dX0_test_179 : decode cX0_test 179 = .ok (.iconst 1, 1) := by decide +kernel
theorem dX0_test_180 : decode cX0_test 180 = .ok (.invokevirtual 149, 3) := by decide +kernel
theorem dX0_test_183 : decode cX0_test 183 = .ok (.ireturn, 1) := by decide +kernel
theorem dX0_test_184 : decode cX0_test 184 = .ok (.aload_n 0, 1) := by decide +kernel
theorem dX0_test_185 : decode cX0_test 185 = .ok (.iload 5, 2) := by decide +kernel
theorem dX0_test_187 : decode cX0_test 187 = .ok (.iload_n 2, 1) := by decide +kernel
theorem dX0_test_188 : decode cX0_test 188 = .ok (.iload_n 3, 1) := by decide +kernel
theorem dX0_test_189 : decode cX0_test 189 = .ok (.iconst (-1), 1) := by decide +kernel
theorem dX0_test_190 : decode cX0_test 190 = .ok (.invokevirtual 145, 3) := by decide +kernel
theorem dX0_test_193 : decode cX0_test 193 = .ok (.ireturn, 1) := by decide +kernel
theorem dX0_test_194 : decode cX0_test 194 = .ok (.aload_n 0, 1) := by decide +kernel
theorem dX0_test_195 : decode cX0_test 195 = .ok (.iload 5, 2) := by decide +kernel
theorem dX0_test_197 : decode cX0_test 197 = .ok (.iload_n 2, 1) := by decide +kernel
theorem dX0_test_198 : decode cX0_test 198 = .ok (.iload_n 3, 1) := by decide +kernel
theorem dX0_test_199 : decode cX0_test 199 = .ok (.iconst (-1), 1) := by decide +kernel
theorem dX0_test_200 : decode cX0_test 200 = .ok (.invokevirtual 149, 3) := by decide +kernel
theorem dX0_test_203 : decode cX0_test 203 = .ok (.ireturn, 1) := by decide +kernel
set_option maxRecDepth 20000 in
theorem ggX0_changeAndJump_X0_store : GoodIn wsX0_changeAndJump wsX0_store := goodIn_r _ [6, 1, 7, 19, 20, 21, 22, 23] (by decide +kernel) (by decide +kernel)
set_option maxRecDepth 20000 in
theorem gX0_changeAndJump_X0_store : GoodIn wsX0_changeAndJump (wsV RX0 30 RX0 yX0_store wsX0_store) := goodIn_app (goodIn_of _ (by decide +kernel)) ggX0_changeAndJump_X0_store
set_option maxRecDepth 20000 in
theorem ggX0_changeAndJump_X0_holds : GoodIn wsX0_changeAndJump wsX0_holds := goodIn_r _ [10, 11, 12, 5, 13] (by decide +kernel) (by decide +kernel)
set_option maxRecDepth 20000 in
theorem gX0_changeAndJump_X0_holds : GoodIn wsX0_changeAndJump (va_wsS RX0 137 yX0_holds wsX0_holds) := goodIn_app (goodIn_of _ (by decide +kernel)) ggX0_changeAndJump_X0_holds
set_option maxRecDepth 20000 in
theorem ggX0_changeAndJump_X0_jump : GoodIn wsX0_changeAndJump wsX0_jump := goodIn_r _ [17, 18, 19, 20, 21, 22, 23] (by decide +kernel) (by decide +kernel)
set_option maxRecDepth 20000 in
theorem gX0_changeAndJump_X0_jump : GoodIn wsX0_changeAndJump (wsV RX0 69 RX0 yX0_jump wsX0_jump) := goodIn_app (goodIn_of _ (by decide +kernel)) ggX0_changeAndJump_X0_jump
theorem dX0_changeAndJump_0 : decode cX0_changeAndJump 0 = .ok (.aload_n 0, 1) := by decide +kernel
theorem dX0_changeAndJump_1 : decode cX0_changeAndJump 1 = .ok (.iload_n 2, 1) := by decide +kernel
theorem dX0_changeAndJump_2 : decode cX0_changeAndJump 2 = .ok (.aload_n 0, 1) := by decide +kernel
theorem dX0_changeAndJump_3 : decode cX0_changeAndJump 3 = .ok (.getfield 9, 3) := by decide +kernel
theorem dX0_changeAndJump_6 : decode cX0_changeAndJump 6 = .ok (.iload_n 2, 1) := by decide +kernel
theorem dX0_changeAndJump_7 : decode cX0_changeAndJump 7 = .ok (.laload, 1) := by decide +kernel
theorem dX0_changeAndJump_8 : decode cX0_changeAndJump 8 = .ok (.iload 4, 2) := by decide +kernel
theorem dX0_changeAndJump_10 : decode cX0_changeAndJump 10 = .ok (.i2l, 1) := by decide +kernel
theorem dX0_changeAndJump_11 : decode cX0_changeAndJump 11 = .ok (.ladd, 1) := by decide +kernel
theorem dX0_changeAndJump_12 : decode cX0_changeAndJump 12 = .ok (.invokevirtual 30, 3) := by decide +kernel
theorem dX0_changeAndJump_15 : decode cX0_changeAndJump 15 = .ok (.iload_n 1, 1) := by decide +kernel
theorem dX0_changeAndJump_16 : decode cX0_changeAndJump 16 = .ok (.aload_n 0, 1) := by decide +kernel
theorem dX0_changeAndJump_17 : decode cX0_changeAndJump 17 = .ok (.getfield 9, 3) := by decide +kernel
theorem dX0_changeAndJump_20 : decode cX0_changeAndJump 20 = .ok (.iload_n 2, 1) := by decide +kernel
theorem dX0_changeAndJump_21 : decode cX0_changeAndJump 21 = .ok (.laload, 1) := by decide +kernel
theorem dX0_changeAndJump_22 : decode cX0_changeAndJump 22 = .ok (.lconst 0, 1) := by decide +kernel
theorem dX0_changeAndJump_23 : decode cX0_changeAndJump 23 = .ok (.invokestatic 137, 3) := by decide +kernel
theorem dX0_changeAndJump_26 : decode cX0_changeAndJump 26 = .ok (.ifCond .eq 11, 3) := by decide +kernel
theorem dX0_changeAndJump_29 : decode cX0_changeAndJump 29 = .ok (.aload_n 0, 1) := by decide +kernel
theorem dX0_changeAndJump_30 : decode cX0_changeAndJump 30 = .ok (.iload_n 3, 1) := by decide +kernel
theorem dX0_changeAndJump_31 : decode cX0_changeAndJump 31 = .ok (.invokevirtual 69, 3) := by decide +kernel
theorem dX0_changeAndJump_34 : decode cX0_changeAndJump 34 = .ok (.goto 4, 3) := by decide +kernel
theorem dX0_changeAndJump_37 : decode cX0_changeAndJump 37 = .ok (.iconst 0, 1) := by decide +kernel
theorem dX0_changeAndJump_38 : decode cX0_changeAndJump 38 = .ok (.ireturn, 1) := by decide +kernel
set_option maxRecDepth 20000 in
theorem ggX0_changeAndSkip_X0_store : GoodIn wsX0_changeAndSkip wsX0_store := goodIn_r _ [6, 1, 7, 23, 24, 25, 26, 27] (by decide +kernel) (by decide +kernel)
set_option maxRecDepth 20000 in
theorem gX0_changeAndSkip_X0_store : GoodIn wsX0_changeAndSkip (wsV RX0 30 RX0 yX0_store wsX0_store) := goodIn_app (goodIn_of _ (by decide +kernel)) ggX0_changeAndSkip_X0_store
set_option maxRecDepth 20000 in
theorem ggX0_changeAndSkip_X0_holds : GoodIn wsX0_changeAndSkip wsX0_holds := goodIn_r _ [10, 11, 12, 5, 13] (by decide +kernel) (by decide +kernel)
set_option maxRecDepth 20000 in
theorem gX0_changeAndSkip_X0_holds : GoodIn wsX0_changeAndSkip (va_wsS RX0 137 yX0_holds wsX0_holds) := goodIn_app (goodIn_of _ (by decide +kernel)) ggX0_changeAndSkip_X0_holds
set_option maxRecDepth 20000 in
theorem ggX0_changeAndSkip_X0_skipIf : GoodIn wsX0_changeAndSkip wsX0_skipIf := goodIn_r _ [17, 18, 19, 20, 21, 5, 22, 23, 24, 25, 26, 27] (by decide +kernel) (by decide +kernel)
set_option maxRecDepth 20000 in
theorem gX0_changeAndSkip_X0_skipIf : GoodIn wsX0_changeAndSkip (wsV RX0 141 RX0 yX0_skipIf wsX0_skipIf) := goodIn_app (goodIn_of _ (by decide +kernel)) ggX0_changeAndSkip_X0_skipIf
theorem dX0_changeAndSkip_0 : decode cX0_changeAndSkip 0 = .ok (.aload_n 0, 1) := by decide +kernel
theorem dX0_changeAndSkip_1 : decode cX0_changeAndSkip 1 = .ok (.iload_n 3, 1) := by decide +kernel
theorem dX0_changeAndSkip_2 : decode cX0_changeAndSkip 2 = .ok (.aload_n 0, 1) := by decide +kernel
theorem dX0_changeAndSkip_3 : decode cX0_changeAndSkip 3 = .ok (.getfield 9, 3) := by decide +kernel
theorem dX0_changeAndSkip_6 : decode cX0_changeAndSkip 6 = .ok (.iload_n 3, 1) := by decide +kernel
theorem dX0_changeAndSkip_7 : decode cX0_changeAndSkip 7 = .ok (.laload, 1) := by decide +kernel
theorem dX0_changeAndSkip_8 : decode cX0_changeAndSkip 8 = .ok (.iload 4, 2) := by decide +kernel
theorem dX0_changeAndSkip_10 : decode cX0_changeAndSkip 10 = .ok (.i2l, 1) := by decide +kernel
theorem dX0_changeAndSkip_11 : decode cX0_changeAndSkip 11 = .ok (.ladd, 1) := by decide +kernel
theorem dX0_changeAndSkip_12 : decode cX0_changeAndSkip 12 = .ok (.invokevirtual 30, 3) := by decide +kernel
theorem dX0_changeAndSkip_15 : decode cX0_changeAndSkip 15 = .ok (.aload_n 0, 1) := by decide +kernel
theorem dX0_changeAndSkip_16 : decode cX0_changeAndSkip 16 = .ok (.getfield 9, 3) := by decide +kernel
theorem dX0_changeAndSkip_19 : decode cX0_changeAndSkip 19 = .ok (.iload_n 3, 1) := by decide +kernel
theorem dX0_changeAndSkip_20 : decode cX0_changeAndSkip 20 = .ok (.laload, 1) := by decide +kernel
theorem dX0_changeAndSkip_21 : decode cX0_changeAndSkip 21 = .ok (.lstore 5, 2) := by decide +kernel
theorem dX0_changeAndSkip_23 : decode cX0_changeAndSkip 23 = .ok (.iload_n 2, 1) := by decide +kernel
theorem dX0_changeAndSkip_24 : decode cX0_changeAndSkip 24 = .ok (.ifCond .eq 10, 3) := by decide +kernel
theorem dX0_changeAndSkip_27 : decode cX0_changeAndSkip 27 = .ok (.aload_n 0, 1) := by decide +kernel
theorem dX0_changeAndSkip_28 : decode cX0_changeAndSkip 28 = .ok (.iload_n 2, 1) := by decide +kernel
theorem dX0_changeAndSkip_29 : decode cX0_changeAndSkip 29 = .ok (.lload 5, 2) := by decide +kernel
theorem dX0_changeAndSkip_31 : decode cX0_changeAndSkip 31 = .ok (.invokevirtual 30, 3) := by decide +kernel
theorem dX0_changeAndSkip_34 : decode cX0_changeAndSkip 34 = .ok (.aload_n 0, 1) := by decide +kernel
theorem dX0_changeAndSkip_35 : decode cX0_changeAndSkip 35 = .ok (.iload_n 1, 1) := by decide +kernel
theorem dX0_changeAndSkip_36 : decode cX0_changeAndSkip 36 = .ok (.lload 5, 2) := by decide +kernel
theorem dX0_changeAndSkip_38 : decode cX0_changeAndSkip 38 = .ok (.lconst 0, 1) := by decide +kernel
theorem dX0_changeAndSkip_39 : decode cX0_changeAndSkip 39 = .ok (.invokestatic 137, 3) := by decide +kernel
theorem dX0_changeAndSkip_42 : decode cX0_changeAndSkip 42 = .ok (.invokevirtual 141, 3) := by decide +kernel
theorem dX0_changeAndSkip_45 : decode cX0_changeAndSkip 45 = .ok (.ireturn, 1) := by decide +kernel
set_option maxRecDepth 20000 in
theorem ggX0_skipIf_X0_jump : GoodIn wsX0_skipIf wsX0_jump := goodIn_r _ [6, 1, 7, 8, 9, 10, 11] (by decide +kernel) (by decide +kernel)
set_option maxRecDepth 20000 in
theorem gX0_skipIf_X0_jump : GoodIn wsX0_skipIf (wsV RX0 69 RX0 yX0_jump wsX0_jump) := goodIn_app (goodIn_of _ (by decide +kernel)) ggX0_skipIf_X0_jump
theorem dX0_skipIf_0 : decode cX0_skipIf 0 = .ok (.iload_n 1, 1) := by decide +kernel
theorem dX0_skipIf_1 : decode cX0_skipIf 1 = .ok (.ifCond .eq 16, 3) := by decide +kernel
theorem dX0_skipIf_4 : decode cX0_skipIf 4 = .ok (.aload_n 0, 1) := by decide +kernel
theorem dX0_skipIf_5 : decode cX0_skipIf 5 = .ok (.aload_n 0, 1) := by decide +kernel
theorem dX0_skipIf_6 : decode cX0_skipIf 6 = .ok (.getfield 17, 3) := by decide +kernel
theorem dX0_skipIf_9 : decode cX0_skipIf 9 = .ok (.iconst 1, 1) := by decide +kernel
theorem dX0_skipIf_10 : decode cX0_skipIf 10 = .ok (.iadd, 1) := by decide +kernel
theorem dX0_skipIf_11 : decode cX0_skipIf 11 = .ok (.invokevirtual 69, 3) := by decide +kernel
theorem dX0_skipIf_14 : decode cX0_skipIf 14 = .ok (.goto 4, 3) := by decide +kernel
theorem dX0_skipIf_17 : decode cX0_skipIf 17 = .ok (.iconst 0, 1) := by decide +kernel
theorem dX0_skipIf_18 : decode cX0_skipIf 18 = .ok (.ireturn, 1) := by decide +kernel
set_option maxRecDepth 20000 in
theorem ggX0_holds_X0_number : GoodIn wsX0_holds wsX0_number := goodIn_r _ [4] (by decide +kernel) (by decide +kernel)
set_option maxRecDepth 20000 in
theorem gX0_holds_X0_number : GoodIn wsX0_holds (va_wsS RX0 115 yX0_number wsX0_number) := goodIn_app (goodIn_of _ (by decide +kernel)) ggX0_holds_X0_number
theorem dX0_holds_0 : decode cX0_holds 0 = .ok (.lload_n 1, 1) := by decide +kernel
theorem dX0_holds_1 : decode cX0_holds 1 = .ok (.invokestatic 115, 3) := by decide +kernel
theorem dX0_holds_4 : decode cX0_holds 4 = .ok (.lstore 5, 2) := by decide +kernel
theorem dX0_holds_6 : decode cX0_holds 6 = .ok (.lload_n 3, 1) := by decide +kernel
theorem dX0_holds_7 : decode cX0_holds 7 = .ok (.invokestatic 115, 3) := by decide +kernel
theorem dX0_holds_10 : decode cX0_holds 10 = .ok (.lstore 7, 2) := by decide +kernel
theorem dX0_holds_12 : decode cX0_holds 12 = .ok (.iload_n 0, 1) := by decide +kernel
theorem dX0_holds_13 : decode cX0_holds 13 = .ok (.iconst 1, 1) := by decide +kernel
theorem dX0_holds_14 : decode cX0_holds 14 = .ok (.iand, 1) := by decide +kernel
theorem dX0_holds_15 : decode cX0_holds 15 = .ok (.ifCond .eq 11, 3) := by decide +kernel
theorem dX0_holds_18 : decode cX0_holds 18 = .ok (.lload 5, 2) := by decide +kernel
theorem dX0_holds_20 : decode cX0_holds 20 = .ok (.lload 7, 2) := by decide +kernel
theorem dX0_holds_22 : decode cX0_holds 22 = .ok (.lcmp, 1) := by decide +kernel
theorem dX0_holds_23 : decode cX0_holds 23 = .ok (.ifCond .lt 17, 3) := by decide +kernel
theorem dX0_holds_26 : decode cX0_holds 26 = .ok (.iload_n 0, 1) := by decide +kernel
theorem dX0_holds_27 : decode cX0_holds 27 = .ok (.iconst 2, 1) := by decide +kernel
theorem dX0_holds_28 : decode cX0_holds 28 = .ok (.iand, 1) := by decide +kernel
theorem dX0_holds_29 : decode cX0_holds 29 = .ok (.ifCond .eq 15, 3) := by decide +kernel
theorem dX0_holds_32 : decode cX0_holds 32 = .ok (.lload 5, 2) := by decide +kernel
theorem dX0_holds_34 : decode cX0_holds 34 = .ok (.lload 7, 2) := by decide +kernel
theorem dX0_holds_36 : decode cX0_holds 36 = .ok (.lcmp, 1) := by decide +kernel
theorem dX0_holds_37 : decode cX0_holds 37 = .ok (.ifCond .ne 7, 3) := by decide +kernel
theorem dX0_holds_40 : decode cX0_holds 40 = .ok (.iconst 1, 1) := by decide +kernel
theorem dX0_holds_41 : decode cX0_holds 41 = .ok (.goto 4, 3) := by decide +kernel
theorem dX0_holds_44 : decode cX0_holds 44 = .ok (.iconst 0, 1) := by decide +kernel
theorem dX0_holds_45 : decode cX0_holds 45 = .ok (.istore 9, 2) := by decide +kernel
theorem dX0_holds_47 : decode cX0_holds 47 = .ok (.iload 9, 2) := by decide +kernel
theorem dX0_holds_49 : decode cX0_holds 49 = .ok (.iload_n 0, 1) := by decide +kernel
theorem dX0_holds_50 : decode cX0_holds 50 = .ok (.iconst 4, 1) := by decide +kernel
theorem dX0_holds_51 : decode cX0_holds 51 = .ok (.iand, 1) := by decide +kernel
theorem dX0_holds_52 : decode cX0_holds 52 = .ok (.ifCond .eq 7, 3) := by decide +kernel
theorem dX0_holds_55 : decode cX0_holds 55 = .ok (.iconst 1, 1) := by decide +kernel
theorem dX0_holds_56 : decode cX0_holds 56 = .ok (.goto 4, 3) := by decide +kernel
theorem dX0_holds_59 : decode cX0_holds 59 = .ok (.iconst 0, 1) := by decide +kernel
theorem dX0_holds_60 : decode cX0_holds 60 = .ok (.if_icmp .eq 7, 3) := by decide +kernel
theorem dX0_holds_63 : decode cX0_holds 63 = .ok (.iconst 1, 1) := by decide +kernel
theorem dX0_holds_64 : decode cX0_holds 64 = .ok (.goto 4, 3) := by decide +kernel
theorem dX0_holds_67 : decode cX0_holds 67 = .ok (.iconst 0, 1) := by decide +kernel
theorem dX0_holds_68 : decode cX0_holds 68 = .ok (.ireturn, 1) := by decide +kernel
theorem dX0_number_0 : decode cX0_number 0 = .ok (.lload_n 0, 1) := by decide +kernel
theorem dX0_number_1 : decode cX0_number 1 = .ok (.bipush 28, 2) := by decide +kernel
theorem dX0_number_3 : decode cX0_number 3 = .ok (.lshl, 1) := by decide +kernel
theorem dX0_number_4 : decode cX0_number 4 = .ok (.bipush 28, 2) := by decide +kernel
theorem dX0_number_6 : decode cX0_number 6 = .ok (.lshr, 1) := by decide +kernel
theorem dX0_number_7 : decode cX0_number 7 = .ok (.lreturn, 1) := by decide +kernel
theorem dX0_rightHalf_0 : decode cX0_rightHalf 0 = .ok (.lload_n 0, 1) := by decide +kernel
theorem dX0_rightHalf_1 : decode cX0_rightHalf 1 = .ok (.l2i, 1) := by decide +kernel
theorem dX0_rightHalf_2 : decode cX0_rightHalf 2 = .ok (.ldc 34, 2) := by decide +kernel
theorem dX0_rightHalf_4 : decode cX0_rightHalf 4 = .ok (.iand, 1) := by decide +kernel
theorem dX0_rightHalf_5 : decode cX0_rightHalf 5 = .ok (.ireturn, 1) := by decide +kernel
theorem dX0_leftHalf_0 : decode cX0_leftHalf 0 = .ok (.lload_n 0, 1) := by decide +kernel
theorem dX0_leftHalf_1 : decode cX0_leftHalf 1 = .ok (.bipush 18, 2) := by decide +kernel
theorem dX0_leftHalf_3 : decode cX0_leftHalf 3 = .ok (.lshr, 1) := by decide +kernel
theorem dX0_leftHalf_4 : decode cX0_leftHalf 4 = .ok (.l2i, 1) := by decide +kernel
theorem dX0_leftHalf_5 : decode cX0_leftHalf 5 = .ok (.ldc 34, 2) := by decide +kernel
theorem dX0_leftHalf_7 : decode cX0_leftHalf 7 = .ok (.iand, 1) := by decide +kernel
theorem dX0_leftHalf_8 : decode cX0_leftHalf 8 = .ok (.ireturn, 1) := by decide +kernel
theorem dX0_store_0 : decode cX0_store 0 = .ok (.aload_n 0, 1) := by decide +kernel
theorem dX0_store_1 : decode cX0_store 1 = .ok (.getfield 9, 3) := by decide +kernel
theorem dX0_store_4 : decode cX0_store 4 = .ok (.iload_n 1, 1) := by decide +kernel
theorem dX0_store_5 : decode cX0_store 5 = .ok (.lload_n 2, 1) := by decide +kernel
theorem dX0_store_6 : decode cX0_store 6 = .ok (.ldc2_w 152, 3) := by decide +kernel
theorem dX0_store_9 : decode cX0_store 9 = .ok (.land, 1) := by decide +kernel
theorem dX0_store_10 : decode cX0_store 10 = .ok (.lastore, 1) := by decide +kernel
theorem dX0_store_11 : decode cX0_store 11 = .ok (.return_, 1) := by decide +kernel
end
section
theorem dX1_init_0 : decode cX1_init 0 = .ok (.aload_n 0, 1) := by decide +kernel
theorem dX1_init_1 : decode cX1_init 1 = .ok (.invokespecial 1, 3) := by decide +kernel
theorem dX1_init_4 : decode cX1_init 4 = .ok (.aload_n 0, 1) := by decide +kernel
theorem dX1_init_5 : decode cX1_init 5 = .ok (.sipush 4096, 3) := by decide +kernel
theorem dX1_init_8 : decode cX1_init 8 = .ok (.newarray .long, 2) := by decide +kernel
theorem dX1_init_10 : decode cX1_init 10 = .ok (.putfield 7, 3) := by decide +kernel
theorem dX1_init_13 : decode cX1_init 13 = .ok (.return_, 1) := by decide +kernel
theorem dX1_thrown_0 : decode cX1_thrown 0 = .ok (.aload_n 0, 1) := by decide +kernel
theorem dX1_thrown_1 : decode cX1_thrown 1 = .ok (.getfield 13, 3) := by decide +kernel
theorem dX1_thrown_4 : decode cX1_thrown 4 = .ok (.ireturn, 1) := by decide +kernel
theorem dX1_bad_0 : decode cX1_bad 0 = .ok (.aload_n 0, 1) := by decide +kernel
theorem dX1_bad_1 : decode cX1_bad 1 = .ok (.iload_n 1, 1) := by decide +kernel
theorem dX1_bad_2 : decode cX1_bad 2 = .ok (.ifCond .eq 7, 3) := by decide +kernel
theorem dX1_bad_5 : decode cX1_bad 5 = .ok (.iconst 1, 1) := by decide +kernel
theorem dX1_bad_6 : decode cX1_bad 6 = .ok (.goto 4, 3) := by decide +kernel
theorem dX1_bad_9 : decode cX1_bad 9 = .ok (.iconst 0, 1) := by decide +kernel
theorem dX1_bad_10 : decode cX1_bad 10 = .ok (.putfield 13, 3) := by decide +kernel
theorem dX1_bad_13 : decode cX1_bad 13 = .ok (.iload_n 1, 1) := by decide +kernel
theorem dX1_bad_14 : decode cX1_bad 14 = .ok (.ireturn, 1) := by decide +kernel
theorem dX1_isPlace_0 : decode cX1_isPlace 0 = .ok (.lload_n 0, 1) := by decide +kernel
theorem dX1_isPlace_1 : decode cX1_isPlace 1 = .ok (.lconst 0, 1) := by decide +kernel
theorem dX1_isPlace_2 : decode cX1_isPlace 2 = .ok (.lcmp, 1) := by decide +kernel
theorem dX1_isPlace_3 : decode cX1_isPlace 3 = .ok (.ifCond .lt 15, 3) := by decide +kernel
theorem dX1_isPlace_6 : decode cX1_isPlace 6 = .ok (.lload_n 0, 1) := by decide +kernel
theorem dX1_isPlace_7 : decode cX1_isPlace 7 = .ok (.ldc2_w 17, 3) := by decide +kernel
theorem dX1_isPlace_10 : decode cX1_isPlace 10 = .ok (.lcmp, 1) := by decide +kernel
theorem dX1_isPlace_11 : decode cX1_isPlace 11 = .ok (.ifCond .ge 7, 3) := by decide +kernel
theorem dX1_isPlace_14 : decode cX1_isPlace 14 = .ok (.iconst 1, 1) := by decide +kernel
theorem dX1_isPlace_15 : decode cX1_isPlace 15 = .ok (.goto 4, 3) := by decide +kernel
theorem dX1_isPlace_18 : decode cX1_isPlace 18 = .ok (.iconst 0, 1) := by decide +kernel
theorem dX1_isPlace_19 : decode cX1_isPlace 19 = .ok (.ireturn, 1) := by decide +kernel
set_option maxRecDepth 20000 in
theorem ggX1_put_X1_isPlace : GoodIn wsX1_put wsX1_isPlace := goodIn_r _ [6, 7] (by decide +kernel) (by decide +kernel)
set_option maxRecDepth 20000 in
theorem gX1_put_X1_isPlace : GoodIn wsX1_put (va_wsS RX1 19 yX1_isPlace wsX1_isPlace) := goodIn_app (goodIn_of _ (by decide +kernel)) ggX1_put_X1_isPlace
set_option maxRecDepth 20000 in
theorem ggX1_put_X1_bad : GoodIn wsX1_put wsX1_bad := goodIn_r _ [11, 12, 13, 14, 15, 16, 17, 18] (by decide +kernel) (by decide +kernel)
set_option maxRecDepth 20000 in
theorem gX1_put_X1_bad : GoodIn wsX1_put (wsV RX1 23 RX1 yX1_bad wsX1_bad) := goodIn_app (goodIn_of _ (by decide +kernel)) ggX1_put_X1_bad
theorem dX1_put_0 : decode cX1_put 0 = .ok (.aload_n 0, 1) := by decide +kernel
theorem dX1_put_1 : decode cX1_put 1 = .ok (.iload_n 1, 1) := by decide +kernel
theorem dX1_put_2 : decode cX1_put 2 = .ok (.i2l, 1) := by decide +kernel
theorem dX1_put_3 : decode cX1_put 3 = .ok (.invokestatic 19, 3) := by decide +kernel
theorem dX1_put_6 : decode cX1_put 6 = .ok (.ifCond .ne 7, 3) := by decide +kernel
theorem dX1_put_9 : decode cX1_put 9 = .ok (.iconst 1, 1) := by decide +kernel
theorem dX1_put_10 : decode cX1_put 10 = .ok (.goto 4, 3) := by decide +kernel
theorem dX1_put_13 : decode cX1_put 13 = .ok (.iconst 0, 1) := by decide +kernel
theorem dX1_put_14 : decode cX1_put 14 = .ok (.invokevirtual 23, 3) := by decide +kernel
theorem dX1_put_17 : decode cX1_put 17 = .ok (.ifCond .ne 14, 3) := by decide +kernel
theorem dX1_put_20 : decode cX1_put 20 = .ok (.aload_n 0, 1) := by decide +kernel
theorem dX1_put_21 : decode cX1_put 21 = .ok (.getfield 7, 3) := by decide +kernel
theorem dX1_put_24 : decode cX1_put 24 = .ok (.iload_n 1, 1) := by decide +kernel
theorem dX1_put_25 : decode cX1_put 25 = .ok (.lload_n 2, 1) := by decide +kernel
theorem dX1_put_26 : decode cX1_put 26 = .ok (.ldc2_w 27, 3) := by decide +kernel
theorem dX1_put_29 : decode cX1_put 29 = .ok (.land, 1) := by decide +kernel
theorem dX1_put_30 : decode cX1_put 30 = .ok (.lastore, 1) := by decide +kernel
theorem dX1_put_31 : decode cX1_put 31 = .ok (.return_, 1) := by decide +kernel
set_option maxRecDepth 20000 in
theorem ggX1_word_X1_isPlace : GoodIn wsX1_word wsX1_isPlace := goodIn_r _ [5, 6] (by decide +kernel) (by decide +kernel)
set_option maxRecDepth 20000 in
theorem gX1_word_X1_isPlace : GoodIn wsX1_word (va_wsS RX1 19 yX1_isPlace wsX1_isPlace) := goodIn_app (goodIn_of _ (by decide +kernel)) ggX1_word_X1_isPlace
set_option maxRecDepth 20000 in
theorem ggX1_word_X1_bad : GoodIn wsX1_word wsX1_bad := goodIn_r _ [10, 11, 12, 13, 14, 15, 16, 17] (by decide +kernel) (by decide +kernel)
set_option maxRecDepth 20000 in
theorem gX1_word_X1_bad : GoodIn wsX1_word (wsV RX1 23 RX1 yX1_bad wsX1_bad) := goodIn_app (goodIn_of _ (by decide +kernel)) ggX1_word_X1_bad
theorem dX1_word_0 : decode cX1_word 0 = .ok (.aload_n 0, 1) := by decide +kernel
theorem dX1_word_1 : decode cX1_word 1 = .ok (.iload_n 1, 1) := by decide +kernel
theorem dX1_word_2 : decode cX1_word 2 = .ok (.i2l, 1) := by decide +kernel
theorem dX1_word_3 : decode cX1_word 3 = .ok (.invokestatic 19, 3) := by decide +kernel
theorem dX1_word_6 : decode cX1_word 6 = .ok (.ifCond .ne 7, 3) := by decide +kernel
theorem dX1_word_9 : decode cX1_word 9 = .ok (.iconst 1, 1) := by decide +kernel
theorem dX1_word_10 : decode cX1_word 10 = .ok (.goto 4, 3) := by decide +kernel
theorem dX1_word_13 : decode cX1_word 13 = .ok (.iconst 0, 1) := by decide +kernel
theorem dX1_word_14 : decode cX1_word 14 = .ok (.invokevirtual 23, 3) := by decide +kernel
theorem dX1_word_17 : decode cX1_word 17 = .ok (.ifCond .eq 7, 3) := by decide +kernel
theorem dX1_word_20 : decode cX1_word 20 = .ok (.lconst 0, 1) := by decide +kernel
theorem dX1_word_21 : decode cX1_word 21 = .ok (.goto 9, 3) := by decide +kernel
theorem dX1_word_24 : decode cX1_word 24 = .ok (.aload_n 0, 1) := by decide +kernel
theorem dX1_word_25 : decode cX1_word 25 = .ok (.getfield 7, 3) := by decide +kernel
theorem dX1_word_28 : decode cX1_word 28 = .ok (.iload_n 1, 1) := by decide +kernel
theorem dX1_word_29 : decode cX1_word 29 = .ok (.laload, 1) := by decide +kernel
theorem dX1_word_30 : decode cX1_word 30 = .ok (.lreturn, 1) := by decide +kernel
set_option maxRecDepth 20000 in
theorem ggX1_code_X1_isPlace : GoodIn wsX1_code wsX1_isPlace := goodIn_r _ [7, 8] (by decide +kernel) (by decide +kernel)
set_option maxRecDepth 20000 in
theorem gX1_code_X1_isPlace : GoodIn wsX1_code (va_wsS RX1 19 yX1_isPlace wsX1_isPlace) := goodIn_app (goodIn_of _ (by decide +kernel)) ggX1_code_X1_isPlace
set_option maxRecDepth 20000 in
theorem ggX1_code_X1_bad : GoodIn wsX1_code wsX1_bad := goodIn_r _ [12, 13, 14, 15, 16, 17, 18, 19] (by decide +kernel) (by decide +kernel)
set_option maxRecDepth 20000 in
theorem gX1_code_X1_bad : GoodIn wsX1_code (wsV RX1 23 RX1 yX1_bad wsX1_bad) := goodIn_app (goodIn_of _ (by decide +kernel)) ggX1_code_X1_bad
theorem dX1_code_0 : decode cX1_code 0 = .ok (.aload_n 0, 1) := by decide +kernel
theorem dX1_code_1 : decode cX1_code 1 = .ok (.iload_n 1, 1) := by decide +kernel
theorem dX1_code_2 : decode cX1_code 2 = .ok (.i2l, 1) := by decide +kernel
theorem dX1_code_3 : decode cX1_code 3 = .ok (.invokestatic 19, 3) := by decide +kernel
theorem dX1_code_6 : decode cX1_code 6 = .ok (.ifCond .eq 36, 3) := by decide +kernel
theorem dX1_code_9 : decode cX1_code 9 = .ok (.iload_n 2, 1) := by decide +kernel
theorem dX1_code_10 : decode cX1_code 10 = .ok (.ifCond .lt 32, 3) := by decide +kernel
theorem dX1_code_13 : decode cX1_code 13 = .ok (.iload_n 2, 1) := by decide +kernel
theorem dX1_code_14 : decode cX1_code 14 = .ok (.sipush 511, 3) := by decide +kernel
theorem dX1_code_17 : decode cX1_code 17 = .ok (.if_icmp .gt 25, 3) := by decide +kernel
theorem dX1_code_20 : decode cX1_code 20 = .ok (.iload_n 3, 1) := by decide +kernel
theorem dX1_code_21 : decode cX1_code 21 = .ok (.ifCond .lt 21, 3) := by decide +kernel
theorem dX1_code_24 : decode cX1_code 24 = .ok (.iload_n 3, 1) := by decide +kernel
theorem dX1_code_25 : decode cX1_code 25 = .ok (.bipush 15, 2) := by decide +kernel
theorem dX1_code_27 : decode cX1_code 27 = .ok (.if_icmp .gt 15, 3) := by decide +kernel
theorem dX1_code_30 : decode cX1_code 30 = .ok (.iload 5, 2) := by decide +kernel
theorem dX1_code_32 : decode cX1_code 32 = .ok (.ifCond .lt 10, 3) := by decide +kernel
theorem dX1_code_35 : decode cX1_code 35 = .ok (.iload 5, 2) := by decide +kernel
theorem dX1_code_37 : decode cX1_code 37 = .ok (.bipush 15, 2) := by decide +kernel
theorem dX1_code_39 : decode cX1_code 39 = .ok (.if_icmp .le 7, 3) := by decide +kernel
theorem dX1_code_42 : decode cX1_code 42 = .ok (.iconst 1, 1) := by decide +kernel
theorem dX1_code_43 : decode cX1_code 43 = .ok (.goto 4, 3) := by decide +kernel
theorem dX1_code_46 : decode cX1_code 46 = .ok (.iconst 0, 1) := by decide +kernel
theorem dX1_code_47 : decode cX1_code 47 = .ok (.invokevirtual 23, 3) := by decide +kernel
theorem dX1_code_50 : decode cX1_code 50 = .ok (.ifCond .eq 5, 3) := by decide +kernel
theorem dX1_code_53 : decode cX1_code 53 = .ok (.lconst 0, 1) := by decide +kernel
theorem dX1_code_54 : decode cX1_code 54 = .ok (.lreturn, 1) := by decide +kernel
theorem dX1_code_55 : decode cX1_code 55 = .ok (.iload_n 2, 1) := by decide +kernel
theorem dX1_code_56 : decode cX1_code 56 = .ok (.i2l, 1) := by decide +kernel
theorem dX1_code_57 : decode cX1_code 57 = .ok (.bipush 27, 2) := by decide +kernel
theorem dX1_code_59 : decode cX1_code 59 = .ok (.lshl, 1) := by decide +kernel
theorem dX1_code_60 : decode cX1_code 60 = .ok (.iload_n 3, 1) := by decide +kernel
theorem dX1_code_61 : decode cX1_code 61 = .ok (.i2l, 1) := by decide +kernel
theorem dX1_code_62 : decode cX1_code 62 = .ok (.bipush 23, 2) := by decide +kernel
theorem dX1_code_64 : decode cX1_code 64 = .ok (.lshl, 1) := by decide +kernel
theorem dX1_code_65 : decode cX1_code 65 = .ok (.lor, 1) := by decide +kernel
theorem dX1_code_66 : decode cX1_code 66 = .ok (.iload 4, 2) := by decide +kernel
theorem dX1_code_68 : decode cX1_code 68 = .ok (.ifCond .eq 9, 3) := by decide +kernel
theorem dX1_code_71 : decode cX1_code 71 = .ok (.ldc2_w 29, 3) := by decide +kernel
theorem dX1_code_74 : decode cX1_code 74 = .ok (.goto 4, 3) := by decide +kernel
theorem dX1_code_77 : decode cX1_code 77 = .ok (.lconst 0, 1) := by decide +kernel
theorem dX1_code_78 : decode cX1_code 78 = .ok (.lor, 1) := by decide +kernel
theorem dX1_code_79 : decode cX1_code 79 = .ok (.iload 5, 2) := by decide +kernel
theorem dX1_code_81 : decode cX1_code 81 = .ok (.i2l, 1) := by decide +kernel
theorem dX1_code_82 : decode cX1_code 82 = .ok (.bipush 18, 2) := by decide +kernel
theorem dX1_code_84 : decode cX1_code 84 = .ok (.lshl, 1) := by decide +kernel
theorem dX1_code_85 : decode cX1_code 85 = .ok (.lor, 1) := by decide +kernel
theorem dX1_code_86 : decode cX1_code 86 = .ok (.iload 6, 2) := by decide +kernel
theorem dX1_code_88 : decode cX1_code 88 = .ok (.i2l, 1) := by decide +kernel
theorem dX1_code_89 : decode cX1_code 89 = .ok (.ldc2_w 31, 3) := by decide +kernel
theorem dX1_code_92 : decode cX1_code 92 = .ok (.land, 1) := by decide +kernel
theorem dX1_code_93 : decode cX1_code 93 = .ok (.lor, 1) := by decide +kernel
theorem dX1_code_94 : decode cX1_code 94 = .ok (.lstore 7, 2) := by decide +kernel
theorem dX1_code_96 : decode cX1_code 96 = .ok (.aload_n 0, 1) := by decide +kernel
theorem dX1_code_97 : decode cX1_code 97 = .ok (.getfield 7, 3) := by decide +kernel
theorem dX1_code_100 : decode cX1_code 100 = .ok (.iload_n 1, 1) := by decide +kernel
theorem dX1_code_101 : decode cX1_code 101 = .ok (.lload 7, 2) := by decide +kernel
theorem dX1_code_103 : decode cX1_code 103 = .ok (.lastore, 1) := by decide +kernel
theorem dX1_code_104 : decode cX1_code 104 = .ok (.lload 7, 2) := by decide +kernel
theorem dX1_code_106 : decode cX1_code 106 = .ok (.lreturn, 1) := by decide +kernel
set_option maxRecDepth 20000 in
theorem ggX1_go_X1_isPlace : GoodIn wsX1_go wsX1_isPlace := goodIn_r _ [5, 6] (by decide +kernel) (by decide +kernel)
set_option maxRecDepth 20000 in
theorem gX1_go_X1_isPlace : GoodIn wsX1_go (va_wsS RX1 19 yX1_isPlace wsX1_isPlace) := goodIn_app (goodIn_of _ (by decide +kernel)) ggX1_go_X1_isPlace
set_option maxRecDepth 20000 in
theorem ggX1_go_X1_bad : GoodIn wsX1_go wsX1_bad := goodIn_r _ [10, 11, 12, 13, 14, 15, 16, 17] (by decide +kernel) (by decide +kernel)
set_option maxRecDepth 20000 in
theorem gX1_go_X1_bad : GoodIn wsX1_go (wsV RX1 23 RX1 yX1_bad wsX1_bad) := goodIn_app (goodIn_of _ (by decide +kernel)) ggX1_go_X1_bad
theorem dX1_go_0 : decode cX1_go 0 = .ok (.aload_n 0, 1) := by decide +kernel
theorem dX1_go_1 : decode cX1_go 1 = .ok (.iload_n 1, 1) := by decide +kernel
theorem dX1_go_2 : decode cX1_go 2 = .ok (.i2l, 1) := by decide +kernel
theorem dX1_go_3 : decode cX1_go 3 = .ok (.invokestatic 19, 3) := by decide +kernel
theorem dX1_go_6 : decode cX1_go 6 = .ok (.ifCond .ne 7, 3) := by decide +kernel
theorem dX1_go_9 : decode cX1_go 9 = .ok (.iconst 1, 1) := by decide +kernel
theorem dX1_go_10 : decode cX1_go 10 = .ok (.goto 4, 3) := by decide +kernel
theorem dX1_go_13 : decode cX1_go 13 = .ok (.iconst 0, 1) := by decide +kernel
theorem dX1_go_14 : decode cX1_go 14 = .ok (.invokevirtual 23, 3) := by decide +kernel
theorem dX1_go_17 : decode cX1_go 17 = .ok (.ifCond .ne 8, 3) := by decide +kernel
theorem dX1_go_20 : decode cX1_go 20 = .ok (.aload_n 0, 1) := by decide +kernel
theorem dX1_go_21 : decode cX1_go 21 = .ok (.iload_n 1, 1) := by decide +kernel
theorem dX1_go_22 : decode cX1_go 22 = .ok (.putfield 33, 3) := by decide +kernel
theorem dX1_go_25 : decode cX1_go 25 = .ok (.return_, 1) := by decide +kernel
theorem dX1_number_0 : decode cX1_number 0 = .ok (.lload_n 0, 1) := by decide +kernel
theorem dX1_number_1 : decode cX1_number 1 = .ok (.bipush 28, 2) := by decide +kernel
theorem dX1_number_3 : decode cX1_number 3 = .ok (.lshl, 1) := by decide +kernel
theorem dX1_number_4 : decode cX1_number 4 = .ok (.bipush 28, 2) := by decide +kernel
theorem dX1_number_6 : decode cX1_number 6 = .ok (.lshr, 1) := by decide +kernel
theorem dX1_number_7 : decode cX1_number 7 = .ok (.lreturn, 1) := by decide +kernel
set_option maxRecDepth 20000 in
theorem ggX1_at_X1_isPlace : GoodIn wsX1_at wsX1_isPlace := goodIn_r _ [6, 7] (by decide +kernel) (by decide +kernel)
set_option maxRecDepth 20000 in
theorem gX1_at_X1_isPlace : GoodIn wsX1_at (va_wsS RX1 19 yX1_isPlace wsX1_isPlace) := goodIn_app (goodIn_of _ (by decide +kernel)) ggX1_at_X1_isPlace
theorem dX1_at_0 : decode cX1_at 0 = .ok (.lload_n 1, 1) := by decide +kernel
theorem dX1_at_1 : decode cX1_at 1 = .ok (.invokestatic 19, 3) := by decide +kernel
theorem dX1_at_4 : decode cX1_at 4 = .ok (.ifCond .eq 11, 3) := by decide +kernel
theorem dX1_at_7 : decode cX1_at 7 = .ok (.aload_n 0, 1) := by decide +kernel
theorem dX1_at_8 : decode cX1_at 8 = .ok (.getfield 7, 3) := by decide +kernel
theorem dX1_at_11 : decode cX1_at 11 = .ok (.lload_n 1, 1) := by decide +kernel
theorem dX1_at_12 : decode cX1_at 12 = .ok (.l2i, 1) := by decide +kernel
theorem dX1_at_13 : decode cX1_at 13 = .ok (.laload, 1) := by decide +kernel
theorem dX1_at_14 : decode cX1_at 14 = .ok (.lreturn, 1) := by decide +kernel
theorem dX1_at_15 : decode cX1_at 15 = .ok (.aload_n 0, 1) := by decide +kernel
theorem dX1_at_16 : decode cX1_at 16 = .ok (.iconst 2, 1) := by decide +kernel
theorem dX1_at_17 : decode cX1_at 17 = .ok (.putfield 36, 3) := by decide +kernel
theorem dX1_at_20 : decode cX1_at 20 = .ok (.lconst 0, 1) := by decide +kernel
theorem dX1_at_21 : decode cX1_at 21 = .ok (.lreturn, 1) := by decide +kernel
set_option maxRecDepth 20000 in
theorem ggX1_effective_X1_at : GoodIn wsX1_effective wsX1_at := goodIn_r _ [9, 3, 4, 10, 11, 8, 12, 13, 14, 15, 16, 17, 18, 19] (by decide +kernel) (by decide +kernel)
set_option maxRecDepth 20000 in
theorem gX1_effective_X1_at : GoodIn wsX1_effective (wsV RX1 41 RX1 yX1_at wsX1_at) := goodIn_app (goodIn_of _ (by decide +kernel)) ggX1_effective_X1_at
theorem dX1_effective_0 : decode cX1_effective 0 = .ok (.lload_n 1, 1) := by decide +kernel
theorem dX1_effective_1 : decode cX1_effective 1 = .ok (.lstore_n 3, 1) := by decide +kernel
theorem dX1_effective_2 : decode cX1_effective 2 = .ok (.iconst 0, 1) := by decide +kernel
theorem dX1_effective_3 : decode cX1_effective 3 = .ok (.istore 5, 2) := by decide +kernel
theorem dX1_effective_5 : decode cX1_effective 5 = .ok (.lload_n 3, 1) := by decide +kernel
theorem dX1_effective_6 : decode cX1_effective 6 = .ok (.bipush 18, 2) := by decide +kernel
theorem dX1_effective_8 : decode cX1_effective 8 = .ok (.lshr, 1) := by decide +kernel
theorem dX1_effective_9 : decode cX1_effective 9 = .ok (.ldc2_w 39, 3) := by decide +kernel
theorem dX1_effective_12 : decode cX1_effective 12 = .ok (.land, 1) := by decide +kernel
theorem dX1_effective_13 : decode cX1_effective 13 = .ok (.l2i, 1) := by decide +kernel
theorem dX1_effective_14 : decode cX1_effective 14 = .ok (.istore 6, 2) := by decide +kernel
theorem dX1_effective_16 : decode cX1_effective 16 = .ok (.lload_n 3, 1) := by decide +kernel
theorem dX1_effective_17 : decode cX1_effective 17 = .ok (.ldc2_w 31, 3) := by decide +kernel
theorem dX1_effective_20 : decode cX1_effective 20 = .ok (.land, 1) := by decide +kernel
theorem dX1_effective_21 : decode cX1_effective 21 = .ok (.iload 6, 2) := by decide +kernel
theorem dX1_effective_23 : decode cX1_effective 23 = .ok (.ifCond .ne 7, 3) := by decide +kernel
theorem dX1_effective_26 : decode cX1_effective 26 = .ok (.lconst 0, 1) := by decide +kernel
theorem dX1_effective_27 : decode cX1_effective 27 = .ok (.goto 10, 3) := by decide +kernel
theorem dX1_effective_30 : decode cX1_effective 30 = .ok (.aload_n 0, 1) := by decide +kernel
theorem dX1_effective_31 : decode cX1_effective 31 = .ok (.getfield 7, 3) := by decide +kernel
theorem dX1_effective_34 : decode cX1_effective 34 = .ok (.iload 6, 2) := by decide +kernel
theorem dX1_effective_36 : decode cX1_effective 36 = .ok (.laload, 1) := by decide +kernel
theorem dX1_effective_37 : decode cX1_effective 37 = .ok (.ladd, 1) := by decide +kernel
theorem dX1_effective_38 : decode cX1_effective 38 = .ok (.ldc2_w 31, 3) := by decide +kernel
theorem dX1_effective_41 : decode cX1_effective 41 = .ok (.land, 1) := by decide +kernel
theorem dX1_effective_42 : decode cX1_effective 42 = .ok (.lstore 7, 2) := by decide +kernel
theorem dX1_effective_44 : decode cX1_effective 44 = .ok (.lload_n 3, 1) := by decide +kernel
theorem dX1_effective_45 : decode cX1_effective 45 = .ok (.bipush 22, 2) := by decide +kernel
theorem dX1_effective_47 : decode cX1_effective 47 = .ok (.lshr, 1) := by decide +kernel
theorem dX1_effective_48 : decode cX1_effective 48 = .ok (.lconst 1, 1) := by decide +kernel
theorem dX1_effective_49 : decode cX1_effective 49 = .ok (.land, 1) := by decide +kernel
theorem dX1_effective_50 : decode cX1_effective 50 = .ok (.lconst 0, 1) := by decide +kernel
theorem dX1_effective_51 : decode cX1_effective 51 = .ok (.lcmp, 1) := by decide +kernel
theorem dX1_effective_52 : decode cX1_effective 52 = .ok (.ifCond .eq 10, 3) := by decide +kernel
theorem dX1_effective_55 : decode cX1_effective 55 = .ok (.iload 5, 2) := by decide +kernel
theorem dX1_effective_57 : decode cX1_effective 57 = .ok (.bipush 20, 2) := by decide +kernel
theorem dX1_effective_59 : decode cX1_effective 59 = .ok (.if_icmp .ne 6, 3) := by decide +kernel
theorem dX1_effective_62 : decode cX1_effective 62 = .ok (.lload 7, 2) := by decide +kernel
theorem dX1_effective_64 : decode cX1_effective 64 = .ok (.lreturn, 1) := by decide +kernel
theorem dX1_effective_65 : decode cX1_effective 65 = .ok (.aload_n 0, 1) := by decide +kernel
theorem dX1_effective_66 : decode cX1_effective 66 = .ok (.lload 7, 2) := by decide +kernel
theorem dX1_effective_68 : decode cX1_effective 68 = .ok (.invokevirtual 41, 3) := by decide +kernel
theorem dX1_effective_71 : decode cX1_effective 71 = .ok (.lstore_n 3, 1) := by decide +kernel
theorem dX1_effective_72 : decode cX1_effective 72 = .ok (.aload_n 0, 1) := by decide +kernel
theorem dX1_effective_73 : decode cX1_effective 73 = .ok (.getfield 36, 3) := by decide +kernel
theorem dX1_effective_76 : decode cX1_effective 76 = .ok (.ifCond .eq 5, 3) := by decide +kernel
theorem dX1_effective_79 : decode cX1_effective 79 = .ok (.lconst 0, 1) := by decide +kernel
theorem dX1_effective_80 : decode cX1_effective 80 = .ok (.lreturn, 1) := by decide +kernel
theorem dX1_effective_81 : decode cX1_effective 81 = .ok (.iinc 5 1, 3) := by decide +kernel
theorem dX1_effective_84 : decode cX1_effective 84 = .ok (.goto (-79), 3) := by decide +kernel
theorem dX1_is_0 : decode cX1_is 0 = .ok (.iload_n 0, 1) := by decide +kernel
theorem dX1_is_1 : decode cX1_is 1 = .ok (.bipush 7, 2) := by decide +kernel
theorem dX1_is_3 : decode cX1_is 3 = .ok (.iand, 1) := by decide +kernel
theorem dX1_is_4 : decode cX1_is 4 = .ok (.tableswitch 108 0 6 #[44, 46, 58, 70, 82, 84, 96], 44) := by decide +kernel
theorem dX1_is_48 : decode cX1_is 48 = .ok (.iconst 0, 1) := by decide +kernel
theorem dX1_is_49 : decode cX1_is 49 = .ok (.ireturn, 1) := by decide +kernel
theorem dX1_is_50 : decode cX1_is 50 = .ok (.lload_n 1, 1) := by decide +kernel
theorem dX1_is_51 : decode cX1_is 51 = .ok (.lload_n 3, 1) := by decide +kernel
theorem dX1_is_52 : decode cX1_is 52 = .ok (.lcmp, 1) := by decide +kernel
theorem dX1_is_53 : decode cX1_is 53 = .ok (.ifCond .ge 7, 3) := by decide +kernel
theorem dX1_is_56 : decode cX1_is 56 = .ok (.iconst 1, 1) := by decide +kernel
theorem dX1_is_57 : decode cX1_is 57 = .ok (.goto 4, 3) := by decide +kernel
theorem dX1_is_60 : decode cX1_is 60 = .ok (.iconst 0, 1) := by decide +kernel
theorem dX1_is_61 : decode cX1_is 61 = .ok (.ireturn, 1) := by decide +kernel
theorem dX1_is_62 : decode cX1_is 62 = .ok (.lload_n 1, 1) := by decide +kernel
theorem dX1_is_63 : decode cX1_is 63 = .ok (.lload_n 3, 1) := by decide +kernel
theorem dX1_is_64 : decode cX1_is 64 = .ok (.lcmp, 1) := by decide +kernel
theorem dX1_is_65 : decode cX1_is 65 = .ok (.ifCond .ne 7, 3) := by decide +kernel
theorem dX1_is_68 : decode cX1_is 68 = .ok (.iconst 1, 1) := by decide +kernel
theorem dX1_is_69 : decode cX1_is 69 = .ok (.goto 4, 3) := by decide +kernel
theorem dX1_is_72 : decode cX1_is 72 = .ok (.iconst 0, 1) := by decide +kernel
theorem dX1_is_73 : decode cX1_is 73 = .ok (.ireturn, 1) := by decide +kernel
theorem dX1_is_74 : decode cX1_is 74 = .ok (.lload_n 1, 1) := by decide +kernel
theorem dX1_is_75 : decode cX1_is 75 = .ok (.lload_n 3, 1) := by decide +kernel
theorem dX1_is_76 : decode cX1_is 76 = .ok (.lcmp, 1) := by decide +kernel
theorem dX1_is_77 : decode cX1_is 77 = .ok (.ifCond .gt 7, 3) := by decide +kernel
theorem dX1_is_80 : decode cX1_is 80 = .ok (.iconst 1, 1) := by decide +kernel
theorem dX1_is_81 : decode cX1_is 81 = .ok (.goto 4, 3) := by decide +kernel
theorem dX1_is_84 : decode cX1_is 84 = .ok (.iconst 0, 1) := by decide +kernel
theorem dX1_is_85 : decode cX1_is 85 = .ok (.ireturn, 1) := by decide +kernel
theorem dX1_is_86 : decode cX1_is 86 = .ok (.iconst 1, 1) := by decide +kernel
theorem dX1_is_87 : decode cX1_is 87 = .ok (.ireturn, 1) := by decide +kernel
theorem dX1_is_88 : decode cX1_is 88 = .ok (.lload_n 1, 1) := by decide +kernel
theorem dX1_is_89 : decode cX1_is 89 = .ok (.lload_n 3, 1) := by decide +kernel
theorem dX1_is_90 : decode cX1_is 90 = .ok (.lcmp, 1) := by decide +kernel
theorem dX1_is_91 : decode cX1_is 91 = .ok (.ifCond .lt 7, 3) := by decide +kernel
theorem dX1_is_94 : decode cX1_is 94 = .ok (.iconst 1, 1) := by decide +kernel
theorem dX1_is_95 : decode cX1_is 95 = .ok (.goto 4, 3) := by decide +kernel
theorem dX1_is_98 : decode cX1_is 98 = .ok (.iconst 0, 1) := by decide +kernel
theorem dX1_is_99 : decode cX1_is 99 = .ok (.ireturn, 1) := by decide +kernel
theorem dX1_is_100 : decode cX1_is 100 = .ok (.lload_n 1, 1) := by decide +kernel
theorem dX1_is_101 : decode cX1_is 101 = .ok (.lload_n 3, 1) := by decide +kernel
theorem dX1_is_102 : decode cX1_is 102 = .ok (.lcmp, 1) := by decide +kernel
theorem dX1_is_103 : decode cX1_is 103 = .ok (.ifCond .eq 7, 3) := by decide +kernel
theorem dX1_is_106 : decode cX1_is 106 = .ok (.iconst 1, 1) := by decide +kernel
theorem dX1_is_107 : decode cX1_is 107 = .ok (.goto 4, 3) := by decide +kernel
theorem dX1_is_110 : decode cX1_is 110 = .ok (.iconst 0, 1) := by decide +kernel
theorem dX1_is_111 : decode cX1_is 111 = .ok (.ireturn, 1) := by decide +kernel
theorem dX1_is_112 : decode cX1_is 112 = .ok (.lload_n 1, 1) := by decide +kernel
theorem dX1_is_113 : decode cX1_is 113 = .ok (.lload_n 3, 1) := by decide +kernel
theorem dX1_is_114 : decode cX1_is 114 = .ok (.lcmp, 1) := by decide +kernel
theorem dX1_is_115 : decode cX1_is 115 = .ok (.ifCond .le 7, 3) := by decide +kernel
theorem dX1_is_118 : decode cX1_is 118 = .ok (.iconst 1, 1) := by decide +kernel
theorem dX1_is_119 : decode cX1_is 119 = .ok (.goto 4, 3) := by decide +kernel
theorem dX1_is_122 : decode cX1_is 122 = .ok (.iconst 0, 1) := by decide +kernel
theorem dX1_is_123 : decode cX1_is 123 = .ok (.ireturn, 1) := by decide +kernel
theorem dX1_isKnown_0 : decode cX1_isKnown 0 = .ok (.iload_n 0, 1) := by decide +kernel
theorem dX1_isKnown_1 : decode cX1_isKnown 1 = .ok (.lookupswitch 317 #[(0, 315), (128, 315), (129, 315), (130, 315), (132, 315), (136, 315), (140, 315), (144, 315), (145, 315), (152, 315), (153, 315), (162, 315), (168, 315), (172, 315), (176, 315), (177, 315), (178, 315), (179, 315), (180, 315), (184, 315), (185, 315), (188, 315), (189, 315), (256, 315), (258, 315), (260, 315), (261, 315), (280, 315), (281, 315), (284, 315), (285, 315), (296, 315), (320, 315), (324, 315), (352, 315), (356, 315), (360, 315), (364, 315)], 315) := by decide +kernel
theorem dX1_isKnown_316 : decode cX1_isKnown 316 = .ok (.iconst 1, 1) := by decide +kernel
theorem dX1_isKnown_317 : decode cX1_isKnown 317 = .ok (.ireturn, 1) := by decide +kernel
theorem dX1_isKnown_318 : decode cX1_isKnown 318 = .ok (.iload_n 0, 1) := by decide +kernel
theorem dX1_isKnown_319 : decode cX1_isKnown 319 = .ok (.sipush 192, 3) := by decide +kernel
theorem dX1_isKnown_322 : decode cX1_isKnown 322 = .ok (.if_icmp .lt 14, 3) := by decide +kernel
theorem dX1_isKnown_325 : decode cX1_isKnown 325 = .ok (.iload_n 0, 1) := by decide +kernel
theorem dX1_isKnown_326 : decode cX1_isKnown 326 = .ok (.sipush 255, 3) := by decide +kernel
theorem dX1_isKnown_329 : decode cX1_isKnown 329 = .ok (.if_icmp .gt 7, 3) := by decide +kernel
theorem dX1_isKnown_332 : decode cX1_isKnown 332 = .ok (.iconst 1, 1) := by decide +kernel
theorem dX1_isKnown_333 : decode cX1_isKnown 333 = .ok (.goto 4, 3) := by decide +kernel
theorem dX1_isKnown_336 : decode cX1_isKnown 336 = .ok (.iconst 0, 1) := by decide +kernel
theorem dX1_isKnown_337 : decode cX1_isKnown 337 = .ok (.ireturn, 1) := by decide +kernel
set_option maxRecDepth 20000 in
theorem ggX1_run_X1_bad : GoodIn wsX1_run wsX1_bad := goodIn_r _ [11, 12, 72, 73, 74, 75, 76, 77] (by decide +kernel) (by decide +kernel)
set_option maxRecDepth 20000 in
theorem gX1_run_X1_bad : GoodIn wsX1_run (wsV RX1 23 RX1 yX1_bad wsX1_bad) := goodIn_app (goodIn_of _ (by decide +kernel)) ggX1_run_X1_bad
set_option maxRecDepth 20000 in
theorem ggX1_run_X1_isKnown : GoodIn wsX1_run wsX1_isKnown := goodIn_r _ [15] (by decide +kernel) (by decide +kernel)
set_option maxRecDepth 20000 in
theorem gX1_run_X1_isKnown : GoodIn wsX1_run (va_wsS RX1 48 yX1_isKnown wsX1_isKnown) := goodIn_app (goodIn_of _ (by decide +kernel)) ggX1_run_X1_isKnown
set_option maxRecDepth 20000 in
theorem ggX1_run_X1_effective : GoodIn wsX1_run wsX1_effective := goodIn_r _ [19, 6, 20, 2, 4, 21, 22, 23, 10, 24, 25, 26, 27, 28, 72, 73, 74, 75, 76, 77] (by decide +kernel) (by decide +kernel)
set_option maxRecDepth 20000 in
theorem gX1_run_X1_effective : GoodIn wsX1_run (wsV RX1 56 RX1 yX1_effective wsX1_effective) := goodIn_app (goodIn_of _ (by decide +kernel)) ggX1_run_X1_effective
set_option maxRecDepth 20000 in
theorem ggX1_run_X1_one : GoodIn wsX1_run wsX1_one := goodIn_r _ [32, 4, 3, 33, 34, 10, 35, 21, 22, 23, 24, 2, 25, 26, 27, 28, 36, 37, 38, 39, 40, 41, 42, 43, 44, 45, 46, 47, 48, 49, 50, 51, 20, 52, 53, 54, 55, 56, 57, 58, 59, 60, 61, 62, 63, 64, 65, 66, 67, 68, 69, 70, 71, 72, 73, 74, 75, 76, 77] rfl (by decide +kernel)
set_option maxRecDepth 20000 in
theorem gX1_run_X1_one : GoodIn wsX1_run (wsV RX1 59 RX1 yX1_one wsX1_one) := goodIn_app (goodIn_of _ (by decide +kernel)) ggX1_run_X1_one
theorem dX1_run_0 : decode cX1_run 0 = .ok (.aload_n 0, 1) := by decide +kernel
theorem dX1_run_1 : decode cX1_run 1 = .ok (.iload_n 1, 1) := by decide +kernel
theorem dX1_run_2 : decode cX1_run 2 = .ok (.ifCond .lt 10, 3) := by decide +kernel
theorem dX1_run_5 : decode cX1_run 5 = .ok (.iload_n 1, 1) := by decide +kernel
theorem dX1_run_6 : decode cX1_run 6 = .ok (.sipush 20000, 3) := by decide +kernel
theorem dX1_run_9 : decode cX1_run 9 = .ok (.if_icmp .le 7, 3) := by decide +kernel
theorem dX1_run_12 : decode cX1_run 12 = .ok (.iconst 1, 1) := by decide +kernel
theorem dX1_run_13 : decode cX1_run 13 = .ok (.goto 4, 3) := by decide +kernel
theorem dX1_run_16 : decode cX1_run 16 = .ok (.iconst 0, 1) := by decide +kernel
theorem dX1_run_17 : decode cX1_run 17 = .ok (.invokevirtual 23, 3) := by decide +kernel
theorem dX1_run_20 : decode cX1_run 20 = .ok (.ifCond .eq 5, 3) := by decide +kernel
theorem dX1_run_23 : decode cX1_run 23 = .ok (.iconst 0, 1) := by decide +kernel
theorem dX1_run_24 : decode cX1_run 24 = .ok (.ireturn, 1) := by decide +kernel
theorem dX1_run_25 : decode cX1_run 25 = .ok (.aload_n 0, 1) := by decide +kernel
theorem dX1_run_26 : decode cX1_run 26 = .ok (.iconst 0, 1) := by decide +kernel
theorem dX1_run_27 : decode cX1_run 27 = .ok (.putfield 45, 3) := by decide +kernel
theorem dX1_run_30 : decode cX1_run 30 = .ok (.aload_n 0, 1) := by decide +kernel
theorem dX1_run_31 : decode cX1_run 31 = .ok (.getfield 45, 3) := by decide +kernel
theorem dX1_run_34 : decode cX1_run 34 = .ok (.iload_n 1, 1) := by decide +kernel
theorem dX1_run_35 : decode cX1_run 35 = .ok (.if_icmp .ge 140, 3) := by decide +kernel
theorem dX1_run_38 : decode cX1_run 38 = .ok (.aload_n 0, 1) := by decide +kernel
theorem dX1_run_39 : decode cX1_run 39 = .ok (.getfield 7, 3) := by decide +kernel
theorem dX1_run_42 : decode cX1_run 42 = .ok (.aload_n 0, 1) := by decide +kernel
theorem dX1_run_43 : decode cX1_run 43 = .ok (.getfield 33, 3) := by decide +kernel
theorem dX1_run_46 : decode cX1_run 46 = .ok (.laload, 1) := by decide +kernel
theorem dX1_run_47 : decode cX1_run 47 = .ok (.lstore_n 2, 1) := by decide +kernel
theorem dX1_run_48 : decode cX1_run 48 = .ok (.lload_n 2, 1) := by decide +kernel
theorem dX1_run_49 : decode cX1_run 49 = .ok (.bipush 27, 2) := by decide +kernel
theorem dX1_run_51 : decode cX1_run 51 = .ok (.lshr, 1) := by decide +kernel
theorem dX1_run_52 : decode cX1_run 52 = .ok (.l2i, 1) := by decide +kernel
theorem dX1_run_53 : decode cX1_run 53 = .ok (.istore 4, 2) := by decide +kernel
theorem dX1_run_55 : decode cX1_run 55 = .ok (.aload_n 0, 1) := by decide +kernel
theorem dX1_run_56 : decode cX1_run 56 = .ok (.iload 4, 2) := by decide +kernel
theorem dX1_run_58 : decode cX1_run 58 = .ok (.invokestatic 48, 3) := by decide +kernel
theorem dX1_run_61 : decode cX1_run 61 = .ok (.ifCond .eq 7, 3) := by decide +kernel
theorem dX1_run_64 : decode cX1_run 64 = .ok (.iconst 0, 1) := by decide +kernel
theorem dX1_run_65 : decode cX1_run 65 = .ok (.goto 4, 3) := by decide +kernel
theorem dX1_run_68 : decode cX1_run 68 = .ok (.iconst 1, 1) := by decide +kernel
theorem dX1_run_69 : decode cX1_run 69 = .ok (.putfield 36, 3) := by decide +kernel
theorem dX1_run_72 : decode cX1_run 72 = .ok (.iload 4, 2) := by decide +kernel
theorem dX1_run_74 : decode cX1_run 74 = .ok (.ifCond .ne 39, 3) := by decide +kernel
theorem dX1_run_77 : decode cX1_run 77 = .ok (.aload_n 0, 1) := by decide +kernel
theorem dX1_run_78 : decode cX1_run 78 = .ok (.aload_n 0, 1) := by decide +kernel
theorem dX1_run_79 : decode cX1_run 79 = .ok (.getfield 33, 3) := by decide +kernel
theorem dX1_run_82 : decode cX1_run 82 = .ok (.iconst 1, 1) := by decide +kernel
theorem dX1_run_83 : decode cX1_run 83 = .ok (.iadd, 1) := by decide +kernel
theorem dX1_run_84 : decode cX1_run 84 = .ok (.sipush 4095, 3) := by decide +kernel
theorem dX1_run_87 : decode cX1_run 87 = .ok (.iand, 1) := by decide +kernel
theorem dX1_run_88 : decode cX1_run 88 = .ok (.putfield 33, 3) := by decide +kernel
theorem dX1_run_91 : decode cX1_run 91 = .ok (.aload_n 0, 1) := by decide +kernel
theorem dX1_run_92 : decode cX1_run 92 = .ok (.dup, 1) := by decide +kernel
theorem dX1_run_93 : decode cX1_run 93 = .ok (.getfield 45, 3) := by decide +kernel
theorem dX1_run_96 : decode cX1_run 96 = .ok (.iconst 1, 1) := by decide +kernel
theorem dX1_run_97 : decode cX1_run 97 = .ok (.iadd, 1) := by decide +kernel
theorem dX1_run_98 : decode cX1_run 98 = .ok (.putfield 45, 3) := by decide +kernel
theorem dX1_run_101 : decode cX1_run 101 = .ok (.aload_n 0, 1) := by decide +kernel
theorem dX1_run_102 : decode cX1_run 102 = .ok (.dup, 1) := by decide +kernel
theorem dX1_run_103 : decode cX1_run 103 = .ok (.getfield 52, 3) := by decide +kernel
theorem dX1_run_106 : decode cX1_run 106 = .ok (.lconst 1, 1) := by decide +kernel
theorem dX1_run_107 : decode cX1_run 107 = .ok (.ladd, 1) := by decide +kernel
theorem dX1_run_108 : decode cX1_run 108 = .ok (.putfield 52, 3) := by decide +kernel
theorem dX1_run_111 : decode cX1_run 111 = .ok (.iconst (-1), 1) := by decide +kernel
theorem dX1_run_112 : decode cX1_run 112 = .ok (.ireturn, 1) := by decide +kernel
theorem dX1_run_113 : decode cX1_run 113 = .ok (.aload_n 0, 1) := by decide +kernel
theorem dX1_run_114 : decode cX1_run 114 = .ok (.getfield 36, 3) := by decide +kernel
theorem dX1_run_117 : decode cX1_run 117 = .ok (.ifCond .ne 23, 3) := by decide +kernel
theorem dX1_run_120 : decode cX1_run 120 = .ok (.aload_n 0, 1) := by decide +kernel
theorem dX1_run_121 : decode cX1_run 121 = .ok (.iload 4, 2) := by decide +kernel
theorem dX1_run_123 : decode cX1_run 123 = .ok (.lload_n 2, 1) := by decide +kernel
theorem dX1_run_124 : decode cX1_run 124 = .ok (.bipush 23, 2) := by decide +kernel
theorem dX1_run_126 : decode cX1_run 126 = .ok (.lshr, 1) := by decide +kernel
theorem dX1_run_127 : decode cX1_run 127 = .ok (.ldc2_w 39, 3) := by decide +kernel
theorem dX1_run_130 : decode cX1_run 130 = .ok (.land, 1) := by decide +kernel
theorem dX1_run_131 : decode cX1_run 131 = .ok (.l2i, 1) := by decide +kernel
theorem dX1_run_132 : decode cX1_run 132 = .ok (.aload_n 0, 1) := by decide +kernel
theorem dX1_run_133 : decode cX1_run 133 = .ok (.lload_n 2, 1) := by decide +kernel
theorem dX1_run_134 : decode cX1_run 134 = .ok (.invokevirtual 56, 3) := by decide +kernel
theorem dX1_run_137 : decode cX1_run 137 = .ok (.invokevirtual 59, 3) := by decide +kernel
theorem dX1_run_140 : decode cX1_run 140 = .ok (.aload_n 0, 1) := by decide +kernel
theorem dX1_run_141 : decode cX1_run 141 = .ok (.getfield 36, 3) := by decide +kernel
theorem dX1_run_144 : decode cX1_run 144 = .ok (.ifCond .eq 8, 3) := by decide +kernel
theorem dX1_run_147 : decode cX1_run 147 = .ok (.aload_n 0, 1) := by decide +kernel
theorem dX1_run_148 : decode cX1_run 148 = .ok (.getfield 36, 3) := by decide +kernel
theorem dX1_run_151 : decode cX1_run 151 = .ok (.ireturn, 1) := by decide +kernel
theorem dX1_run_152 : decode cX1_run 152 = .ok (.aload_n 0, 1) := by decide +kernel
theorem dX1_run_153 : decode cX1_run 153 = .ok (.dup, 1) := by decide +kernel
theorem dX1_run_154 : decode cX1_run 154 = .ok (.getfield 45, 3) := by decide +kernel
theorem dX1_run_157 : decode cX1_run 157 = .ok (.iconst 1, 1) := by decide +kernel
theorem dX1_run_158 : decode cX1_run 158 = .ok (.iadd, 1) := by decide +kernel
theorem dX1_run_159 : decode cX1_run 159 = .ok (.putfield 45, 3) := by decide +kernel
theorem dX1_run_162 : decode cX1_run 162 = .ok (.aload_n 0, 1) := by decide +kernel
theorem dX1_run_163 : decode cX1_run 163 = .ok (.dup, 1) := by decide +kernel
theorem dX1_run_164 : decode cX1_run 164 = .ok (.getfield 52, 3) := by decide +kernel
theorem dX1_run_167 : decode cX1_run 167 = .ok (.lconst 1, 1) := by decide +kernel
theorem dX1_run_168 : decode cX1_run 168 = .ok (.ladd, 1) := by decide +kernel
theorem dX1_run_169 : decode cX1_run 169 = .ok (.putfield 52, 3) := by decide +kernel
theorem dX1_run_172 : decode cX1_run 172 = .ok (.goto (-142), 3) := by decide +kernel
theorem dX1_run_175 : decode cX1_run 175 = .ok (.iconst 0, 1) := by decide +kernel
theorem dX1_run_176 : decode cX1_run 176 = .ok (.ireturn, 1) := by decide +kernel
set_option maxRecDepth 20000 in
theorem ggX1_one_X1_needsWord : GoodIn wsX1_one wsX1_needsWord := goodIn_r _ [6] (by decide +kernel) (by decide +kernel)
set_option maxRecDepth 20000 in
theorem gX1_one_X1_needsWord : GoodIn wsX1_one (va_wsS RX1 63 yX1_needsWord wsX1_needsWord) := goodIn_app (goodIn_of _ (by decide +kernel)) ggX1_one_X1_needsWord
set_option maxRecDepth 20000 in
theorem ggX1_one_X1_at : GoodIn wsX1_one wsX1_at := goodIn_r _ [10, 11, 1, 12, 13, 5, 14, 15, 53, 54, 55, 56, 57, 58] (by decide +kernel) (by decide +kernel)
set_option maxRecDepth 20000 in
theorem gX1_one_X1_at : GoodIn wsX1_one (wsV RX1 41 RX1 yX1_at wsX1_at) := goodIn_app (goodIn_of _ (by decide +kernel)) ggX1_one_X1_at
set_option maxRecDepth 20000 in
theorem ggX1_one_X1_tested : GoodIn wsX1_one wsX1_tested := goodIn_r _ [19, 11, 20, 21, 22, 23, 5, 24, 25, 26, 27, 53, 54, 55, 56, 57, 58] (by decide +kernel) (by decide +kernel)
set_option maxRecDepth 20000 in
theorem gX1_one_X1_tested : GoodIn wsX1_one (wsV RX1 66 RX1 yX1_tested wsX1_tested) := goodIn_app (goodIn_of _ (by decide +kernel)) ggX1_one_X1_tested
set_option maxRecDepth 20000 in
theorem ggX1_one_X1_piled : GoodIn wsX1_one wsX1_piled := goodIn_r _ [31, 11, 20, 32, 1, 7, 8, 9, 5, 10, 12, 13, 14, 15, 33, 34, 35, 36, 53, 54, 55, 56, 57, 58] (by decide +kernel) (by decide +kernel)
set_option maxRecDepth 20000 in
theorem gX1_one_X1_piled : GoodIn wsX1_one (wsV RX1 70 RX1 yX1_piled wsX1_piled) := goodIn_app (goodIn_of _ (by decide +kernel)) ggX1_one_X1_piled
set_option maxRecDepth 20000 in
theorem ggX1_one_X1_moved : GoodIn wsX1_one wsX1_moved := goodIn_r _ [40, 11, 32, 21, 41, 42, 22, 23, 5, 24, 43, 44, 45, 46, 47, 48, 1, 49, 50, 51, 52, 33, 34, 35, 36, 53, 54, 55, 56, 57, 58] (by decide +kernel) (by decide +kernel)
set_option maxRecDepth 20000 in
theorem gX1_one_X1_moved : GoodIn wsX1_one (wsV RX1 73 RX1 yX1_moved wsX1_moved) := goodIn_app (goodIn_of _ (by decide +kernel)) ggX1_one_X1_moved
theorem dX1_one_0 : decode cX1_one 0 = .ok (.aload_n 0, 1) := by decide +kernel
theorem dX1_one_1 : decode cX1_one 1 = .ok (.getfield 36, 3) := by decide +kernel
theorem dX1_one_4 : decode cX1_one 4 = .ok (.ifCond .eq 4, 3) := by decide +kernel
theorem dX1_one_7 : decode cX1_one 7 = .ok (.return_, 1) := by decide +kernel
theorem dX1_one_8 : decode cX1_one 8 = .ok (.iload_n 1, 1) := by decide +kernel
theorem dX1_one_9 : decode cX1_one 9 = .ok (.invokestatic 63, 3) := by decide +kernel
theorem dX1_one_12 : decode cX1_one 12 = .ok (.istore 5, 2) := by decide +kernel
theorem dX1_one_14 : decode cX1_one 14 = .ok (.iload 5, 2) := by decide +kernel
theorem dX1_one_16 : decode cX1_one 16 = .ok (.ifCond .eq 11, 3) := by decide +kernel
theorem dX1_one_19 : decode cX1_one 19 = .ok (.aload_n 0, 1) := by decide +kernel
theorem dX1_one_20 : decode cX1_one 20 = .ok (.lload_n 3, 1) := by decide +kernel
theorem dX1_one_21 : decode cX1_one 21 = .ok (.invokevirtual 41, 3) := by decide +kernel
theorem dX1_one_24 : decode cX1_one 24 = .ok (.goto 4, 3) := by decide +kernel
theorem dX1_one_27 : decode cX1_one 27 = .ok (.lconst 0, 1) := by decide +kernel
theorem dX1_one_28 : decode cX1_one 28 = .ok (.lstore 6, 2) := by decide +kernel
theorem dX1_one_30 : decode cX1_one 30 = .ok (.aload_n 0, 1) := by decide +kernel
theorem dX1_one_31 : decode cX1_one 31 = .ok (.getfield 36, 3) := by decide +kernel
theorem dX1_one_34 : decode cX1_one 34 = .ok (.ifCond .eq 4, 3) := by decide +kernel
theorem dX1_one_37 : decode cX1_one 37 = .ok (.return_, 1) := by decide +kernel
theorem dX1_one_38 : decode cX1_one 38 = .ok (.aload_n 0, 1) := by decide +kernel
theorem dX1_one_39 : decode cX1_one 39 = .ok (.getfield 33, 3) := by decide +kernel
theorem dX1_one_42 : decode cX1_one 42 = .ok (.iconst 1, 1) := by decide +kernel
theorem dX1_one_43 : decode cX1_one 43 = .ok (.iadd, 1) := by decide +kernel
theorem dX1_one_44 : decode cX1_one 44 = .ok (.sipush 4095, 3) := by decide +kernel
theorem dX1_one_47 : decode cX1_one 47 = .ok (.iand, 1) := by decide +kernel
theorem dX1_one_48 : decode cX1_one 48 = .ok (.istore 8, 2) := by decide +kernel
theorem dX1_one_50 : decode cX1_one 50 = .ok (.iload_n 1, 1) := by decide +kernel
theorem dX1_one_51 : decode cX1_one 51 = .ok (.sipush 192, 3) := by decide +kernel
theorem dX1_one_54 : decode cX1_one 54 = .ok (.if_icmp .lt 26, 3) := by decide +kernel
theorem dX1_one_57 : decode cX1_one 57 = .ok (.iload_n 1, 1) := by decide +kernel
theorem dX1_one_58 : decode cX1_one 58 = .ok (.sipush 255, 3) := by decide +kernel
theorem dX1_one_61 : decode cX1_one 61 = .ok (.if_icmp .gt 19, 3) := by decide +kernel
theorem dX1_one_64 : decode cX1_one 64 = .ok (.aload_n 0, 1) := by decide +kernel
theorem dX1_one_65 : decode cX1_one 65 = .ok (.iload_n 1, 1) := by decide +kernel
theorem dX1_one_66 : decode cX1_one 66 = .ok (.iload_n 2, 1) := by decide +kernel
theorem dX1_one_67 : decode cX1_one 67 = .ok (.lload_n 3, 1) := by decide +kernel
theorem dX1_one_68 : decode cX1_one 68 = .ok (.lload 6, 2) := by decide +kernel
theorem dX1_one_70 : decode cX1_one 70 = .ok (.iload 8, 2) := by decide +kernel
theorem dX1_one_72 : decode cX1_one 72 = .ok (.invokevirtual 66, 3) := by decide +kernel
theorem dX1_one_75 : decode cX1_one 75 = .ok (.istore 8, 2) := by decide +kernel
theorem dX1_one_77 : decode cX1_one 77 = .ok (.goto 42, 3) := by decide +kernel
theorem dX1_one_80 : decode cX1_one 80 = .ok (.iload_n 1, 1) := by decide +kernel
theorem dX1_one_81 : decode cX1_one 81 = .ok (.sipush 172, 3) := by decide +kernel
theorem dX1_one_84 : decode cX1_one 84 = .ok (.if_icmp .lt 26, 3) := by decide +kernel
theorem dX1_one_87 : decode cX1_one 87 = .ok (.iload_n 1, 1) := by decide +kernel
theorem dX1_one_88 : decode cX1_one 88 = .ok (.sipush 180, 3) := by decide +kernel
theorem dX1_one_91 : decode cX1_one 91 = .ok (.if_icmp .gt 19, 3) := by decide +kernel
theorem dX1_one_94 : decode cX1_one 94 = .ok (.aload_n 0, 1) := by decide +kernel
theorem dX1_one_95 : decode cX1_one 95 = .ok (.iload_n 1, 1) := by decide +kernel
theorem dX1_one_96 : decode cX1_one 96 = .ok (.iload_n 2, 1) := by decide +kernel
theorem dX1_one_97 : decode cX1_one 97 = .ok (.lload_n 3, 1) := by decide +kernel
theorem dX1_one_98 : decode cX1_one 98 = .ok (.lload 6, 2) := by decide +kernel
theorem dX1_one_100 : decode cX1_one 100 = .ok (.iload 8, 2) := by decide +kernel
theorem dX1_one_102 : decode cX1_one 102 = .ok (.invokevirtual 70, 3) := by decide +kernel
theorem dX1_one_105 : decode cX1_one 105 = .ok (.istore 8, 2) := by decide +kernel
theorem dX1_one_107 : decode cX1_one 107 = .ok (.goto 12, 3) := by decide +kernel
theorem dX1_one_110 : decode cX1_one 110 = .ok (.aload_n 0, 1) := by decide +kernel
theorem dX1_one_111 : decode cX1_one 111 = .ok (.iload_n 1, 1) := by decide +kernel
theorem dX1_one_112 : decode cX1_one 112 = .ok (.iload_n 2, 1) := by decide +kernel
theorem dX1_one_113 : decode cX1_one 113 = .ok (.lload_n 3, 1) := by decide +kernel
theorem dX1_one_114 : decode cX1_one 114 = .ok (.lload 6, 2) := by decide +kernel
theorem dX1_one_116 : decode cX1_one 116 = .ok (.invokevirtual 73, 3) := by decide +kernel
theorem dX1_one_119 : decode cX1_one 119 = .ok (.aload_n 0, 1) := by decide +kernel
theorem dX1_one_120 : decode cX1_one 120 = .ok (.getfield 36, 3) := by decide +kernel
theorem dX1_one_123 : decode cX1_one 123 = .ok (.ifCond .ne 9, 3) := by decide +kernel
theorem dX1_one_126 : decode cX1_one 126 = .ok (.aload_n 0, 1) := by decide +kernel
theorem dX1_one_127 : decode cX1_one 127 = .ok (.iload 8, 2) := by decide +kernel
theorem dX1_one_129 : decode cX1_one 129 = .ok (.putfield 33, 3) := by decide +kernel
theorem dX1_one_132 : decode cX1_one 132 = .ok (.return_, 1) := by decide +kernel
theorem dX1_needsWord_0 : decode cX1_needsWord 0 = .ok (.iload_n 0, 1) := by decide +kernel
theorem dX1_needsWord_1 : decode cX1_needsWord 1 = .ok (.sipush 192, 3) := by decide +kernel
theorem dX1_needsWord_4 : decode cX1_needsWord 4 = .ok (.if_icmp .lt 52, 3) := by decide +kernel
theorem dX1_needsWord_7 : decode cX1_needsWord 7 = .ok (.iload_n 0, 1) := by decide +kernel
theorem dX1_needsWord_8 : decode cX1_needsWord 8 = .ok (.sipush 255, 3) := by decide +kernel
theorem dX1_needsWord_11 : decode cX1_needsWord 11 = .ok (.if_icmp .gt 45, 3) := by decide +kernel
theorem dX1_needsWord_14 : decode cX1_needsWord 14 = .ok (.iload_n 0, 1) := by decide +kernel
theorem dX1_needsWord_15 : decode cX1_needsWord 15 = .ok (.bipush 56, 2) := by decide +kernel
theorem dX1_needsWord_17 : decode cX1_needsWord 17 = .ok (.iand, 1) := by decide +kernel
theorem dX1_needsWord_18 : decode cX1_needsWord 18 = .ok (.bipush 8, 2) := by decide +kernel
theorem dX1_needsWord_20 : decode cX1_needsWord 20 = .ok (.if_icmp .eq 30, 3) := by decide +kernel
theorem dX1_needsWord_23 : decode cX1_needsWord 23 = .ok (.iload_n 0, 1) := by decide +kernel
theorem dX1_needsWord_24 : decode cX1_needsWord 24 = .ok (.bipush 56, 2) := by decide +kernel
theorem dX1_needsWord_26 : decode cX1_needsWord 26 = .ok (.iand, 1) := by decide +kernel
theorem dX1_needsWord_27 : decode cX1_needsWord 27 = .ok (.bipush 24, 2) := by decide +kernel
theorem dX1_needsWord_29 : decode cX1_needsWord 29 = .ok (.if_icmp .eq 21, 3) := by decide +kernel
theorem dX1_needsWord_32 : decode cX1_needsWord 32 = .ok (.iload_n 0, 1) := by decide +kernel
theorem dX1_needsWord_33 : decode cX1_needsWord 33 = .ok (.bipush 56, 2) := by decide +kernel
theorem dX1_needsWord_35 : decode cX1_needsWord 35 = .ok (.iand, 1) := by decide +kernel
theorem dX1_needsWord_36 : decode cX1_needsWord 36 = .ok (.bipush 40, 2) := by decide +kernel
theorem dX1_needsWord_38 : decode cX1_needsWord 38 = .ok (.if_icmp .eq 12, 3) := by decide +kernel
theorem dX1_needsWord_41 : decode cX1_needsWord 41 = .ok (.iload_n 0, 1) := by decide +kernel
theorem dX1_needsWord_42 : decode cX1_needsWord 42 = .ok (.bipush 56, 2) := by decide +kernel
theorem dX1_needsWord_44 : decode cX1_needsWord 44 = .ok (.iand, 1) := by decide +kernel
theorem dX1_needsWord_45 : decode cX1_needsWord 45 = .ok (.bipush 56, 2) := by decide +kernel
theorem dX1_needsWord_47 : decode cX1_needsWord 47 = .ok (.if_icmp .ne 7, 3) := by decide +kernel
theorem dX1_needsWord_50 : decode cX1_needsWord 50 = .ok (.iconst 1, 1) := by decide +kernel
theorem dX1_needsWord_51 : decode cX1_needsWord 51 = .ok (.goto 4, 3) := by decide +kernel
theorem dX1_needsWord_54 : decode cX1_needsWord 54 = .ok (.iconst 0, 1) := by decide +kernel
theorem dX1_needsWord_55 : decode cX1_needsWord 55 = .ok (.ireturn, 1) := by decide +kernel
theorem dX1_needsWord_56 : decode cX1_needsWord 56 = .ok (.iload_n 0, 1) := by decide +kernel
theorem dX1_needsWord_57 : decode cX1_needsWord 57 = .ok (.lookupswitch 125 #[(129, 123), (145, 123), (153, 123), (162, 123), (172, 123), (176, 123), (179, 123), (185, 123), (189, 123), (256, 123), (261, 123), (281, 123), (285, 123), (296, 123)], 123) := by decide +kernel
theorem dX1_needsWord_180 : decode cX1_needsWord 180 = .ok (.iconst 0, 1) := by decide +kernel
theorem dX1_needsWord_181 : decode cX1_needsWord 181 = .ok (.ireturn, 1) := by decide +kernel
theorem dX1_needsWord_182 : decode cX1_needsWord 182 = .ok (.iconst 1, 1) := by decide +kernel
theorem dX1_needsWord_183 : decode cX1_needsWord 183 = .ok (.ireturn, 1) := by decide +kernel
set_option maxRecDepth 20000 in
theorem ggX1_tested_X1_number : GoodIn wsX1_tested wsX1_number := goodIn_r _ [7] (by decide +kernel) (by decide +kernel)
set_option maxRecDepth 20000 in
theorem gX1_tested_X1_number : GoodIn wsX1_tested (va_wsS RX1 79 yX1_number wsX1_number) := goodIn_app (goodIn_of _ (by decide +kernel)) ggX1_tested_X1_number
set_option maxRecDepth 20000 in
theorem ggX1_tested_X1_is : GoodIn wsX1_tested wsX1_is := goodIn_r _ [10] (by decide +kernel) (by decide +kernel)
set_option maxRecDepth 20000 in
theorem gX1_tested_X1_is : GoodIn wsX1_tested (va_wsS RX1 82 yX1_is wsX1_is) := goodIn_app (goodIn_of _ (by decide +kernel)) ggX1_tested_X1_is
theorem dX1_tested_0 : decode cX1_tested 0 = .ok (.aload_n 0, 1) := by decide +kernel
theorem dX1_tested_1 : decode cX1_tested 1 = .ok (.getfield 7, 3) := by decide +kernel
theorem dX1_tested_4 : decode cX1_tested 4 = .ok (.iload_n 2, 1) := by decide +kernel
theorem dX1_tested_5 : decode cX1_tested 5 = .ok (.laload, 1) := by decide +kernel
theorem dX1_tested_6 : decode cX1_tested 6 = .ok (.lstore 8, 2) := by decide +kernel
theorem dX1_tested_8 : decode cX1_tested 8 = .ok (.iload 7, 2) := by decide +kernel
theorem dX1_tested_10 : decode cX1_tested 10 = .ok (.iconst 1, 1) := by decide +kernel
theorem dX1_tested_11 : decode cX1_tested 11 = .ok (.iadd, 1) := by decide +kernel
theorem dX1_tested_12 : decode cX1_tested 12 = .ok (.sipush 4095, 3) := by decide +kernel
theorem dX1_tested_15 : decode cX1_tested 15 = .ok (.iand, 1) := by decide +kernel
theorem dX1_tested_16 : decode cX1_tested 16 = .ok (.istore 10, 2) := by decide +kernel
theorem dX1_tested_18 : decode cX1_tested 18 = .ok (.lload_n 3, 1) := by decide +kernel
theorem dX1_tested_19 : decode cX1_tested 19 = .ok (.ldc2_w 77, 3) := by decide +kernel
theorem dX1_tested_22 : decode cX1_tested 22 = .ok (.land, 1) := by decide +kernel
theorem dX1_tested_23 : decode cX1_tested 23 = .ok (.l2i, 1) := by decide +kernel
theorem dX1_tested_24 : decode cX1_tested 24 = .ok (.istore 11, 2) := by decide +kernel
theorem dX1_tested_26 : decode cX1_tested 26 = .ok (.iload_n 1, 1) := by decide +kernel
theorem dX1_tested_27 : decode cX1_tested 27 = .ok (.iconst 3, 1) := by decide +kernel
theorem dX1_tested_28 : decode cX1_tested 28 = .ok (.ishr, 1) := by decide +kernel
theorem dX1_tested_29 : decode cX1_tested 29 = .ok (.bipush 7, 2) := by decide +kernel
theorem dX1_tested_31 : decode cX1_tested 31 = .ok (.iand, 1) := by decide +kernel
theorem dX1_tested_32 : decode cX1_tested 32 = .ok (.tableswitch 192 0 7 #[48, 69, 94, 115, 192, 115, 192, 115], 48) := by decide +kernel
theorem dX1_tested_80 : decode cX1_tested 80 = .ok (.iload_n 1, 1) := by decide +kernel
theorem dX1_tested_81 : decode cX1_tested 81 = .ok (.lload 8, 2) := by decide +kernel
theorem dX1_tested_83 : decode cX1_tested 83 = .ok (.invokestatic 79, 3) := by decide +kernel
theorem dX1_tested_86 : decode cX1_tested 86 = .ok (.lload_n 3, 1) := by decide +kernel
theorem dX1_tested_87 : decode cX1_tested 87 = .ok (.invokestatic 82, 3) := by decide +kernel
theorem dX1_tested_90 : decode cX1_tested 90 = .ok (.ifCond .eq 8, 3) := by decide +kernel
theorem dX1_tested_93 : decode cX1_tested 93 = .ok (.iload 10, 2) := by decide +kernel
theorem dX1_tested_95 : decode cX1_tested 95 = .ok (.goto 5, 3) := by decide +kernel
theorem dX1_tested_98 : decode cX1_tested 98 = .ok (.iload 7, 2) := by decide +kernel
theorem dX1_tested_100 : decode cX1_tested 100 = .ok (.ireturn, 1) := by decide +kernel
theorem dX1_tested_101 : decode cX1_tested 101 = .ok (.iload_n 1, 1) := by decide +kernel
theorem dX1_tested_102 : decode cX1_tested 102 = .ok (.lload 8, 2) := by decide +kernel
theorem dX1_tested_104 : decode cX1_tested 104 = .ok (.invokestatic 79, 3) := by decide +kernel
theorem dX1_tested_107 : decode cX1_tested 107 = .ok (.lload 5, 2) := by decide +kernel
theorem dX1_tested_109 : decode cX1_tested 109 = .ok (.invokestatic 79, 3) := by decide +kernel
theorem dX1_tested_112 : decode cX1_tested 112 = .ok (.invokestatic 82, 3) := by decide +kernel
theorem dX1_tested_115 : decode cX1_tested 115 = .ok (.ifCond .eq 8, 3) := by decide +kernel
theorem dX1_tested_118 : decode cX1_tested 118 = .ok (.iload 10, 2) := by decide +kernel
theorem dX1_tested_120 : decode cX1_tested 120 = .ok (.goto 5, 3) := by decide +kernel
theorem dX1_tested_123 : decode cX1_tested 123 = .ok (.iload 7, 2) := by decide +kernel
theorem dX1_tested_125 : decode cX1_tested 125 = .ok (.ireturn, 1) := by decide +kernel
theorem dX1_tested_126 : decode cX1_tested 126 = .ok (.iload_n 1, 1) := by decide +kernel
theorem dX1_tested_127 : decode cX1_tested 127 = .ok (.lload 8, 2) := by decide +kernel
theorem dX1_tested_129 : decode cX1_tested 129 = .ok (.invokestatic 79, 3) := by decide +kernel
theorem dX1_tested_132 : decode cX1_tested 132 = .ok (.lconst 0, 1) := by decide +kernel
theorem dX1_tested_133 : decode cX1_tested 133 = .ok (.invokestatic 82, 3) := by decide +kernel
theorem dX1_tested_136 : decode cX1_tested 136 = .ok (.ifCond .eq 8, 3) := by decide +kernel
theorem dX1_tested_139 : decode cX1_tested 139 = .ok (.iload 11, 2) := by decide +kernel
theorem dX1_tested_141 : decode cX1_tested 141 = .ok (.goto 5, 3) := by decide +kernel
theorem dX1_tested_144 : decode cX1_tested 144 = .ok (.iload 7, 2) := by decide +kernel
theorem dX1_tested_146 : decode cX1_tested 146 = .ok (.ireturn, 1) := by decide +kernel
theorem dX1_tested_147 : decode cX1_tested 147 = .ok (.lload 5, 2) := by decide +kernel
theorem dX1_tested_149 : decode cX1_tested 149 = .ok (.iload_n 1, 1) := by decide +kernel
theorem dX1_tested_150 : decode cX1_tested 150 = .ok (.iconst 3, 1) := by decide +kernel
theorem dX1_tested_151 : decode cX1_tested 151 = .ok (.ishr, 1) := by decide +kernel
theorem dX1_tested_152 : decode cX1_tested 152 = .ok (.bipush 29, 2) := by decide +kernel
theorem dX1_tested_154 : decode cX1_tested 154 = .ok (.if_icmp .ne 7, 3) := by decide +kernel
theorem dX1_tested_157 : decode cX1_tested 157 = .ok (.iconst 1, 1) := by decide +kernel
theorem dX1_tested_158 : decode cX1_tested 158 = .ok (.goto 16, 3) := by decide +kernel
theorem dX1_tested_161 : decode cX1_tested 161 = .ok (.iload_n 1, 1) := by decide +kernel
theorem dX1_tested_162 : decode cX1_tested 162 = .ok (.iconst 3, 1) := by decide +kernel
theorem dX1_tested_163 : decode cX1_tested 163 = .ok (.ishr, 1) := by decide +kernel
theorem dX1_tested_164 : decode cX1_tested 164 = .ok (.bipush 31, 2) := by decide +kernel
theorem dX1_tested_166 : decode cX1_tested 166 = .ok (.if_icmp .ne 7, 3) := by decide +kernel
theorem dX1_tested_169 : decode cX1_tested 169 = .ok (.iconst (-1), 1) := by decide +kernel
theorem dX1_tested_170 : decode cX1_tested 170 = .ok (.goto 4, 3) := by decide +kernel
theorem dX1_tested_173 : decode cX1_tested 173 = .ok (.iconst 0, 1) := by decide +kernel
theorem dX1_tested_174 : decode cX1_tested 174 = .ok (.i2l, 1) := by decide +kernel
theorem dX1_tested_175 : decode cX1_tested 175 = .ok (.ladd, 1) := by decide +kernel
theorem dX1_tested_176 : decode cX1_tested 176 = .ok (.ldc2_w 27, 3) := by decide +kernel
theorem dX1_tested_179 : decode cX1_tested 179 = .ok (.land, 1) := by decide +kernel
theorem dX1_tested_180 : decode cX1_tested 180 = .ok (.lstore 12, 2) := by decide +kernel
theorem dX1_tested_182 : decode cX1_tested 182 = .ok (.aload_n 0, 1) := by decide +kernel
theorem dX1_tested_183 : decode cX1_tested 183 = .ok (.getfield 7, 3) := by decide +kernel
theorem dX1_tested_186 : decode cX1_tested 186 = .ok (.lload_n 3, 1) := by decide +kernel
theorem dX1_tested_187 : decode cX1_tested 187 = .ok (.l2i, 1) := by decide +kernel
theorem dX1_tested_188 : decode cX1_tested 188 = .ok (.lload 12, 2) := by decide +kernel
theorem dX1_tested_190 : decode cX1_tested 190 = .ok (.lastore, 1) := by decide +kernel
theorem dX1_tested_191 : decode cX1_tested 191 = .ok (.iload_n 2, 1) := by decide +kernel
theorem dX1_tested_192 : decode cX1_tested 192 = .ok (.ifCond .eq 11, 3) := by decide +kernel
theorem dX1_tested_195 : decode cX1_tested 195 = .ok (.aload_n 0, 1) := by decide +kernel
theorem dX1_tested_196 : decode cX1_tested 196 = .ok (.getfield 7, 3) := by decide +kernel
theorem dX1_tested_199 : decode cX1_tested 199 = .ok (.iload_n 2, 1) := by decide +kernel
theorem dX1_tested_200 : decode cX1_tested 200 = .ok (.lload 12, 2) := by decide +kernel
theorem dX1_tested_202 : decode cX1_tested 202 = .ok (.lastore, 1) := by decide +kernel
theorem dX1_tested_203 : decode cX1_tested 203 = .ok (.iload_n 1, 1) := by decide +kernel
theorem dX1_tested_204 : decode cX1_tested 204 = .ok (.lload 12, 2) := by decide +kernel
theorem dX1_tested_206 : decode cX1_tested 206 = .ok (.invokestatic 79, 3) := by decide +kernel
theorem dX1_tested_209 : decode cX1_tested 209 = .ok (.lconst 0, 1) := by decide +kernel
theorem dX1_tested_210 : decode cX1_tested 210 = .ok (.invokestatic 82, 3) := by decide +kernel
theorem dX1_tested_213 : decode cX1_tested 213 = .ok (.ifCond .eq 8, 3) := by decide +kernel
theorem dX1_tested_216 : decode cX1_tested 216 = .ok (.iload 10, 2) := by decide +kernel
theorem dX1_tested_218 : decode cX1_tested 218 = .ok (.goto 5, 3) := by decide +kernel
theorem dX1_tested_221 : decode cX1_tested 221 = .ok (.iload 7, 2) := by decide +kernel
theorem dX1_tested_223 : decode cX1_tested 223 = .ok (.ireturn, 1) := by decide +kernel
theorem dX1_tested_224 : decode cX1_tested 224 = .ok (.lload 8, 2) := by decide +kernel
theorem dX1_tested_226 : decode cX1_tested 226 = .ok (.iload_n 1, 1) := by decide +kernel
theorem dX1_tested_227 : decode cX1_tested 227 = .ok (.iconst 3, 1) := by decide +kernel
theorem dX1_tested_228 : decode cX1_tested 228 = .ok (.ishr, 1) := by decide +kernel
theorem dX1_tested_229 : decode cX1_tested 229 = .ok (.bipush 28, 2) := by decide +kernel
theorem dX1_tested_231 : decode cX1_tested 231 = .ok (.if_icmp .ne 7, 3) := by decide +kernel
theorem dX1_tested_234 : decode cX1_tested 234 = .ok (.iconst 1, 1) := by decide +kernel
theorem dX1_tested_235 : decode cX1_tested 235 = .ok (.goto 4, 3) := by decide +kernel
theorem dX1_tested_238 : decode cX1_tested 238 = .ok (.iconst (-1), 1) := by decide +kernel
theorem dX1_tested_239 : decode cX1_tested 239 = .ok (.i2l, 1) := by decide +kernel
theorem dX1_tested_240 : decode cX1_tested 240 = .ok (.ladd, 1) := by decide +kernel
theorem dX1_tested_241 : decode cX1_tested 241 = .ok (.ldc2_w 27, 3) := by decide +kernel
theorem dX1_tested_244 : decode cX1_tested 244 = .ok (.land, 1) := by decide +kernel
theorem dX1_tested_245 : decode cX1_tested 245 = .ok (.lstore 12, 2) := by decide +kernel
theorem dX1_tested_247 : decode cX1_tested 247 = .ok (.aload_n 0, 1) := by decide +kernel
theorem dX1_tested_248 : decode cX1_tested 248 = .ok (.getfield 7, 3) := by decide +kernel
theorem dX1_tested_251 : decode cX1_tested 251 = .ok (.iload_n 2, 1) := by decide +kernel
theorem dX1_tested_252 : decode cX1_tested 252 = .ok (.lload 12, 2) := by decide +kernel
theorem dX1_tested_254 : decode cX1_tested 254 = .ok (.lastore, 1) := by decide +kernel
theorem dX1_tested_255 : decode cX1_tested 255 = .ok (.iload_n 1, 1) := by decide +kernel
theorem dX1_tested_256 : decode cX1_tested 256 = .ok (.lload 12, 2) := by decide +kernel
theorem dX1_tested_258 : decode cX1_tested 258 = .ok (.invokestatic 79, 3) := by decide +kernel
theorem dX1_tested_261 : decode cX1_tested 261 = .ok (.lconst 0, 1) := by decide +kernel
theorem dX1_tested_262 : decode cX1_tested 262 = .ok (.invokestatic 82, 3) := by decide +kernel
theorem dX1_tested_265 : decode cX1_tested 265 = .ok (.ifCond .eq 8, 3) := by decide +kernel
theorem dX1_tested_268 : decode cX1_tested 268 = .ok (.iload 11, 2) := by decide +kernel
theorem dX1_tested_270 : decode cX1_tested 270 = .ok (.goto 5, 3) := by decide +kernel
theorem dX1_tested_273 : decode cX1_tested 273 = .ok (.iload 7, 2) := by decide +kernel
theorem dX1_tested_275 : decode cX1_tested 275 = .ok (.ireturn, 1) := by decide +kernel
theorem dX1_half_0 : decode cX1_half 0 = .ok (.lload_n 0, 1) := by decide +kernel
theorem dX1_half_1 : decode cX1_half 1 = .ok (.ldc2_w 86, 3) := by decide +kernel
theorem dX1_half_4 : decode cX1_half 4 = .ok (.land, 1) := by decide +kernel
theorem dX1_half_5 : decode cX1_half 5 = .ok (.lload_n 2, 1) := by decide +kernel
theorem dX1_half_6 : decode cX1_half 6 = .ok (.ldc2_w 31, 3) := by decide +kernel
theorem dX1_half_9 : decode cX1_half 9 = .ok (.land, 1) := by decide +kernel
theorem dX1_half_10 : decode cX1_half 10 = .ok (.lor, 1) := by decide +kernel
theorem dX1_half_11 : decode cX1_half 11 = .ok (.lreturn, 1) := by decide +kernel
set_option maxRecDepth 20000 in
theorem ggX1_piled_X1_at : GoodIn wsX1_piled wsX1_at := goodIn_r _ [9, 1, 4, 10, 11, 8, 12, 13, 18, 19, 20, 21, 22, 23] (by decide +kernel) (by decide +kernel)
set_option maxRecDepth 20000 in
theorem gX1_piled_X1_at : GoodIn wsX1_piled (wsV RX1 41 RX1 yX1_at wsX1_at) := goodIn_app (goodIn_of _ (by decide +kernel)) ggX1_piled_X1_at
set_option maxRecDepth 20000 in
theorem ggX1_piled_X1_half : GoodIn wsX1_piled wsX1_half := goodIn_r _ [16, 17, 3] (by decide +kernel) (by decide +kernel)
set_option maxRecDepth 20000 in
theorem gX1_piled_X1_half : GoodIn wsX1_piled (va_wsS RX1 88 yX1_half wsX1_half) := goodIn_app (goodIn_of _ (by decide +kernel)) ggX1_piled_X1_half
theorem dX1_piled_0 : decode cX1_piled 0 = .ok (.aload_n 0, 1) := by decide +kernel
theorem dX1_piled_1 : decode cX1_piled 1 = .ok (.getfield 7, 3) := by decide +kernel
theorem dX1_piled_4 : decode cX1_piled 4 = .ok (.iload_n 2, 1) := by decide +kernel
theorem dX1_piled_5 : decode cX1_piled 5 = .ok (.laload, 1) := by decide +kernel
theorem dX1_piled_6 : decode cX1_piled 6 = .ok (.lstore 8, 2) := by decide +kernel
theorem dX1_piled_8 : decode cX1_piled 8 = .ok (.iload_n 1, 1) := by decide +kernel
theorem dX1_piled_9 : decode cX1_piled 9 = .ok (.tableswitch 236 172 179 #[47, 236, 236, 236, 54, 54, 136, 192], 47) := by decide +kernel
theorem dX1_piled_56 : decode cX1_piled 56 = .ok (.lload_n 3, 1) := by decide +kernel
theorem dX1_piled_57 : decode cX1_piled 57 = .ok (.ldc2_w 77, 3) := by decide +kernel
theorem dX1_piled_60 : decode cX1_piled 60 = .ok (.land, 1) := by decide +kernel
theorem dX1_piled_61 : decode cX1_piled 61 = .ok (.l2i, 1) := by decide +kernel
theorem dX1_piled_62 : decode cX1_piled 62 = .ok (.ireturn, 1) := by decide +kernel
theorem dX1_piled_63 : decode cX1_piled 63 = .ok (.lload 8, 2) := by decide +kernel
theorem dX1_piled_65 : decode cX1_piled 65 = .ok (.lconst 1, 1) := by decide +kernel
theorem dX1_piled_66 : decode cX1_piled 66 = .ok (.ladd, 1) := by decide +kernel
theorem dX1_piled_67 : decode cX1_piled 67 = .ok (.ldc2_w 31, 3) := by decide +kernel
theorem dX1_piled_70 : decode cX1_piled 70 = .ok (.land, 1) := by decide +kernel
theorem dX1_piled_71 : decode cX1_piled 71 = .ok (.lstore 10, 2) := by decide +kernel
theorem dX1_piled_73 : decode cX1_piled 73 = .ok (.aload_n 0, 1) := by decide +kernel
theorem dX1_piled_74 : decode cX1_piled 74 = .ok (.lload 10, 2) := by decide +kernel
theorem dX1_piled_76 : decode cX1_piled 76 = .ok (.invokevirtual 41, 3) := by decide +kernel
theorem dX1_piled_79 : decode cX1_piled 79 = .ok (.lstore 12, 2) := by decide +kernel
theorem dX1_piled_81 : decode cX1_piled 81 = .ok (.aload_n 0, 1) := by decide +kernel
theorem dX1_piled_82 : decode cX1_piled 82 = .ok (.getfield 36, 3) := by decide +kernel
theorem dX1_piled_85 : decode cX1_piled 85 = .ok (.ifCond .eq 5, 3) := by decide +kernel
theorem dX1_piled_88 : decode cX1_piled 88 = .ok (.iconst 0, 1) := by decide +kernel
theorem dX1_piled_89 : decode cX1_piled 89 = .ok (.ireturn, 1) := by decide +kernel
theorem dX1_piled_90 : decode cX1_piled 90 = .ok (.aload_n 0, 1) := by decide +kernel
theorem dX1_piled_91 : decode cX1_piled 91 = .ok (.getfield 7, 3) := by decide +kernel
theorem dX1_piled_94 : decode cX1_piled 94 = .ok (.iload_n 2, 1) := by decide +kernel
theorem dX1_piled_95 : decode cX1_piled 95 = .ok (.lload 8, 2) := by decide +kernel
theorem dX1_piled_97 : decode cX1_piled 97 = .ok (.lload 10, 2) := by decide +kernel
theorem dX1_piled_99 : decode cX1_piled 99 = .ok (.invokestatic 88, 3) := by decide +kernel
theorem dX1_piled_102 : decode cX1_piled 102 = .ok (.lastore, 1) := by decide +kernel
theorem dX1_piled_103 : decode cX1_piled 103 = .ok (.aload_n 0, 1) := by decide +kernel
theorem dX1_piled_104 : decode cX1_piled 104 = .ok (.getfield 7, 3) := by decide +kernel
theorem dX1_piled_107 : decode cX1_piled 107 = .ok (.lload 10, 2) := by decide +kernel
theorem dX1_piled_109 : decode cX1_piled 109 = .ok (.l2i, 1) := by decide +kernel
theorem dX1_piled_110 : decode cX1_piled 110 = .ok (.iload_n 1, 1) := by decide +kernel
theorem dX1_piled_111 : decode cX1_piled 111 = .ok (.sipush 176, 3) := by decide +kernel
theorem dX1_piled_114 : decode cX1_piled 114 = .ok (.if_icmp .ne 9, 3) := by decide +kernel
theorem dX1_piled_117 : decode cX1_piled 117 = .ok (.iload 7, 2) := by decide +kernel
theorem dX1_piled_119 : decode cX1_piled 119 = .ok (.i2l, 1) := by decide +kernel
theorem dX1_piled_120 : decode cX1_piled 120 = .ok (.goto 5, 3) := by decide +kernel
theorem dX1_piled_123 : decode cX1_piled 123 = .ok (.lload 5, 2) := by decide +kernel
theorem dX1_piled_125 : decode cX1_piled 125 = .ok (.lastore, 1) := by decide +kernel
theorem dX1_piled_126 : decode cX1_piled 126 = .ok (.iload_n 1, 1) := by decide +kernel
theorem dX1_piled_127 : decode cX1_piled 127 = .ok (.sipush 176, 3) := by decide +kernel
theorem dX1_piled_130 : decode cX1_piled 130 = .ok (.if_icmp .ne 12, 3) := by decide +kernel
theorem dX1_piled_133 : decode cX1_piled 133 = .ok (.lload_n 3, 1) := by decide +kernel
theorem dX1_piled_134 : decode cX1_piled 134 = .ok (.ldc2_w 77, 3) := by decide +kernel
theorem dX1_piled_137 : decode cX1_piled 137 = .ok (.land, 1) := by decide +kernel
theorem dX1_piled_138 : decode cX1_piled 138 = .ok (.l2i, 1) := by decide +kernel
theorem dX1_piled_139 : decode cX1_piled 139 = .ok (.goto 5, 3) := by decide +kernel
theorem dX1_piled_142 : decode cX1_piled 142 = .ok (.iload 7, 2) := by decide +kernel
theorem dX1_piled_144 : decode cX1_piled 144 = .ok (.ireturn, 1) := by decide +kernel
theorem dX1_piled_145 : decode cX1_piled 145 = .ok (.aload_n 0, 1) := by decide +kernel
theorem dX1_piled_146 : decode cX1_piled 146 = .ok (.lload 8, 2) := by decide +kernel
theorem dX1_piled_148 : decode cX1_piled 148 = .ok (.ldc2_w 31, 3) := by decide +kernel
theorem dX1_piled_151 : decode cX1_piled 151 = .ok (.land, 1) := by decide +kernel
theorem dX1_piled_152 : decode cX1_piled 152 = .ok (.invokevirtual 41, 3) := by decide +kernel
theorem dX1_piled_155 : decode cX1_piled 155 = .ok (.lstore 10, 2) := by decide +kernel
theorem dX1_piled_157 : decode cX1_piled 157 = .ok (.aload_n 0, 1) := by decide +kernel
theorem dX1_piled_158 : decode cX1_piled 158 = .ok (.getfield 36, 3) := by decide +kernel
theorem dX1_piled_161 : decode cX1_piled 161 = .ok (.ifCond .eq 5, 3) := by decide +kernel
theorem dX1_piled_164 : decode cX1_piled 164 = .ok (.iconst 0, 1) := by decide +kernel
theorem dX1_piled_165 : decode cX1_piled 165 = .ok (.ireturn, 1) := by decide +kernel
theorem dX1_piled_166 : decode cX1_piled 166 = .ok (.aload_n 0, 1) := by decide +kernel
theorem dX1_piled_167 : decode cX1_piled 167 = .ok (.getfield 7, 3) := by decide +kernel
theorem dX1_piled_170 : decode cX1_piled 170 = .ok (.lload_n 3, 1) := by decide +kernel
theorem dX1_piled_171 : decode cX1_piled 171 = .ok (.l2i, 1) := by decide +kernel
theorem dX1_piled_172 : decode cX1_piled 172 = .ok (.lload 10, 2) := by decide +kernel
theorem dX1_piled_174 : decode cX1_piled 174 = .ok (.lastore, 1) := by decide +kernel
theorem dX1_piled_175 : decode cX1_piled 175 = .ok (.aload_n 0, 1) := by decide +kernel
theorem dX1_piled_176 : decode cX1_piled 176 = .ok (.getfield 7, 3) := by decide +kernel
theorem dX1_piled_179 : decode cX1_piled 179 = .ok (.iload_n 2, 1) := by decide +kernel
theorem dX1_piled_180 : decode cX1_piled 180 = .ok (.aload_n 0, 1) := by decide +kernel
theorem dX1_piled_181 : decode cX1_piled 181 = .ok (.getfield 7, 3) := by decide +kernel
theorem dX1_piled_184 : decode cX1_piled 184 = .ok (.iload_n 2, 1) := by decide +kernel
theorem dX1_piled_185 : decode cX1_piled 185 = .ok (.laload, 1) := by decide +kernel
theorem dX1_piled_186 : decode cX1_piled 186 = .ok (.aload_n 0, 1) := by decide +kernel
theorem dX1_piled_187 : decode cX1_piled 187 = .ok (.getfield 7, 3) := by decide +kernel
theorem dX1_piled_190 : decode cX1_piled 190 = .ok (.iload_n 2, 1) := by decide +kernel
theorem dX1_piled_191 : decode cX1_piled 191 = .ok (.laload, 1) := by decide +kernel
theorem dX1_piled_192 : decode cX1_piled 192 = .ok (.lconst 1, 1) := by decide +kernel
theorem dX1_piled_193 : decode cX1_piled 193 = .ok (.lsub, 1) := by decide +kernel
theorem dX1_piled_194 : decode cX1_piled 194 = .ok (.invokestatic 88, 3) := by decide +kernel
theorem dX1_piled_197 : decode cX1_piled 197 = .ok (.lastore, 1) := by decide +kernel
theorem dX1_piled_198 : decode cX1_piled 198 = .ok (.iload 7, 2) := by decide +kernel
theorem dX1_piled_200 : decode cX1_piled 200 = .ok (.ireturn, 1) := by decide +kernel
theorem dX1_piled_201 : decode cX1_piled 201 = .ok (.aload_n 0, 1) := by decide +kernel
theorem dX1_piled_202 : decode cX1_piled 202 = .ok (.lload 8, 2) := by decide +kernel
theorem dX1_piled_204 : decode cX1_piled 204 = .ok (.ldc2_w 31, 3) := by decide +kernel
theorem dX1_piled_207 : decode cX1_piled 207 = .ok (.land, 1) := by decide +kernel
theorem dX1_piled_208 : decode cX1_piled 208 = .ok (.invokevirtual 41, 3) := by decide +kernel
theorem dX1_piled_211 : decode cX1_piled 211 = .ok (.lstore 10, 2) := by decide +kernel
theorem dX1_piled_213 : decode cX1_piled 213 = .ok (.aload_n 0, 1) := by decide +kernel
theorem dX1_piled_214 : decode cX1_piled 214 = .ok (.getfield 36, 3) := by decide +kernel
theorem dX1_piled_217 : decode cX1_piled 217 = .ok (.ifCond .eq 5, 3) := by decide +kernel
theorem dX1_piled_220 : decode cX1_piled 220 = .ok (.iconst 0, 1) := by decide +kernel
theorem dX1_piled_221 : decode cX1_piled 221 = .ok (.ireturn, 1) := by decide +kernel
theorem dX1_piled_222 : decode cX1_piled 222 = .ok (.aload_n 0, 1) := by decide +kernel
theorem dX1_piled_223 : decode cX1_piled 223 = .ok (.getfield 7, 3) := by decide +kernel
theorem dX1_piled_226 : decode cX1_piled 226 = .ok (.iload_n 2, 1) := by decide +kernel
theorem dX1_piled_227 : decode cX1_piled 227 = .ok (.lload 8, 2) := by decide +kernel
theorem dX1_piled_229 : decode cX1_piled 229 = .ok (.lload 8, 2) := by decide +kernel
theorem dX1_piled_231 : decode cX1_piled 231 = .ok (.lconst 1, 1) := by decide +kernel
theorem dX1_piled_232 : decode cX1_piled 232 = .ok (.lsub, 1) := by decide +kernel
theorem dX1_piled_233 : decode cX1_piled 233 = .ok (.invokestatic 88, 3) := by decide +kernel
theorem dX1_piled_236 : decode cX1_piled 236 = .ok (.lastore, 1) := by decide +kernel
theorem dX1_piled_237 : decode cX1_piled 237 = .ok (.lload 10, 2) := by decide +kernel
theorem dX1_piled_239 : decode cX1_piled 239 = .ok (.ldc2_w 77, 3) := by decide +kernel
theorem dX1_piled_242 : decode cX1_piled 242 = .ok (.land, 1) := by decide +kernel
theorem dX1_piled_243 : decode cX1_piled 243 = .ok (.l2i, 1) := by decide +kernel
theorem dX1_piled_244 : decode cX1_piled 244 = .ok (.ireturn, 1) := by decide +kernel
theorem dX1_piled_245 : decode cX1_piled 245 = .ok (.aload_n 0, 1) := by decide +kernel
theorem dX1_piled_246 : decode cX1_piled 246 = .ok (.getfield 7, 3) := by decide +kernel
theorem dX1_piled_249 : decode cX1_piled 249 = .ok (.lload_n 3, 1) := by decide +kernel
theorem dX1_piled_250 : decode cX1_piled 250 = .ok (.l2i, 1) := by decide +kernel
theorem dX1_piled_251 : decode cX1_piled 251 = .ok (.iload 7, 2) := by decide +kernel
theorem dX1_piled_253 : decode cX1_piled 253 = .ok (.i2l, 1) := by decide +kernel
theorem dX1_piled_254 : decode cX1_piled 254 = .ok (.lastore, 1) := by decide +kernel
theorem dX1_piled_255 : decode cX1_piled 255 = .ok (.lload_n 3, 1) := by decide +kernel
theorem dX1_piled_256 : decode cX1_piled 256 = .ok (.lconst 1, 1) := by decide +kernel
theorem dX1_piled_257 : decode cX1_piled 257 = .ok (.ladd, 1) := by decide +kernel
theorem dX1_piled_258 : decode cX1_piled 258 = .ok (.ldc2_w 77, 3) := by decide +kernel
theorem dX1_piled_261 : decode cX1_piled 261 = .ok (.land, 1) := by decide +kernel
theorem dX1_piled_262 : decode cX1_piled 262 = .ok (.l2i, 1) := by decide +kernel
theorem dX1_piled_263 : decode cX1_piled 263 = .ok (.ireturn, 1) := by decide +kernel
set_option maxRecDepth 20000 in
theorem ggX1_moved_X1_number : GoodIn wsX1_moved wsX1_number := goodIn_r _ [9] (by decide +kernel) (by decide +kernel)
set_option maxRecDepth 20000 in
theorem gX1_moved_X1_number : GoodIn wsX1_moved (va_wsS RX1 79 yX1_number wsX1_number) := goodIn_app (goodIn_of _ (by decide +kernel)) ggX1_moved_X1_number
set_option maxRecDepth 20000 in
theorem ggX1_moved_X1_divided : GoodIn wsX1_moved wsX1_divided := goodIn_r _ [13, 14, 15, 16, 1, 3, 25, 26, 27, 28, 29, 30] (by decide +kernel) (by decide +kernel)
set_option maxRecDepth 20000 in
theorem gX1_moved_X1_divided : GoodIn wsX1_moved (wsV RX1 92 RX1 yX1_divided wsX1_divided) := goodIn_app (goodIn_of _ (by decide +kernel)) ggX1_moved_X1_divided
set_option maxRecDepth 20000 in
theorem ggX1_moved_X1_bits : GoodIn wsX1_moved wsX1_bits := goodIn_r _ [20, 1, 15, 3, 2, 21, 22, 8, 23, 24, 25, 26, 27, 28, 29, 30] (by decide +kernel) (by decide +kernel)
set_option maxRecDepth 20000 in
theorem gX1_moved_X1_bits : GoodIn wsX1_moved (wsV RX1 100 RX1 yX1_bits wsX1_bits) := goodIn_app (goodIn_of _ (by decide +kernel)) ggX1_moved_X1_bits
theorem dX1_moved_0 : decode cX1_moved 0 = .ok (.aload_n 0, 1) := by decide +kernel
theorem dX1_moved_1 : decode cX1_moved 1 = .ok (.getfield 7, 3) := by decide +kernel
theorem dX1_moved_4 : decode cX1_moved 4 = .ok (.iload_n 2, 1) := by decide +kernel
theorem dX1_moved_5 : decode cX1_moved 5 = .ok (.laload, 1) := by decide +kernel
theorem dX1_moved_6 : decode cX1_moved 6 = .ok (.lstore 7, 2) := by decide +kernel
theorem dX1_moved_8 : decode cX1_moved 8 = .ok (.iload_n 1, 1) := by decide +kernel
theorem dX1_moved_9 : decode cX1_moved 9 = .ok (.lookupswitch 489 #[(128, 155), (129, 166), (130, 176), (132, 188), (136, 212), (140, 228), (144, 279), (145, 279), (152, 314), (153, 314), (162, 343), (168, 259), (184, 410), (185, 410), (188, 439), (189, 439), (256, 468), (258, 478)], 155) := by decide +kernel
theorem dX1_moved_164 : decode cX1_moved 164 = .ok (.aload_n 0, 1) := by decide +kernel
theorem dX1_moved_165 : decode cX1_moved 165 = .ok (.getfield 7, 3) := by decide +kernel
theorem dX1_moved_168 : decode cX1_moved 168 = .ok (.iload_n 2, 1) := by decide +kernel
theorem dX1_moved_169 : decode cX1_moved 169 = .ok (.lload 5, 2) := by decide +kernel
theorem dX1_moved_171 : decode cX1_moved 171 = .ok (.lastore, 1) := by decide +kernel
theorem dX1_moved_172 : decode cX1_moved 172 = .ok (.goto 361, 3) := by decide +kernel
theorem dX1_moved_175 : decode cX1_moved 175 = .ok (.aload_n 0, 1) := by decide +kernel
theorem dX1_moved_176 : decode cX1_moved 176 = .ok (.getfield 7, 3) := by decide +kernel
theorem dX1_moved_179 : decode cX1_moved 179 = .ok (.iload_n 2, 1) := by decide +kernel
theorem dX1_moved_180 : decode cX1_moved 180 = .ok (.lload_n 3, 1) := by decide +kernel
theorem dX1_moved_181 : decode cX1_moved 181 = .ok (.lastore, 1) := by decide +kernel
theorem dX1_moved_182 : decode cX1_moved 182 = .ok (.goto 351, 3) := by decide +kernel
theorem dX1_moved_185 : decode cX1_moved 185 = .ok (.aload_n 0, 1) := by decide +kernel
theorem dX1_moved_186 : decode cX1_moved 186 = .ok (.getfield 7, 3) := by decide +kernel
theorem dX1_moved_189 : decode cX1_moved 189 = .ok (.lload_n 3, 1) := by decide +kernel
theorem dX1_moved_190 : decode cX1_moved 190 = .ok (.l2i, 1) := by decide +kernel
theorem dX1_moved_191 : decode cX1_moved 191 = .ok (.lload 7, 2) := by decide +kernel
theorem dX1_moved_193 : decode cX1_moved 193 = .ok (.lastore, 1) := by decide +kernel
theorem dX1_moved_194 : decode cX1_moved 194 = .ok (.goto 339, 3) := by decide +kernel
theorem dX1_moved_197 : decode cX1_moved 197 = .ok (.aload_n 0, 1) := by decide +kernel
theorem dX1_moved_198 : decode cX1_moved 198 = .ok (.getfield 7, 3) := by decide +kernel
theorem dX1_moved_201 : decode cX1_moved 201 = .ok (.iload_n 2, 1) := by decide +kernel
theorem dX1_moved_202 : decode cX1_moved 202 = .ok (.lload 5, 2) := by decide +kernel
theorem dX1_moved_204 : decode cX1_moved 204 = .ok (.ldc2_w 31, 3) := by decide +kernel
theorem dX1_moved_207 : decode cX1_moved 207 = .ok (.land, 1) := by decide +kernel
theorem dX1_moved_208 : decode cX1_moved 208 = .ok (.bipush 18, 2) := by decide +kernel
theorem dX1_moved_210 : decode cX1_moved 210 = .ok (.lshl, 1) := by decide +kernel
theorem dX1_moved_211 : decode cX1_moved 211 = .ok (.lload 5, 2) := by decide +kernel
theorem dX1_moved_213 : decode cX1_moved 213 = .ok (.bipush 18, 2) := by decide +kernel
theorem dX1_moved_215 : decode cX1_moved 215 = .ok (.lshr, 1) := by decide +kernel
theorem dX1_moved_216 : decode cX1_moved 216 = .ok (.lor, 1) := by decide +kernel
theorem dX1_moved_217 : decode cX1_moved 217 = .ok (.lastore, 1) := by decide +kernel
theorem dX1_moved_218 : decode cX1_moved 218 = .ok (.goto 315, 3) := by decide +kernel
theorem dX1_moved_221 : decode cX1_moved 221 = .ok (.aload_n 0, 1) := by decide +kernel
theorem dX1_moved_222 : decode cX1_moved 222 = .ok (.getfield 7, 3) := by decide +kernel
theorem dX1_moved_225 : decode cX1_moved 225 = .ok (.iload_n 2, 1) := by decide +kernel
theorem dX1_moved_226 : decode cX1_moved 226 = .ok (.lload 5, 2) := by decide +kernel
theorem dX1_moved_228 : decode cX1_moved 228 = .ok (.lneg, 1) := by decide +kernel
theorem dX1_moved_229 : decode cX1_moved 229 = .ok (.ldc2_w 27, 3) := by decide +kernel
theorem dX1_moved_232 : decode cX1_moved 232 = .ok (.land, 1) := by decide +kernel
theorem dX1_moved_233 : decode cX1_moved 233 = .ok (.lastore, 1) := by decide +kernel
theorem dX1_moved_234 : decode cX1_moved 234 = .ok (.goto 299, 3) := by decide +kernel
theorem dX1_moved_237 : decode cX1_moved 237 = .ok (.aload_n 0, 1) := by decide +kernel
theorem dX1_moved_238 : decode cX1_moved 238 = .ok (.getfield 7, 3) := by decide +kernel
theorem dX1_moved_241 : decode cX1_moved 241 = .ok (.iload_n 2, 1) := by decide +kernel
theorem dX1_moved_242 : decode cX1_moved 242 = .ok (.lload 5, 2) := by decide +kernel
theorem dX1_moved_244 : decode cX1_moved 244 = .ok (.invokestatic 79, 3) := by decide +kernel
theorem dX1_moved_247 : decode cX1_moved 247 = .ok (.lconst 0, 1) := by decide +kernel
theorem dX1_moved_248 : decode cX1_moved 248 = .ok (.lcmp, 1) := by decide +kernel
theorem dX1_moved_249 : decode cX1_moved 249 = .ok (.ifCond .ge 13, 3) := by decide +kernel
theorem dX1_moved_252 : decode cX1_moved 252 = .ok (.lload 5, 2) := by decide +kernel
theorem dX1_moved_254 : decode cX1_moved 254 = .ok (.lneg, 1) := by decide +kernel
theorem dX1_moved_255 : decode cX1_moved 255 = .ok (.ldc2_w 27, 3) := by decide +kernel
theorem dX1_moved_258 : decode cX1_moved 258 = .ok (.land, 1) := by decide +kernel
theorem dX1_moved_259 : decode cX1_moved 259 = .ok (.goto 5, 3) := by decide +kernel
theorem dX1_moved_262 : decode cX1_moved 262 = .ok (.lload 5, 2) := by decide +kernel
theorem dX1_moved_264 : decode cX1_moved 264 = .ok (.lastore, 1) := by decide +kernel
theorem dX1_moved_265 : decode cX1_moved 265 = .ok (.goto 268, 3) := by decide +kernel
theorem dX1_moved_268 : decode cX1_moved 268 = .ok (.aload_n 0, 1) := by decide +kernel
theorem dX1_moved_269 : decode cX1_moved 269 = .ok (.getfield 7, 3) := by decide +kernel
theorem dX1_moved_272 : decode cX1_moved 272 = .ok (.iload_n 2, 1) := by decide +kernel
theorem dX1_moved_273 : decode cX1_moved 273 = .ok (.lload 5, 2) := by decide +kernel
theorem dX1_moved_275 : decode cX1_moved 275 = .ok (.lastore, 1) := by decide +kernel
theorem dX1_moved_276 : decode cX1_moved 276 = .ok (.aload_n 0, 1) := by decide +kernel
theorem dX1_moved_277 : decode cX1_moved 277 = .ok (.getfield 7, 3) := by decide +kernel
theorem dX1_moved_280 : decode cX1_moved 280 = .ok (.lload_n 3, 1) := by decide +kernel
theorem dX1_moved_281 : decode cX1_moved 281 = .ok (.l2i, 1) := by decide +kernel
theorem dX1_moved_282 : decode cX1_moved 282 = .ok (.lload 7, 2) := by decide +kernel
theorem dX1_moved_284 : decode cX1_moved 284 = .ok (.lastore, 1) := by decide +kernel
theorem dX1_moved_285 : decode cX1_moved 285 = .ok (.goto 248, 3) := by decide +kernel
theorem dX1_moved_288 : decode cX1_moved 288 = .ok (.aload_n 0, 1) := by decide +kernel
theorem dX1_moved_289 : decode cX1_moved 289 = .ok (.getfield 7, 3) := by decide +kernel
theorem dX1_moved_292 : decode cX1_moved 292 = .ok (.iload_n 2, 1) := by decide +kernel
theorem dX1_moved_293 : decode cX1_moved 293 = .ok (.lload 7, 2) := by decide +kernel
theorem dX1_moved_295 : decode cX1_moved 295 = .ok (.invokestatic 79, 3) := by decide +kernel
theorem dX1_moved_298 : decode cX1_moved 298 = .ok (.iload_n 1, 1) := by decide +kernel
theorem dX1_moved_299 : decode cX1_moved 299 = .ok (.sipush 144, 3) := by decide +kernel
theorem dX1_moved_302 : decode cX1_moved 302 = .ok (.if_icmp .ne 11, 3) := by decide +kernel
theorem dX1_moved_305 : decode cX1_moved 305 = .ok (.lload 5, 2) := by decide +kernel
theorem dX1_moved_307 : decode cX1_moved 307 = .ok (.invokestatic 79, 3) := by decide +kernel
theorem dX1_moved_310 : decode cX1_moved 310 = .ok (.goto 4, 3) := by decide +kernel
theorem dX1_moved_313 : decode cX1_moved 313 = .ok (.lload_n 3, 1) := by decide +kernel
theorem dX1_moved_314 : decode cX1_moved 314 = .ok (.lmul, 1) := by decide +kernel
theorem dX1_moved_315 : decode cX1_moved 315 = .ok (.ldc2_w 27, 3) := by decide +kernel
theorem dX1_moved_318 : decode cX1_moved 318 = .ok (.land, 1) := by decide +kernel
theorem dX1_moved_319 : decode cX1_moved 319 = .ok (.lastore, 1) := by decide +kernel
theorem dX1_moved_320 : decode cX1_moved 320 = .ok (.goto 213, 3) := by decide +kernel
theorem dX1_moved_323 : decode cX1_moved 323 = .ok (.aload_n 0, 1) := by decide +kernel
theorem dX1_moved_324 : decode cX1_moved 324 = .ok (.iload_n 2, 1) := by decide +kernel
theorem dX1_moved_325 : decode cX1_moved 325 = .ok (.lload 7, 2) := by decide +kernel
theorem dX1_moved_327 : decode cX1_moved 327 = .ok (.invokestatic 79, 3) := by decide +kernel
theorem dX1_moved_330 : decode cX1_moved 330 = .ok (.iload_n 1, 1) := by decide +kernel
theorem dX1_moved_331 : decode cX1_moved 331 = .ok (.sipush 152, 3) := by decide +kernel
theorem dX1_moved_334 : decode cX1_moved 334 = .ok (.if_icmp .ne 11, 3) := by decide +kernel
theorem dX1_moved_337 : decode cX1_moved 337 = .ok (.lload 5, 2) := by decide +kernel
theorem dX1_moved_339 : decode cX1_moved 339 = .ok (.invokestatic 79, 3) := by decide +kernel
theorem dX1_moved_342 : decode cX1_moved 342 = .ok (.goto 4, 3) := by decide +kernel
theorem dX1_moved_345 : decode cX1_moved 345 = .ok (.lload_n 3, 1) := by decide +kernel
theorem dX1_moved_346 : decode cX1_moved 346 = .ok (.invokevirtual 92, 3) := by decide +kernel
theorem dX1_moved_349 : decode cX1_moved 349 = .ok (.goto 184, 3) := by decide +kernel
theorem dX1_moved_352 : decode cX1_moved 352 = .ok (.lload_n 3, 1) := by decide +kernel
theorem dX1_moved_353 : decode cX1_moved 353 = .ok (.bipush 46, 2) := by decide +kernel
theorem dX1_moved_355 : decode cX1_moved 355 = .ok (.lshl, 1) := by decide +kernel
theorem dX1_moved_356 : decode cX1_moved 356 = .ok (.bipush 46, 2) := by decide +kernel
theorem dX1_moved_358 : decode cX1_moved 358 = .ok (.lshr, 1) := by decide +kernel
theorem dX1_moved_359 : decode cX1_moved 359 = .ok (.lstore 9, 2) := by decide +kernel
theorem dX1_moved_361 : decode cX1_moved 361 = .ok (.aload_n 0, 1) := by decide +kernel
theorem dX1_moved_362 : decode cX1_moved 362 = .ok (.getfield 7, 3) := by decide +kernel
theorem dX1_moved_365 : decode cX1_moved 365 = .ok (.iload_n 2, 1) := by decide +kernel
theorem dX1_moved_366 : decode cX1_moved 366 = .ok (.lload 9, 2) := by decide +kernel
theorem dX1_moved_368 : decode cX1_moved 368 = .ok (.ldc2_w 96, 3) := by decide +kernel
theorem dX1_moved_371 : decode cX1_moved 371 = .ok (.lcmp, 1) := by decide +kernel
theorem dX1_moved_372 : decode cX1_moved 372 = .ok (.ifCond .ge 12, 3) := by decide +kernel
theorem dX1_moved_375 : decode cX1_moved 375 = .ok (.lload 9, 2) := by decide +kernel
theorem dX1_moved_377 : decode cX1_moved 377 = .ok (.ldc2_w 98, 3) := by decide +kernel
theorem dX1_moved_380 : decode cX1_moved 380 = .ok (.lcmp, 1) := by decide +kernel
theorem dX1_moved_381 : decode cX1_moved 381 = .ok (.ifCond .gt 7, 3) := by decide +kernel
theorem dX1_moved_384 : decode cX1_moved 384 = .ok (.lconst 0, 1) := by decide +kernel
theorem dX1_moved_385 : decode cX1_moved 385 = .ok (.goto 30, 3) := by decide +kernel
theorem dX1_moved_388 : decode cX1_moved 388 = .ok (.lload 9, 2) := by decide +kernel
theorem dX1_moved_390 : decode cX1_moved 390 = .ok (.lconst 0, 1) := by decide +kernel
theorem dX1_moved_391 : decode cX1_moved 391 = .ok (.lcmp, 1) := by decide +kernel
theorem dX1_moved_392 : decode cX1_moved 392 = .ok (.ifCond .lt 16, 3) := by decide +kernel
theorem dX1_moved_395 : decode cX1_moved 395 = .ok (.lload 7, 2) := by decide +kernel
theorem dX1_moved_397 : decode cX1_moved 397 = .ok (.lload 9, 2) := by decide +kernel
theorem dX1_moved_399 : decode cX1_moved 399 = .ok (.l2i, 1) := by decide +kernel
theorem dX1_moved_400 : decode cX1_moved 400 = .ok (.lshl, 1) := by decide +kernel
theorem dX1_moved_401 : decode cX1_moved 401 = .ok (.ldc2_w 27, 3) := by decide +kernel
theorem dX1_moved_404 : decode cX1_moved 404 = .ok (.land, 1) := by decide +kernel
theorem dX1_moved_405 : decode cX1_moved 405 = .ok (.goto 10, 3) := by decide +kernel
theorem dX1_moved_408 : decode cX1_moved 408 = .ok (.lload 7, 2) := by decide +kernel
theorem dX1_moved_410 : decode cX1_moved 410 = .ok (.lload 9, 2) := by decide +kernel
theorem dX1_moved_412 : decode cX1_moved 412 = .ok (.lneg, 1) := by decide +kernel
theorem dX1_moved_413 : decode cX1_moved 413 = .ok (.l2i, 1) := by decide +kernel
theorem dX1_moved_414 : decode cX1_moved 414 = .ok (.lshr, 1) := by decide +kernel
theorem dX1_moved_415 : decode cX1_moved 415 = .ok (.lastore, 1) := by decide +kernel
theorem dX1_moved_416 : decode cX1_moved 416 = .ok (.goto 117, 3) := by decide +kernel
theorem dX1_moved_419 : decode cX1_moved 419 = .ok (.aload_n 0, 1) := by decide +kernel
theorem dX1_moved_420 : decode cX1_moved 420 = .ok (.getfield 7, 3) := by decide +kernel
theorem dX1_moved_423 : decode cX1_moved 423 = .ok (.iload_n 2, 1) := by decide +kernel
theorem dX1_moved_424 : decode cX1_moved 424 = .ok (.lload 7, 2) := by decide +kernel
theorem dX1_moved_426 : decode cX1_moved 426 = .ok (.iload_n 1, 1) := by decide +kernel
theorem dX1_moved_427 : decode cX1_moved 427 = .ok (.sipush 184, 3) := by decide +kernel
theorem dX1_moved_430 : decode cX1_moved 430 = .ok (.if_icmp .ne 8, 3) := by decide +kernel
theorem dX1_moved_433 : decode cX1_moved 433 = .ok (.lload 5, 2) := by decide +kernel
theorem dX1_moved_435 : decode cX1_moved 435 = .ok (.goto 4, 3) := by decide +kernel
theorem dX1_moved_438 : decode cX1_moved 438 = .ok (.lload_n 3, 1) := by decide +kernel
theorem dX1_moved_439 : decode cX1_moved 439 = .ok (.ladd, 1) := by decide +kernel
theorem dX1_moved_440 : decode cX1_moved 440 = .ok (.ldc2_w 27, 3) := by decide +kernel
theorem dX1_moved_443 : decode cX1_moved 443 = .ok (.land, 1) := by decide +kernel
theorem dX1_moved_444 : decode cX1_moved 444 = .ok (.lastore, 1) := by decide +kernel
theorem dX1_moved_445 : decode cX1_moved 445 = .ok (.goto 88, 3) := by decide +kernel
theorem dX1_moved_448 : decode cX1_moved 448 = .ok (.aload_n 0, 1) := by decide +kernel
theorem dX1_moved_449 : decode cX1_moved 449 = .ok (.getfield 7, 3) := by decide +kernel
theorem dX1_moved_452 : decode cX1_moved 452 = .ok (.iload_n 2, 1) := by decide +kernel
theorem dX1_moved_453 : decode cX1_moved 453 = .ok (.lload 7, 2) := by decide +kernel
theorem dX1_moved_455 : decode cX1_moved 455 = .ok (.iload_n 1, 1) := by decide +kernel
theorem dX1_moved_456 : decode cX1_moved 456 = .ok (.sipush 188, 3) := by decide +kernel
theorem dX1_moved_459 : decode cX1_moved 459 = .ok (.if_icmp .ne 8, 3) := by decide +kernel
theorem dX1_moved_462 : decode cX1_moved 462 = .ok (.lload 5, 2) := by decide +kernel
theorem dX1_moved_464 : decode cX1_moved 464 = .ok (.goto 4, 3) := by decide +kernel
theorem dX1_moved_467 : decode cX1_moved 467 = .ok (.lload_n 3, 1) := by decide +kernel
theorem dX1_moved_468 : decode cX1_moved 468 = .ok (.lsub, 1) := by decide +kernel
theorem dX1_moved_469 : decode cX1_moved 469 = .ok (.ldc2_w 27, 3) := by decide +kernel
theorem dX1_moved_472 : decode cX1_moved 472 = .ok (.land, 1) := by decide +kernel
theorem dX1_moved_473 : decode cX1_moved 473 = .ok (.lastore, 1) := by decide +kernel
theorem dX1_moved_474 : decode cX1_moved 474 = .ok (.goto 59, 3) := by decide +kernel
theorem dX1_moved_477 : decode cX1_moved 477 = .ok (.aload_n 0, 1) := by decide +kernel
theorem dX1_moved_478 : decode cX1_moved 478 = .ok (.getfield 7, 3) := by decide +kernel
theorem dX1_moved_481 : decode cX1_moved 481 = .ok (.iload_n 2, 1) := by decide +kernel
theorem dX1_moved_482 : decode cX1_moved 482 = .ok (.lconst 0, 1) := by decide +kernel
theorem dX1_moved_483 : decode cX1_moved 483 = .ok (.lastore, 1) := by decide +kernel
theorem dX1_moved_484 : decode cX1_moved 484 = .ok (.goto 49, 3) := by decide +kernel
theorem dX1_moved_487 : decode cX1_moved 487 = .ok (.aload_n 0, 1) := by decide +kernel
theorem dX1_moved_488 : decode cX1_moved 488 = .ok (.getfield 7, 3) := by decide +kernel
theorem dX1_moved_491 : decode cX1_moved 491 = .ok (.lload_n 3, 1) := by decide +kernel
theorem dX1_moved_492 : decode cX1_moved 492 = .ok (.l2i, 1) := by decide +kernel
theorem dX1_moved_493 : decode cX1_moved 493 = .ok (.lconst 0, 1) := by decide +kernel
theorem dX1_moved_494 : decode cX1_moved 494 = .ok (.lastore, 1) := by decide +kernel
theorem dX1_moved_495 : decode cX1_moved 495 = .ok (.goto 38, 3) := by decide +kernel
theorem dX1_moved_498 : decode cX1_moved 498 = .ok (.aload_n 0, 1) := by decide +kernel
theorem dX1_moved_499 : decode cX1_moved 499 = .ok (.iload_n 1, 1) := by decide +kernel
theorem dX1_moved_500 : decode cX1_moved 500 = .ok (.iload_n 2, 1) := by decide +kernel
theorem dX1_moved_501 : decode cX1_moved 501 = .ok (.lload 7, 2) := by decide +kernel
theorem dX1_moved_503 : decode cX1_moved 503 = .ok (.iload_n 1, 1) := by decide +kernel
theorem dX1_moved_504 : decode cX1_moved 504 = .ok (.sipush 261, 3) := by decide +kernel
theorem dX1_moved_507 : decode cX1_moved 507 = .ok (.if_icmp .eq 17, 3) := by decide +kernel
theorem dX1_moved_510 : decode cX1_moved 510 = .ok (.iload_n 1, 1) := by decide +kernel
theorem dX1_moved_511 : decode cX1_moved 511 = .ok (.sipush 281, 3) := by decide +kernel
theorem dX1_moved_514 : decode cX1_moved 514 = .ok (.if_icmp .eq 10, 3) := by decide +kernel
theorem dX1_moved_517 : decode cX1_moved 517 = .ok (.iload_n 1, 1) := by decide +kernel
theorem dX1_moved_518 : decode cX1_moved 518 = .ok (.sipush 285, 3) := by decide +kernel
theorem dX1_moved_521 : decode cX1_moved 521 = .ok (.if_icmp .ne 7, 3) := by decide +kernel
theorem dX1_moved_524 : decode cX1_moved 524 = .ok (.lload_n 3, 1) := by decide +kernel
theorem dX1_moved_525 : decode cX1_moved 525 = .ok (.goto 5, 3) := by decide +kernel
theorem dX1_moved_528 : decode cX1_moved 528 = .ok (.lload 5, 2) := by decide +kernel
theorem dX1_moved_530 : decode cX1_moved 530 = .ok (.invokevirtual 100, 3) := by decide +kernel
theorem dX1_moved_533 : decode cX1_moved 533 = .ok (.return_, 1) := by decide +kernel
theorem dX1_divided_0 : decode cX1_divided 0 = .ok (.lload 4, 2) := by decide +kernel
theorem dX1_divided_2 : decode cX1_divided 2 = .ok (.lconst 0, 1) := by decide +kernel
theorem dX1_divided_3 : decode cX1_divided 3 = .ok (.lcmp, 1) := by decide +kernel
theorem dX1_divided_4 : decode cX1_divided 4 = .ok (.ifCond .eq 20, 3) := by decide +kernel
theorem dX1_divided_7 : decode cX1_divided 7 = .ok (.lload_n 2, 1) := by decide +kernel
theorem dX1_divided_8 : decode cX1_divided 8 = .ok (.ldc2_w 103, 3) := by decide +kernel
theorem dX1_divided_11 : decode cX1_divided 11 = .ok (.lcmp, 1) := by decide +kernel
theorem dX1_divided_12 : decode cX1_divided 12 = .ok (.ifCond .ne 18, 3) := by decide +kernel
theorem dX1_divided_15 : decode cX1_divided 15 = .ok (.lload 4, 2) := by decide +kernel
theorem dX1_divided_17 : decode cX1_divided 17 = .ok (.ldc2_w 105, 3) := by decide +kernel
theorem dX1_divided_20 : decode cX1_divided 20 = .ok (.lcmp, 1) := by decide +kernel
theorem dX1_divided_21 : decode cX1_divided 21 = .ok (.ifCond .ne 9, 3) := by decide +kernel
theorem dX1_divided_24 : decode cX1_divided 24 = .ok (.aload_n 0, 1) := by decide +kernel
theorem dX1_divided_25 : decode cX1_divided 25 = .ok (.iconst 3, 1) := by decide +kernel
theorem dX1_divided_26 : decode cX1_divided 26 = .ok (.putfield 36, 3) := by decide +kernel
theorem dX1_divided_29 : decode cX1_divided 29 = .ok (.return_, 1) := by decide +kernel
theorem dX1_divided_30 : decode cX1_divided 30 = .ok (.aload_n 0, 1) := by decide +kernel
theorem dX1_divided_31 : decode cX1_divided 31 = .ok (.getfield 7, 3) := by decide +kernel
theorem dX1_divided_34 : decode cX1_divided 34 = .ok (.iload_n 1, 1) := by decide +kernel
theorem dX1_divided_35 : decode cX1_divided 35 = .ok (.lload_n 2, 1) := by decide +kernel
theorem dX1_divided_36 : decode cX1_divided 36 = .ok (.lload 4, 2) := by decide +kernel
theorem dX1_divided_38 : decode cX1_divided 38 = .ok (.ldiv, 1) := by decide +kernel
theorem dX1_divided_39 : decode cX1_divided 39 = .ok (.ldc2_w 27, 3) := by decide +kernel
theorem dX1_divided_42 : decode cX1_divided 42 = .ok (.land, 1) := by decide +kernel
theorem dX1_divided_43 : decode cX1_divided 43 = .ok (.lastore, 1) := by decide +kernel
theorem dX1_divided_44 : decode cX1_divided 44 = .ok (.aload_n 0, 1) := by decide +kernel
theorem dX1_divided_45 : decode cX1_divided 45 = .ok (.getfield 7, 3) := by decide +kernel
theorem dX1_divided_48 : decode cX1_divided 48 = .ok (.iload_n 1, 1) := by decide +kernel
theorem dX1_divided_49 : decode cX1_divided 49 = .ok (.iconst 1, 1) := by decide +kernel
theorem dX1_divided_50 : decode cX1_divided 50 = .ok (.iadd, 1) := by decide +kernel
theorem dX1_divided_51 : decode cX1_divided 51 = .ok (.bipush 15, 2) := by decide +kernel
theorem dX1_divided_53 : decode cX1_divided 53 = .ok (.iand, 1) := by decide +kernel
theorem dX1_divided_54 : decode cX1_divided 54 = .ok (.lload_n 2, 1) := by decide +kernel
theorem dX1_divided_55 : decode cX1_divided 55 = .ok (.lload 4, 2) := by decide +kernel
theorem dX1_divided_57 : decode cX1_divided 57 = .ok (.lrem, 1) := by decide +kernel
theorem dX1_divided_58 : decode cX1_divided 58 = .ok (.ldc2_w 27, 3) := by decide +kernel
theorem dX1_divided_61 : decode cX1_divided 61 = .ok (.land, 1) := by decide +kernel
theorem dX1_divided_62 : decode cX1_divided 62 = .ok (.lastore, 1) := by decide +kernel
theorem dX1_divided_63 : decode cX1_divided 63 = .ok (.return_, 1) := by decide +kernel
set_option maxRecDepth 20000 in
theorem ggX1_bits_X1_half : GoodIn wsX1_bits wsX1_half := goodIn_r _ [8, 9, 4] (by decide +kernel) (by decide +kernel)
set_option maxRecDepth 20000 in
theorem gX1_bits_X1_half : GoodIn wsX1_bits (va_wsS RX1 88 yX1_half wsX1_half) := goodIn_app (goodIn_of _ (by decide +kernel)) ggX1_bits_X1_half
theorem dX1_bits_0 : decode cX1_bits 0 = .ok (.iload_n 1, 1) := by decide +kernel
theorem dX1_bits_1 : decode cX1_bits 1 = .ok (.lookupswitch 251 #[(260, 107), (261, 107), (280, 120), (281, 120), (284, 133), (285, 133), (296, 146), (320, 164), (324, 179), (352, 203), (356, 218), (360, 236)], 107) := by decide +kernel
theorem dX1_bits_108 : decode cX1_bits 108 = .ok (.aload_n 0, 1) := by decide +kernel
theorem dX1_bits_109 : decode cX1_bits 109 = .ok (.getfield 7, 3) := by decide +kernel
theorem dX1_bits_112 : decode cX1_bits 112 = .ok (.iload_n 2, 1) := by decide +kernel
theorem dX1_bits_113 : decode cX1_bits 113 = .ok (.lload_n 3, 1) := by decide +kernel
theorem dX1_bits_114 : decode cX1_bits 114 = .ok (.lload 5, 2) := by decide +kernel
theorem dX1_bits_116 : decode cX1_bits 116 = .ok (.land, 1) := by decide +kernel
theorem dX1_bits_117 : decode cX1_bits 117 = .ok (.lastore, 1) := by decide +kernel
theorem dX1_bits_118 : decode cX1_bits 118 = .ok (.goto 145, 3) := by decide +kernel
theorem dX1_bits_121 : decode cX1_bits 121 = .ok (.aload_n 0, 1) := by decide +kernel
theorem dX1_bits_122 : decode cX1_bits 122 = .ok (.getfield 7, 3) := by decide +kernel
theorem dX1_bits_125 : decode cX1_bits 125 = .ok (.iload_n 2, 1) := by decide +kernel
theorem dX1_bits_126 : decode cX1_bits 126 = .ok (.lload_n 3, 1) := by decide +kernel
theorem dX1_bits_127 : decode cX1_bits 127 = .ok (.lload 5, 2) := by decide +kernel
theorem dX1_bits_129 : decode cX1_bits 129 = .ok (.lxor, 1) := by decide +kernel
theorem dX1_bits_130 : decode cX1_bits 130 = .ok (.lastore, 1) := by decide +kernel
theorem dX1_bits_131 : decode cX1_bits 131 = .ok (.goto 132, 3) := by decide +kernel
theorem dX1_bits_134 : decode cX1_bits 134 = .ok (.aload_n 0, 1) := by decide +kernel
theorem dX1_bits_135 : decode cX1_bits 135 = .ok (.getfield 7, 3) := by decide +kernel
theorem dX1_bits_138 : decode cX1_bits 138 = .ok (.iload_n 2, 1) := by decide +kernel
theorem dX1_bits_139 : decode cX1_bits 139 = .ok (.lload_n 3, 1) := by decide +kernel
theorem dX1_bits_140 : decode cX1_bits 140 = .ok (.lload 5, 2) := by decide +kernel
theorem dX1_bits_142 : decode cX1_bits 142 = .ok (.lor, 1) := by decide +kernel
theorem dX1_bits_143 : decode cX1_bits 143 = .ok (.lastore, 1) := by decide +kernel
theorem dX1_bits_144 : decode cX1_bits 144 = .ok (.goto 119, 3) := by decide +kernel
theorem dX1_bits_147 : decode cX1_bits 147 = .ok (.aload_n 0, 1) := by decide +kernel
theorem dX1_bits_148 : decode cX1_bits 148 = .ok (.getfield 7, 3) := by decide +kernel
theorem dX1_bits_151 : decode cX1_bits 151 = .ok (.iload_n 2, 1) := by decide +kernel
theorem dX1_bits_152 : decode cX1_bits 152 = .ok (.lload_n 3, 1) := by decide +kernel
theorem dX1_bits_153 : decode cX1_bits 153 = .ok (.ldc2_w 105, 3) := by decide +kernel
theorem dX1_bits_156 : decode cX1_bits 156 = .ok (.lxor, 1) := by decide +kernel
theorem dX1_bits_157 : decode cX1_bits 157 = .ok (.ldc2_w 27, 3) := by decide +kernel
theorem dX1_bits_160 : decode cX1_bits 160 = .ok (.land, 1) := by decide +kernel
theorem dX1_bits_161 : decode cX1_bits 161 = .ok (.lastore, 1) := by decide +kernel
theorem dX1_bits_162 : decode cX1_bits 162 = .ok (.goto 101, 3) := by decide +kernel
theorem dX1_bits_165 : decode cX1_bits 165 = .ok (.aload_n 0, 1) := by decide +kernel
theorem dX1_bits_166 : decode cX1_bits 166 = .ok (.getfield 7, 3) := by decide +kernel
theorem dX1_bits_169 : decode cX1_bits 169 = .ok (.iload_n 2, 1) := by decide +kernel
theorem dX1_bits_170 : decode cX1_bits 170 = .ok (.lload 5, 2) := by decide +kernel
theorem dX1_bits_172 : decode cX1_bits 172 = .ok (.lload_n 3, 1) := by decide +kernel
theorem dX1_bits_173 : decode cX1_bits 173 = .ok (.invokestatic 88, 3) := by decide +kernel
theorem dX1_bits_176 : decode cX1_bits 176 = .ok (.lastore, 1) := by decide +kernel
theorem dX1_bits_177 : decode cX1_bits 177 = .ok (.goto 86, 3) := by decide +kernel
theorem dX1_bits_180 : decode cX1_bits 180 = .ok (.aload_n 0, 1) := by decide +kernel
theorem dX1_bits_181 : decode cX1_bits 181 = .ok (.getfield 7, 3) := by decide +kernel
theorem dX1_bits_184 : decode cX1_bits 184 = .ok (.iload_n 2, 1) := by decide +kernel
theorem dX1_bits_185 : decode cX1_bits 185 = .ok (.lload 5, 2) := by decide +kernel
theorem dX1_bits_187 : decode cX1_bits 187 = .ok (.ldc2_w 31, 3) := by decide +kernel
theorem dX1_bits_190 : decode cX1_bits 190 = .ok (.land, 1) := by decide +kernel
theorem dX1_bits_191 : decode cX1_bits 191 = .ok (.bipush 18, 2) := by decide +kernel
theorem dX1_bits_193 : decode cX1_bits 193 = .ok (.lshl, 1) := by decide +kernel
theorem dX1_bits_194 : decode cX1_bits 194 = .ok (.lload_n 3, 1) := by decide +kernel
theorem dX1_bits_195 : decode cX1_bits 195 = .ok (.ldc2_w 31, 3) := by decide +kernel
theorem dX1_bits_198 : decode cX1_bits 198 = .ok (.land, 1) := by decide +kernel
theorem dX1_bits_199 : decode cX1_bits 199 = .ok (.lor, 1) := by decide +kernel
theorem dX1_bits_200 : decode cX1_bits 200 = .ok (.lastore, 1) := by decide +kernel
theorem dX1_bits_201 : decode cX1_bits 201 = .ok (.goto 62, 3) := by decide +kernel
theorem dX1_bits_204 : decode cX1_bits 204 = .ok (.aload_n 0, 1) := by decide +kernel
theorem dX1_bits_205 : decode cX1_bits 205 = .ok (.getfield 7, 3) := by decide +kernel
theorem dX1_bits_208 : decode cX1_bits 208 = .ok (.iload_n 2, 1) := by decide +kernel
theorem dX1_bits_209 : decode cX1_bits 209 = .ok (.lload_n 3, 1) := by decide +kernel
theorem dX1_bits_210 : decode cX1_bits 210 = .ok (.lload 5, 2) := by decide +kernel
theorem dX1_bits_212 : decode cX1_bits 212 = .ok (.invokestatic 88, 3) := by decide +kernel
theorem dX1_bits_215 : decode cX1_bits 215 = .ok (.lastore, 1) := by decide +kernel
theorem dX1_bits_216 : decode cX1_bits 216 = .ok (.goto 47, 3) := by decide +kernel
theorem dX1_bits_219 : decode cX1_bits 219 = .ok (.aload_n 0, 1) := by decide +kernel
theorem dX1_bits_220 : decode cX1_bits 220 = .ok (.getfield 7, 3) := by decide +kernel
theorem dX1_bits_223 : decode cX1_bits 223 = .ok (.iload_n 2, 1) := by decide +kernel
theorem dX1_bits_224 : decode cX1_bits 224 = .ok (.lload_n 3, 1) := by decide +kernel
theorem dX1_bits_225 : decode cX1_bits 225 = .ok (.lload 5, 2) := by decide +kernel
theorem dX1_bits_227 : decode cX1_bits 227 = .ok (.bipush 18, 2) := by decide +kernel
theorem dX1_bits_229 : decode cX1_bits 229 = .ok (.lshr, 1) := by decide +kernel
theorem dX1_bits_230 : decode cX1_bits 230 = .ok (.invokestatic 88, 3) := by decide +kernel
theorem dX1_bits_233 : decode cX1_bits 233 = .ok (.lastore, 1) := by decide +kernel
theorem dX1_bits_234 : decode cX1_bits 234 = .ok (.goto 29, 3) := by decide +kernel
theorem dX1_bits_237 : decode cX1_bits 237 = .ok (.aload_n 0, 1) := by decide +kernel
theorem dX1_bits_238 : decode cX1_bits 238 = .ok (.getfield 7, 3) := by decide +kernel
theorem dX1_bits_241 : decode cX1_bits 241 = .ok (.iload_n 2, 1) := by decide +kernel
theorem dX1_bits_242 : decode cX1_bits 242 = .ok (.lload 5, 2) := by decide +kernel
theorem dX1_bits_244 : decode cX1_bits 244 = .ok (.ldc2_w 31, 3) := by decide +kernel
theorem dX1_bits_247 : decode cX1_bits 247 = .ok (.land, 1) := by decide +kernel
theorem dX1_bits_248 : decode cX1_bits 248 = .ok (.lastore, 1) := by decide +kernel
theorem dX1_bits_249 : decode cX1_bits 249 = .ok (.goto 14, 3) := by decide +kernel
theorem dX1_bits_252 : decode cX1_bits 252 = .ok (.aload_n 0, 1) := by decide +kernel
theorem dX1_bits_253 : decode cX1_bits 253 = .ok (.getfield 7, 3) := by decide +kernel
theorem dX1_bits_256 : decode cX1_bits 256 = .ok (.iload_n 2, 1) := by decide +kernel
theorem dX1_bits_257 : decode cX1_bits 257 = .ok (.lload 5, 2) := by decide +kernel
theorem dX1_bits_259 : decode cX1_bits 259 = .ok (.bipush 18, 2) := by decide +kernel
theorem dX1_bits_261 : decode cX1_bits 261 = .ok (.lshr, 1) := by decide +kernel
theorem dX1_bits_262 : decode cX1_bits 262 = .ok (.lastore, 1) := by decide +kernel
theorem dX1_bits_263 : decode cX1_bits 263 = .ok (.return_, 1) := by decide +kernel
theorem dX1_count_0 : decode cX1_count 0 = .ok (.aload_n 0, 1) := by decide +kernel
theorem dX1_count_1 : decode cX1_count 1 = .ok (.iconst 0, 1) := by decide +kernel
theorem dX1_count_2 : decode cX1_count 2 = .ok (.putfield 13, 3) := by decide +kernel
theorem dX1_count_5 : decode cX1_count 5 = .ok (.iload_n 1, 1) := by decide +kernel
theorem dX1_count_6 : decode cX1_count 6 = .ok (.ifCond .ne 10, 3) := by decide +kernel
theorem dX1_count_9 : decode cX1_count 9 = .ok (.aload_n 0, 1) := by decide +kernel
theorem dX1_count_10 : decode cX1_count 10 = .ok (.getfield 33, 3) := by decide +kernel
theorem dX1_count_13 : decode cX1_count 13 = .ok (.goto 33, 3) := by decide +kernel
theorem dX1_count_16 : decode cX1_count 16 = .ok (.iload_n 1, 1) := by decide +kernel
theorem dX1_count_17 : decode cX1_count 17 = .ok (.iconst 1, 1) := by decide +kernel
theorem dX1_count_18 : decode cX1_count 18 = .ok (.if_icmp .ne 15, 3) := by decide +kernel
theorem dX1_count_21 : decode cX1_count 21 = .ok (.aload_n 0, 1) := by decide +kernel
theorem dX1_count_22 : decode cX1_count 22 = .ok (.getfield 52, 3) := by decide +kernel
theorem dX1_count_25 : decode cX1_count 25 = .ok (.ldc2_w 107, 3) := by decide +kernel
theorem dX1_count_28 : decode cX1_count 28 = .ok (.land, 1) := by decide +kernel
theorem dX1_count_29 : decode cX1_count 29 = .ok (.l2i, 1) := by decide +kernel
theorem dX1_count_30 : decode cX1_count 30 = .ok (.goto 16, 3) := by decide +kernel
theorem dX1_count_33 : decode cX1_count 33 = .ok (.iload_n 1, 1) := by decide +kernel
theorem dX1_count_34 : decode cX1_count 34 = .ok (.iconst 2, 1) := by decide +kernel
theorem dX1_count_35 : decode cX1_count 35 = .ok (.if_icmp .ne 10, 3) := by decide +kernel
theorem dX1_count_38 : decode cX1_count 38 = .ok (.aload_n 0, 1) := by decide +kernel
theorem dX1_count_39 : decode cX1_count 39 = .ok (.getfield 45, 3) := by decide +kernel
theorem dX1_count_42 : decode cX1_count 42 = .ok (.goto 4, 3) := by decide +kernel
theorem dX1_count_45 : decode cX1_count 45 = .ok (.iconst (-1), 1) := by decide +kernel
theorem dX1_count_46 : decode cX1_count 46 = .ok (.ireturn, 1) := by decide +kernel
end
section
section MB
theorem vp_mono {x : Int32} {n k : Nat} (h : vp_in x n) (hk : n ≤ k) : vp_in x k := by
  rw [vp_in_iff] at h ⊢
  omega
theorem vp_nonneg {x : Int32} {n : Nat} (h : vp_in x n) : ¬ x < 0 := fun q => h (Or.inl q)
theorem vp_below {x k : Int32} {n : Nat} (h0 : ¬ x < 0) (h : x < k) (hk : k.toInt = n) : vp_in x n := by
  rw [vp_in_iff]
  rw [Int32.lt_iff_toInt_lt] at h h0
  have h1 : (0 : Int32).toInt = 0 := by decide
  rw [h1] at h0
  rw [hk] at h
  omega
theorem vp_le {x k : Int32} {n : Nat} (h0 : ¬ x < 0) (h : x ≤ k) (hk : k.toInt + 1 = n) : vp_in x n := by
  rw [vp_in_iff]
  rw [Int32.lt_iff_toInt_lt] at h0
  rw [Int32.le_iff_toInt_le] at h
  have h1 : (0 : Int32).toInt = 0 := by decide
  rw [h1] at h0
  omega
theorem vp_and15 (x : Int32) : vp_in (x &&& 15) 4096 := vp_mono (pk_andIn x 4 rfl (by decide)) (by decide)
theorem vp_and4095 (x : Int32) : vp_in (x &&& 4095) 4096 := pk_andIn x 12 rfl (by decide)
theorem vp_and18 (x : Int32) : vp_in (x &&& 262143) 262144 := pk_andIn x 18 rfl (by decide)
theorem vp_0 {n : Nat} (h : 0 < n) : vp_in 0 n := by
  rw [vp_in_iff]
  have h1 : (0 : Int32).toInt = 0 := by decide
  rw [h1]
  omega
abbrev rv_i : Int32 → Option Value := fun r => some (.int r)
abbrev rv_l : Int64 → Option Value := fun r => some (.long r)
abbrev rv_v : Unit → Option Value := fun _ => none
/-- what holds in a body -/
def cx (p : Program) (s : State) (m : MethodId) (meth : Method) (c : Code) (cc : ByteArray) (ret : Option FieldType) (nL : Nat) (own : String) (args : Array Value) (ws : List Cond) : Prop :=
  p.tables.exec = Jvm.exec ∧ c.code = cc ∧ meth.sig.returnType = ret ∧ c.maxLocals = nL ∧ s.vm.findClass own = some m.cls ∧ (∀ w ∈ ws, w.before args s = true) ∧ meth.locks = false
theorem cx_of {p : Program} {l : Launch} {y : MethodName} {cc : ByteArray} {maxL : Nat} {ret : Option FieldType} {rm : Room} {ws : List Cond} {e : Env} {s : State} {m : MethodId} {args : Array Value} {below : List Frame} {meth : Method} {c : Code} {s₁ : State}
    (B : BodyLoose p l y (headSpec ws rm) cc maxL ret e s m args below meth c s₁) (hml : c.maxLocals = maxL) : cx p s m meth c cc ret maxL y.cls args ws :=
  ⟨B.exec, B.bytes, B.returns, hml, findClass_of_methodNamed B.named, atoms_spec (ws := ws) B.pre, B.notSynchronized⟩
/-- a static method that reads nothing -/
def PS {ρ : Type} (l : Launch) (y : MethodName) (ws : List Cond) (rm : Room) (As : List Value) (rv : ρ → Option Value) (post : ρ → Prop) : Prop :=
  Met l y ws rm (fun a _ => a = As.toArray) (fun _ st o t => ∃ r : ρ, o = .returned (rv r) ∧ post r ∧ t.heap = st.heap) 0 0 (fun _ => False)
theorem ps_of {ρ : Type} {l : Launch} {y : MethodName} {ws ws' : List Cond} {cc : ByteArray} {maxL : Nat} {ret : Option FieldType} {rm : Room} {rv : ρ → Option Value} {post : ρ → Prop} {As : List Value} (hy : plainName y.cls = true) (hw : ws = Cond.code y cc maxL ret :: ws') (hn : (lg_sl As).length ≤ maxL)
    (body : ∀ (p : Program) (e : Env) (s : State) (m : MethodId) (below : List Frame) (meth : Method) (c : Code) (ls : Array Slot), cx p s m meth c cc ret maxL y.cls As.toArray ws → lv_has ls maxL (lv_args 0 As) →
      W p l e rm s m As.toArray below meth c s.heap [] 0 0 (MQ below (fun _ st o t => ∃ r : ρ, o = .returned (rv r) ∧ post r ∧ t.heap = st.heap) As.toArray s 0 0 (fun _ => False)) (F0 m 0 ls [])) :
    PS l y ws rm As rv post := by
  refine Met.ofW (cc := cc) (maxL := maxL) (ret := ret) hy hw ?_
  intro p e s m args below meth c s₁ B hml hv
  subst hv
  have hl := lv_entry As (n := maxL) hn
  rw [lg_entry_eq]
  exact body p e s m below meth c _ (cx_of B hml) hl
/-- the world of a method -/
def mm_P (D : va_G) (cl : List vw_C) (tys : List (ClassId × FieldType)) (w : va_W) (U : State) : Prop := va_P D cl w U.heap ∧ va_K D cl tys U ∧ va_D (fun _ => True) w
def mm_Q {ρ S : Type} (rv : ρ → Option Value) (D : va_G) (cl : List vw_C) (tys : List (ClassId × FieldType)) (post : ρ → S → Prop) (mw : S → va_W) (A : Nat → Prop) : Array Value → State → Outcome → State → Prop := fun _ st o t => (∃ (r : ρ) (u : S), o = .returned (rv r) ∧ post r u ∧ mm_P D cl tys (mw u) t) ∧ va_F A st t
def MM {ρ S : Type} (l : Launch) (y : MethodName) (ws : List Cond) (rm : Room) (D : va_G) (cl : List vw_C) (tys : List (ClassId × FieldType)) (mw : S → va_W) (A : Nat → Prop) (u : S) (As : List Value) (rv : ρ → Option Value) (post : ρ → S → Prop) : Prop :=
  Met l y ws rm (va_Pc As (mm_P D cl tys (mw u))) (mm_Q rv D cl tys post mw A) 0 0 A
theorem mm_blind {D : va_G} {cl : List vw_C} {tys : List (ClassId × FieldType)} {w : va_W} {As : List Value} : FrameBlind (va_Pc As (mm_P D cl tys w)) := fun a U g mk q => by
  obtain ⟨q0, qP, qK, qD⟩ := q
  exact ⟨q0, qP, va_K.moved (u := U) (U := U.calling g mk a) (Vm.Alike.refl U.vm) qK, qD⟩
theorem mm_of {ρ S : Type} {l : Launch} {y : MethodName} {ws ws' : List Cond} {cc : ByteArray} {maxL : Nat} {ret : Option FieldType} {rm : Room} {D : va_G} {cl : List vw_C} {tys : List (ClassId × FieldType)} {mw : S → va_W} {A : Nat → Prop} {u : S} {rv : ρ → Option Value} {post : ρ → S → Prop} {As : List Value} (hy : plainName y.cls = true) (hw : ws = Cond.code y cc maxL ret :: ws') (hn : (lg_sl As).length ≤ maxL) (hA : ∀ (k : Nat) (q : Nat × va_E), (mw u)[k]? = some q → A q.1)
    (body : ∀ (p : Program) (e : Env) (s : State) (m : MethodId) (below : List Frame) (meth : Method) (c : Code) (ls : Array Slot), cx p s m meth c cc ret maxL y.cls As.toArray ws → lv_has ls maxL (lv_args 0 As) →
      va_P D cl (mw u) s.heap → va_K D cl tys s → va_D A (mw u) → va_S A s.heap s.heap [] →
      W p l e rm s m As.toArray below meth c s.heap [] 0 0 (MQ below (mm_Q rv D cl tys post mw A) As.toArray s 0 0 A) (F0 m 0 ls [])) :
    MM l y ws rm D cl tys mw A u As rv post := by
  refine Met.ofW (cc := cc) (maxL := maxL) (ret := ret) hy hw ?_
  intro p e s m args below meth c s₁ B hml hv
  obtain ⟨rfl, hP, hK, hD⟩ := hv
  have hl := lv_entry As (n := maxL) hn
  rw [lg_entry_eq]
  exact body p e s m below meth c _ (cx_of B hml) hl hP hK ⟨hD.1, hA⟩ va_S.rf
theorem mm_adr {A : Nat → Prop} {w w1 : va_W} (h : va_D A w) (e : w1.map Prod.fst = w.map Prod.fst) : va_D A w1 := by
  have key : ∀ (k : Nat) (q : Nat × va_E), w1[k]? = some q → ∃ q' : Nat × va_E, w[k]? = some q' ∧ q'.1 = q.1 := by
    intro k q hk
    have h1 : (w1.map Prod.fst)[k]? = some q.1 := by rw [List.getElem?_map, hk]; rfl
    rw [e, List.getElem?_map] at h1
    cases hw : w[k]? with
    | none => rw [hw] at h1; cases h1
    | some q' => rw [hw] at h1; exact ⟨q', rfl, Option.some.inj h1⟩
  refine ⟨fun i j x y hi hj hxy => ?_, fun k q hk => ?_⟩
  · obtain ⟨x', h1, h2⟩ := key i x hi
    obtain ⟨y', h3, h4⟩ := key j y hj
    exact h.1 i j x' y' h1 h3 (by rw [h2, h4]; exact hxy)
  · obtain ⟨q', h1, h2⟩ := key k q hk
    rw [← h2]
    exact h.2 k q' h1
end MB
section MR
variable {p : Program} {l : Launch} {e : Env} {R : Room} {s : State} {m : MethodId} {args : Array Value} {below : List Frame} {meth : Method} {c : Code} {H : Heap} {locs : List Loc} {cells slots : Nat} {Q : State → Prop}
variable {y : MethodName} {bytes cc : ByteArray} {maxL nL n index pc : Nat} {ret : Option FieldType} {ws : List Cond} {rm : Room} {Ts : List Cond} {own : String} {b : Addr} {As rest st0 : List Value} {ls : Array Slot} {D : va_G} {cl : List vw_C} {tys : List (ClassId × FieldType)} {w : va_W} {A : Nat → Prop} {a : Array Value}
/-- a static call of a method that reads nothing -/
theorem ps_go {ρ : Type} {rv : ρ → Option Value} {post : ρ → Prop} (S : CallFix p m c cc nL s args Ts own) (hM : PS l y ws rm As rv post) (cw : CallB R s args own index y bytes maxL ret ws rm 0 0 n ∧ (Cond.static y).before args s = true)
    (hn : As.length = n) (hsize : ls.size = nL) (hstack : st0 = As.reverse ++ rest) (hW : (rest.map fun v => v.category).sum ≤ 8) (hdg : decode cc pc = .ok (.invokestatic index, 3)) (hf : cells ≤ R.cells ∧ slots ≤ R.slots)
    (kk : ∀ r : ρ, post r → W p l e R s m args below meth c H locs cells slots Q (F0 m (pc + 3) ls ((rv r).toList ++ rest))) : W p l e R s m args below meth c H locs cells slots Q (F0 m pc ls st0) := by
  intro T hT X
  obtain ⟨v', st₀, t, T', L, h0, X', hL, e1, ⟨r, hv, hq, hh⟩, st⟩ := W.runS (g := F0 m pc ls st0) S hM cw preEq rfl hn hsize hstack (lv_room hW) hdg hf T hT X
  cases hv
  obtain ⟨t2, a1, b1⟩ := kk r hq T' (by rw [e1, hh, h0]) (Stand.forget X' (fun q h => (hL q h).elim))
  exact ⟨t2, st t2 a1, b1⟩
theorem ps_goi {post : Int32 → Prop} (S : CallFix p m c cc nL s args Ts own) (hM : PS l y ws rm As rv_i post) (cw : CallB R s args own index y bytes maxL ret ws rm 0 0 n ∧ (Cond.static y).before args s = true)
    (hn : As.length = n) (hsize : ls.size = nL) (hstack : st0 = As.reverse ++ rest) (hW : (rest.map fun v => v.category).sum ≤ 8) (hdg : decode cc pc = .ok (.invokestatic index, 3)) (hf : cells ≤ R.cells ∧ slots ≤ R.slots)
    (kk : ∀ r : Int32, post r → W p l e R s m args below meth c H locs cells slots Q (F0 m (pc + 3) ls (.int r :: rest))) : W p l e R s m args below meth c H locs cells slots Q (F0 m pc ls st0) := ps_go S hM cw hn hsize hstack hW hdg hf kk
theorem ps_gol {post : Int64 → Prop} (S : CallFix p m c cc nL s args Ts own) (hM : PS l y ws rm As rv_l post) (cw : CallB R s args own index y bytes maxL ret ws rm 0 0 n ∧ (Cond.static y).before args s = true)
    (hn : As.length = n) (hsize : ls.size = nL) (hstack : st0 = As.reverse ++ rest) (hW : (rest.map fun v => v.category).sum ≤ 8) (hdg : decode cc pc = .ok (.invokestatic index, 3)) (hf : cells ≤ R.cells ∧ slots ≤ R.slots)
    (kk : ∀ r : Int64, post r → W p l e R s m args below meth c H locs cells slots Q (F0 m (pc + 3) ls (.long r :: rest))) : W p l e R s m args below meth c H locs cells slots Q (F0 m pc ls st0) := ps_go S hM cw hn hsize hstack hW hdg hf kk
/-- behind a call of a method of a world: isC are the places of its cells, isR those of the others -/
theorem mm_back {ρ S : Type} {rv : ρ → Option Value} {post : ρ → S → Prop} {mw : S → va_W} {tysc : List (ClassId × FieldType)} {u : S} {wr : va_W} {Ac : Nat → Prop} {mc ms : Nat} (hr : va_Run p l e R s m args below meth c H locs cells slots mc ms (F0 m pc ls st0) rest (mm_Q rv D cl tysc post mw Ac a) Ac) (hP : va_P D cl w H) (hD : va_D A w) (hS : va_S A s.heap H locs)
    (isR isC : List Nat) (hC : (isR ++ isC).map (fun i => w[i]?) = (wr ++ mw u).map some) (hnd : va_nd (isR ++ isC) = true) (hAc : ∀ q, Ac q → ∃ e', (q, e') ∈ mw u) (hadr : ∀ u' : S, (mw u').map Prod.fst = (mw u).map Prod.fst)
    (kk : ∀ (r : ρ) (u' : S) (H1 : Heap) (locs1 : List Loc), post r u' → va_P D cl (wr ++ mw u') H1 → va_D A (wr ++ mw u') → va_S A s.heap H1 locs1 → W p l e R s m args below meth c H1 locs1 (cells + mc) (slots + ms) Q (F0 m (pc + 3) ls ((rv r).toList ++ rest))) : W p l e R s m args below meth c H locs cells slots Q (F0 m pc ls st0) := by
  have hDs : va_D A (wr ++ mw u) := hD.sub (isR ++ isC) hnd hC
  have hPs : va_P D cl (wr ++ mw u) H := by
    intro k q hk
    have h1 : ((isR ++ isC).map (fun i => w[i]?))[k]? = some (some q) := by rw [hC, List.getElem?_map, hk]; rfl
    rw [List.getElem?_map] at h1
    cases hi : (isR ++ isC)[k]? with
    | none => rw [hi] at h1; cases h1
    | some i => rw [hi] at h1; exact hP i q (Option.some.inj h1)
  have hat : ∀ q, Ac q → ∃ k e', (wr ++ mw u)[wr.length + k]? = some (q, e') := by
    intro q hq
    obtain ⟨e', he⟩ := hAc q hq
    obtain ⟨k, hk⟩ := List.mem_iff_getElem?.mp he
    exact ⟨k, e', by rw [List.getElem?_append_right (by omega)]; rw [show wr.length + k - wr.length = k by omega]; exact hk⟩
  have hin : ∀ q, Ac q → A q := by
    intro q hq
    obtain ⟨k, e', hk⟩ := hat q hq
    exact hDs.2 _ (q, e') hk
  intro T hT X
  obtain ⟨v', st₀, t, T', L, h0, X', hL, e1, e2, ⟨⟨r, u', hv, hq, hP1, hK1, hD1⟩, hz, hk⟩, st⟩ := hr T hT X
  cases hv
  rw [h0] at hz hk
  have hw : va_P D cl (wr ++ mw u') T'.heap := by
    refine va_P.app (fun k q hq => ?_) (by rw [e1]; exact hP1)
    have hlt := (List.getElem?_eq_some_iff.mp hq).1
    have hq' : (wr ++ mw u)[k]? = some q := by rw [List.getElem?_append_left hlt]; exact hq
    have hl := (hPs k q hq').lt
    refine (hPs k q hq').kept ?_
    rw [e1]
    refine hk q.1 hl (fun ha => ?_)
    obtain ⟨k2, e', h3⟩ := hat q.1 ha
    have := hDs.1 k (wr.length + k2) q (q.1, e') hq' h3 rfl
    omega
  obtain ⟨t2, a1, b1⟩ := kk r u' T'.heap (locs ++ L) hq hw (mm_adr hDs (by rw [List.map_append, List.map_append, hadr]))
    ⟨Nat.le_trans hS.1 (by rw [e1]; exact hz), fun q h1 h2 => by rw [e1, hk q (Nat.lt_of_lt_of_le h1 hS.1) (fun z => h2 (hin q z))]; exact hS.2.1 q h1 h2, fun q hq => by
      rcases List.mem_append.mp hq with h | h
      · exact hS.2.2 q h
      · exact hin _ (hL q h)⟩ T' rfl X'
  exact ⟨t2, st t2 a1, b1⟩
theorem mm_pre {ci q0 : Nat} {q : vw_C} {fs : List Value} (hK : va_K D cl tys s) (hP : va_P D cl w H) (hD : va_D A w) (hc : cl[ci]? = some q) (he : w[q0]? = some (b, .inr (ci, fs))) : PreV s H q.1 b (va_Pc (.ref b :: As) (mm_P D cl tys w)) As :=
  ⟨mm_blind, va_recv hK hP hc he, fun U hU hW => ⟨rfl, by rw [hU]; exact hP, va_K.moved hW.alike hK, hD.weaken (fun _ _ _ _ => trivial)⟩⟩
/-- a call of a method of the same object: the whole world is its -/
theorem mm_go {ρ S : Type} {rv : ρ → Option Value} {post : ρ → S → Prop} {mw : S → va_W} {u : S} {ci q0 : Nat} {q : vw_C} {fs : List Value} (S0 : CallFix p m c cc nL s args Ts own) (hM : MM l y ws rm D cl tys mw A u (.ref b :: As) rv post) (cw : CallW R s args own q.1 index y bytes maxL ret ws rm 0 0 n) (hK : va_K D cl tys s) (hP : va_P D cl (mw u) H) (hD : va_D A (mw u)) (hS : va_S A s.heap H locs)
    (hc : cl[ci]? = some q) (he : (mw u)[q0]? = some (b, .inr (ci, fs))) (isC : List Nat) (hC : isC.map (fun i => (mw u)[i]?) = (mw u).map some) (hnd : va_nd isC = true) (hAc : ∀ q, A q → ∃ e', (q, e') ∈ mw u) (hadr : ∀ u' : S, (mw u').map Prod.fst = (mw u).map Prod.fst)
    (hn : As.length = n) (hsize : ls.size = nL) (hstack : st0 = As.reverse ++ .ref b :: rest) (hW : (rest.map fun v => v.category).sum ≤ 8) (hdg : decode cc pc = .ok (.invokevirtual index, 3)) (hf : cells ≤ R.cells ∧ slots ≤ R.slots)
    (kk : ∀ (r : ρ) (u' : S) (H1 : Heap) (locs1 : List Loc), post r u' → va_P D cl (mw u') H1 → va_D A (mw u') → va_S A s.heap H1 locs1 → W p l e R s m args below meth c H1 locs1 cells slots Q (F0 m (pc + 3) ls ((rv r).toList ++ rest))) : W p l e R s m args below meth c H locs cells slots Q (F0 m pc ls st0) :=
  mm_back (wr := []) (u := u) (va_runV (g := F0 m pc ls st0) S0 hM cw (mm_pre hK hP hD hc he) rfl hn hsize hstack (lv_room hW) hdg hf) hP hD hS [] isC hC hnd hAc hadr kk
/-- the ends -/
theorem ps_iret {r : Int32} {post : Int32 → Prop} (hx : p.tables.exec = Jvm.exec) (hb : c.code = cc) (hr : meth.sig.returnType = some .int) (hlocks : meth.locks = false) (hdg : decode cc pc = .ok (.ireturn, 1)) (hq : post r) : W p l e R s m args below meth c s.heap [] 0 0 (MQ below (fun _ st o t => ∃ r : Int32, o = .returned (rv_i r) ∧ post r ∧ t.heap = st.heap) args s 0 0 (fun _ => False)) (F0 m pc ls [.int r]) :=
  W.iret hx hb hr (fun t ht _ => ⟨r, rfl, hq, ht⟩) (fun _ h => by cases h) hdg
theorem ps_zret {r : Int32} {post : Int32 → Prop} (hx : p.tables.exec = Jvm.exec) (hb : c.code = cc) (hr : meth.sig.returnType = some .boolean) (hlocks : meth.locks = false) (hdg : decode cc pc = .ok (.ireturn, 1)) (hn : narrow .boolean (.int r) = .int r) (hq : post r) : W p l e R s m args below meth c s.heap [] 0 0 (MQ below (fun _ st o t => ∃ r : Int32, o = .returned (rv_i r) ∧ post r ∧ t.heap = st.heap) args s 0 0 (fun _ => False)) (F0 m pc ls [.int r]) :=
  W.zret hx hb hr hn (fun t ht _ => ⟨r, rfl, hq, ht⟩) (fun _ h => by cases h) hdg
theorem ps_lret {r : Int64} {post : Int64 → Prop} (hx : p.tables.exec = Jvm.exec) (hb : c.code = cc) (hr : meth.sig.returnType = some .long) (hlocks : meth.locks = false) (hdg : decode cc pc = .ok (.lreturn, 1)) (hq : post r) : W p l e R s m args below meth c s.heap [] 0 0 (MQ below (fun _ st o t => ∃ r : Int64, o = .returned (rv_l r) ∧ post r ∧ t.heap = st.heap) args s 0 0 (fun _ => False)) (F0 m pc ls [.long r]) :=
  W.lret hx hb hr (fun t ht _ => ⟨r, rfl, hq, ht⟩) (fun _ h => by cases h) hdg
theorem mm_iret {S : Type} {mw : S → va_W} {post : Int32 → S → Prop} {r : Int32} {u1 : S} (hx : p.tables.exec = Jvm.exec) (hb : c.code = cc) (hr : meth.sig.returnType = some .int) (hlocks : meth.locks = false) (hP : va_P D cl (mw u1) H) (hK : va_K D cl tys s) (hD : va_D A (mw u1)) (hS : va_S A s.heap H locs) (hdg : decode cc pc = .ok (.ireturn, 1)) (hq : post r u1) :
    W p l e R s m args below meth c H locs 0 0 (MQ below (mm_Q rv_i D cl tys post mw A) args s 0 0 A) (F0 m pc ls [.int r]) :=
  W.iret hx hb hr (fun t ht hW => ⟨⟨r, u1, rfl, hq, by rw [ht]; exact hP, va_K.moved hW.alike hK, hD.weaken (fun _ _ _ _ => trivial)⟩, hS.F ht⟩) hS.2.2 hdg
theorem mm_zret {S : Type} {mw : S → va_W} {post : Int32 → S → Prop} {r : Int32} {u1 : S} (hx : p.tables.exec = Jvm.exec) (hb : c.code = cc) (hr : meth.sig.returnType = some .boolean) (hlocks : meth.locks = false) (hP : va_P D cl (mw u1) H) (hK : va_K D cl tys s) (hD : va_D A (mw u1)) (hS : va_S A s.heap H locs) (hdg : decode cc pc = .ok (.ireturn, 1)) (hn : narrow .boolean (.int r) = .int r) (hq : post r u1) :
    W p l e R s m args below meth c H locs 0 0 (MQ below (mm_Q rv_i D cl tys post mw A) args s 0 0 A) (F0 m pc ls [.int r]) :=
  W.zret hx hb hr hn (fun t ht hW => ⟨⟨r, u1, rfl, hq, by rw [ht]; exact hP, va_K.moved hW.alike hK, hD.weaken (fun _ _ _ _ => trivial)⟩, hS.F ht⟩) hS.2.2 hdg
theorem mm_lret {S : Type} {mw : S → va_W} {post : Int64 → S → Prop} {r : Int64} {u1 : S} (hx : p.tables.exec = Jvm.exec) (hb : c.code = cc) (hr : meth.sig.returnType = some .long) (hlocks : meth.locks = false) (hP : va_P D cl (mw u1) H) (hK : va_K D cl tys s) (hD : va_D A (mw u1)) (hS : va_S A s.heap H locs) (hdg : decode cc pc = .ok (.lreturn, 1)) (hq : post r u1) :
    W p l e R s m args below meth c H locs 0 0 (MQ below (mm_Q rv_l D cl tys post mw A) args s 0 0 A) (F0 m pc ls [.long r]) :=
  W.lret hx hb hr (fun t ht hW => ⟨⟨r, u1, rfl, hq, by rw [ht]; exact hP, va_K.moved hW.alike hK, hD.weaken (fun _ _ _ _ => trivial)⟩, hS.F ht⟩) hS.2.2 hdg
theorem mm_vret {S : Type} {mw : S → va_W} {post : Unit → S → Prop} {u1 : S} (hx : p.tables.exec = Jvm.exec) (hb : c.code = cc) (hr : meth.sig.returnType = none) (hlocks : meth.locks = false) (hP : va_P D cl (mw u1) H) (hK : va_K D cl tys s) (hD : va_D A (mw u1)) (hS : va_S A s.heap H locs) (hdg : decode cc pc = .ok (.return_, 1)) (hq : post () u1) :
    W p l e R s m args below meth c H locs 0 0 (MQ below (mm_Q rv_v D cl tys post mw A) args s 0 0 A) (F0 m pc ls []) :=
  W.vret hx hb hr (fun t ht hW => ⟨⟨(), u1, rfl, hq, by rw [ht]; exact hP, va_K.moved hW.alike hK, hD.weaken (fun _ _ _ _ => trivial)⟩, hS.F ht⟩) hS.2.2 hdg
end MR
-- ===== the object and its row =====
section WS
abbrev wS : Type := (Nat → Int64) × Int32 × Int32 × Int32 × Int32
abbrev wW (h a : Nat) (cA : ClassId) (u : wS) : va_W := [(h, .inr (0, [.ref a, .int u.2.1, .int u.2.2.1, .int u.2.2.2.1, .int u.2.2.2.2])), (a, .inl (cA, 4096, .inr (.inl u.1)))]
abbrev wA (h a : Nat) : Nat → Prop := fun q => q = h ∨ q = a
def wI (u : wS) : Prop := vp_in u.2.1 4096 ∧ vp_in u.2.2.1 4096
theorem wA_in (h a : Nat) (cA : ClassId) (u : wS) : ∀ (k : Nat) (q : Nat × va_E), (wW h a cA u)[k]? = some q → wA h a q.1 := by
  intro k q hk
  match k, hk with
  | 0, hk => cases hk; exact Or.inl rfl
  | 1, hk => cases hk; exact Or.inr rfl
theorem wA_at (h a : Nat) (cA : ClassId) (u : wS) : ∀ q, wA h a q → ∃ e', (q, e') ∈ wW h a cA u := by
  intro q hq
  rcases hq with rfl | rfl
  · exact ⟨_, List.mem_cons_self⟩
  · exact ⟨_, List.mem_cons_of_mem _ List.mem_cons_self⟩
abbrev rS : Type := (Nat → Int64) × Int32 × Int32 × Int32 × Int32 × Int64
abbrev rW (h a : Nat) (cA : ClassId) (u : rS) : va_W := [(h, .inr (1, [.int u.2.1, .ref a, .int u.2.2.1, .int u.2.2.2.1, .int u.2.2.2.2.1, .long u.2.2.2.2.2])), (a, .inl (cA, 4096, .inr (.inl u.1)))]
def rI (u : rS) : Prop := vp_in u.2.2.1 4096
theorem rA_in (h a : Nat) (cA : ClassId) (u : rS) : ∀ (k : Nat) (q : Nat × va_E), (rW h a cA u)[k]? = some q → wA h a q.1 := by
  intro k q hk
  match k, hk with
  | 0, hk => cases hk; exact Or.inl rfl
  | 1, hk => cases hk; exact Or.inr rfl
theorem rA_at (h a : Nat) (cA : ClassId) (u : rS) : ∀ q, wA h a q → ∃ e', (q, e') ∈ rW h a cA u := by
  intro q hq
  rcases hq with rfl | rfl
  · exact ⟨_, List.mem_cons_self⟩
  · exact ⟨_, List.mem_cons_of_mem _ List.mem_cons_self⟩
variable {p : Program} {l : Launch} {e : Env} {R : Room} {s : State} {m : MethodId} {args : Array Value} {below : List Frame} {meth : Method} {c : Code} {H : Heap} {locs : List Loc} {cells slots : Nat} {Q : State → Prop}
variable {y : MethodName} {bytes cc : ByteArray} {maxL nL n index pc : Nat} {ret : Option FieldType} {ws : List Cond} {rm : Room} {Ts : List Cond} {own : String} {As rest st0 : List Value} {ls : Array Slot} {D : va_G} {tys : List (ClassId × FieldType)} {h a : Nat} {cA : ClassId}
/-- calls of the object's own methods -/
theorem w_go {ρ : Type} {rv : ρ → Option Value} {post : ρ → wS → Prop} {u : wS} (S0 : CallFix p m c cc nL s args Ts own) (hM : MM l y ws rm D vwCl tys (wW h a cA) (wA h a) u (.ref h :: As) rv post) (cw : CallW R s args own RX0 index y bytes maxL ret ws rm 0 0 n) (hK : va_K D vwCl tys s) (hP : va_P D vwCl (wW h a cA u) H) (hD : va_D (wA h a) (wW h a cA u)) (hS : va_S (wA h a) s.heap H locs)
    (hn : As.length = n) (hsize : ls.size = nL) (hstack : st0 = As.reverse ++ .ref h :: rest) (hW : (rest.map fun v => v.category).sum ≤ 8) (hdg : decode cc pc = .ok (.invokevirtual index, 3)) (hf : cells ≤ R.cells ∧ slots ≤ R.slots)
    (kk : ∀ (r : ρ) (u' : wS) (H1 : Heap) (locs1 : List Loc), post r u' → va_P D vwCl (wW h a cA u') H1 → va_D (wA h a) (wW h a cA u') → va_S (wA h a) s.heap H1 locs1 → W p l e R s m args below meth c H1 locs1 cells slots Q (F0 m (pc + 3) ls ((rv r).toList ++ rest))) : W p l e R s m args below meth c H locs cells slots Q (F0 m pc ls st0) :=
  mm_go (ci := 0) (q0 := 0) (q := (RX0, TX0, 5)) S0 hM cw hK hP hD hS rfl rfl [0, 1] rfl rfl (wA_at h a cA u) (fun _ => rfl) hn hsize hstack hW hdg hf kk
theorem r_go {ρ : Type} {rv : ρ → Option Value} {post : ρ → rS → Prop} {u : rS} (S0 : CallFix p m c cc nL s args Ts own) (hM : MM l y ws rm D vwCl tys (rW h a cA) (wA h a) u (.ref h :: As) rv post) (cw : CallW R s args own RX1 index y bytes maxL ret ws rm 0 0 n) (hK : va_K D vwCl tys s) (hP : va_P D vwCl (rW h a cA u) H) (hD : va_D (wA h a) (rW h a cA u)) (hS : va_S (wA h a) s.heap H locs)
    (hn : As.length = n) (hsize : ls.size = nL) (hstack : st0 = As.reverse ++ .ref h :: rest) (hW : (rest.map fun v => v.category).sum ≤ 8) (hdg : decode cc pc = .ok (.invokevirtual index, 3)) (hf : cells ≤ R.cells ∧ slots ≤ R.slots)
    (kk : ∀ (r : ρ) (u' : rS) (H1 : Heap) (locs1 : List Loc), post r u' → va_P D vwCl (rW h a cA u') H1 → va_D (wA h a) (rW h a cA u') → va_S (wA h a) s.heap H1 locs1 → W p l e R s m args below meth c H1 locs1 cells slots Q (F0 m (pc + 3) ls ((rv r).toList ++ rest))) : W p l e R s m args below meth c H locs cells slots Q (F0 m pc ls st0) :=
  mm_go (ci := 1) (q0 := 0) (q := (RX1, TX1, 6)) S0 hM cw hK hP hD hS rfl rfl [0, 1] rfl rfl (rA_at h a cA u) (fun _ => rfl) hn hsize hstack hW hdg hf kk
end WS
end
section
theorem tst_all : ∀ k : Nat, k < 64 → ((nI (192 + k) &&& 8 = 0) ∧ (nI (192 + k) &&& 504 = 192 ∨ nI (192 + k) &&& 504 = 208 ∨ nI (192 + k) &&& 504 = 224 ∨ nI (192 + k) &&& 504 = 240)) ∨ ((¬ nI (192 + k) &&& 8 = 0) ∧ (nI (192 + k) &&& 504 = 200 ∨ nI (192 + k) &&& 504 = 216 ∨ nI (192 + k) &&& 504 = 232 ∨ nI (192 + k) &&& 504 = 248)) := by decide
theorem tst_k {op : Int32} (h1 : ¬ op < 192) (h2 : ¬ 255 < op) : ∃ k : Nat, k < 64 ∧ op = nI (192 + k) := by
  rw [Int32.lt_iff_toInt_lt] at h1 h2
  have e1 : (192 : Int32).toInt = 192 := by decide
  have e2 : (255 : Int32).toInt = 255 := by decide
  rw [e1] at h1
  rw [e2] at h2
  refine ⟨(op.toInt - 192).toNat, by omega, ?_⟩
  apply Int32.toInt_inj.mp
  rw [nI_toInt (by omega)]
  omega
theorem tst_0 {op : Int32} (h1 : ¬ op < 192) (h2 : ¬ 255 < op) (h : op &&& 8 = 0) : op &&& 504 = 192 ∨ op &&& 504 = 208 ∨ op &&& 504 = 224 ∨ op &&& 504 = 240 := by
  obtain ⟨k, hk, rfl⟩ := tst_k h1 h2
  rcases tst_all k hk with q | q
  · exact q.2
  · exact absurd h q.1
theorem tst_1 {op : Int32} (h1 : ¬ op < 192) (h2 : ¬ 255 < op) (h : ¬ op &&& 8 = 0) : op &&& 504 = 200 ∨ op &&& 504 = 216 ∨ op &&& 504 = 232 ∨ op &&& 504 = 248 := by
  obtain ⟨k, hk, rfl⟩ := tst_k h1 h2
  rcases tst_all k hk with q | q
  · exact absurd q.1 h
  · exact q.2
end
section
theorem la15 (x : Int64) : vp_in ((x &&& 15) : Int64).toInt32 4096 := by
  have h : (x &&& 15).toInt32 = x.toInt32 &&& 15 := by simp
  rw [h]
  exact vp_and15 _
theorem la4095 (x : Int64) : vp_in ((x &&& 4095) : Int64).toInt32 4096 := by
  have h : (x &&& 4095).toInt32 = x.toInt32 &&& 4095 := by simp
  rw [h]
  exact vp_and4095 _
/-- a place -/
def pl (p : Int64) : Prop := 0 ≤ p.toInt ∧ p.toInt < 4096
theorem pl_in {p : Int64} (h : pl p) : vp_in p.toInt32 4096 := by
  obtain ⟨h1, h2⟩ := h
  obtain ⟨k, hk, rfl⟩ := pk_lOf (x := p) (fun q => by rw [Int64.lt_iff_toInt_lt] at q; have h0 : (0 : Int64).toInt = 0 := by decide
                                                      rw [h0] at q; omega)
  rw [pk_lT hk] at h2
  rw [lN_i]
  exact vp_in_nI (by omega) (by decide)
theorem pl_yes {p : Int64} (h1 : ¬ lg_cmp p 0 < 0) (h2 : ¬ 0 ≤ lg_cmp p 4096) : pl p := by
  rw [lg_cmp_lt, Int64.lt_iff_toInt_lt] at h1
  rw [lg_cmp_ge, Int64.le_iff_toInt_le] at h2
  have e0 : (0 : Int64).toInt = 0 := by decide
  have e1 : (4096 : Int64).toInt = 4096 := by decide
  rw [e0] at h1
  rw [e1] at h2
  exact ⟨by omega, by omega⟩
theorem pl_no0 {p : Int64} (h1 : lg_cmp p 0 < 0) : ¬ pl p := fun q => by
  rw [lg_cmp_lt, Int64.lt_iff_toInt_lt] at h1
  have e0 : (0 : Int64).toInt = 0 := by decide
  rw [e0] at h1
  have := q.1
  omega
theorem pl_no1 {p : Int64} (h2 : 0 ≤ lg_cmp p 4096) : ¬ pl p := fun q => by
  rw [lg_cmp_ge, Int64.le_iff_toInt_le] at h2
  have e1 : (4096 : Int64).toInt = 4096 := by decide
  rw [e1] at h2
  have := q.2
  omega
theorem pl_of (x : Int32) : pl x.toInt64 ↔ vp_in x 4096 := by
  rw [vp_in_iff, pl, Int32.toInt_toInt64]
  omega
/-- thrown and latest stay -/
def rK (u u' : rS) : Prop := rI u' ∧ u'.2.1 = u.2.1 ∧ u'.2.2.2.1 = u.2.2.2.1
/-- an op that does not look at the word at e -/
def fr (op : Int32) : Prop := (¬ op < 192 ∧ ¬ 255 < op ∧ ¬ op &&& 56 = 8 ∧ ¬ op &&& 56 = 24 ∧ ¬ op &&& 56 = 40 ∧ ¬ op &&& 56 = 56) ∨ (op = 129 ∨ op = 145 ∨ op = 153 ∨ op = 162 ∨ op = 172 ∨ op = 176 ∨ op = 179 ∨ op = 185 ∨ op = 189 ∨ op = 256 ∨ op = 261 ∨ op = 281 ∨ op = 285 ∨ op = 296)
theorem bad_0 {z : Int32} (_ : z = 0 ∨ z = 1) (c : z = 0) : z = 0 := c
theorem bad_1 {z : Int32} (h : z = 0 ∨ z = 1) (c : ¬ z = 0) : z = 1 := h.resolve_left c
theorem bad_n {z : Int32} (h : z = 0 ∨ z = 1) : narrow .boolean (.int z) = .int z := by
  rcases h with rfl | rfl
  · rfl
  · rfl
theorem nfr130 : ¬ fr 130 := by unfold fr; decide
theorem nfr168 : ¬ fr 168 := by unfold fr; decide
theorem nfr258 : ¬ fr 258 := by unfold fr; decide
theorem nfr173 : ¬ fr 173 := by unfold fr; decide
theorem nfr174 : ¬ fr 174 := by unfold fr; decide
theorem nfr175 : ¬ fr 175 := by unfold fr; decide
theorem nfr178 : ¬ fr 178 := by unfold fr; decide
theorem pil_d {op : Int32} (h1 : ¬ op < 172) (h2 : ¬ 180 < op) (k2 : ¬ op = 172) (k3 : ¬ op = 173) (k4 : ¬ op = 174) (k5 : ¬ op = 175) (k6 : ¬ op = 176) (k7 : ¬ op = 177) (k8 : ¬ op = 178) (k9 : ¬ op = 179) : ¬ fr op := by
  have e : op = 180 := by
    rw [Int32.lt_iff_toInt_lt] at h1 h2
    have e1 : (172 : Int32).toInt = 172 := by decide
    have e2 : (180 : Int32).toInt = 180 := by decide
    rw [e1] at h1
    rw [e2] at h2
    apply Int32.toInt_inj.mp
    rw [e2]
    have a2 := lv_neT k2 (show (172 : Int32).toInt = 172 by decide)
    have a3 := lv_neT k3 (show (173 : Int32).toInt = 173 by decide)
    have a4 := lv_neT k4 (show (174 : Int32).toInt = 174 by decide)
    have a5 := lv_neT k5 (show (175 : Int32).toInt = 175 by decide)
    have a6 := lv_neT k6 (show (176 : Int32).toInt = 176 by decide)
    have a7 := lv_neT k7 (show (177 : Int32).toInt = 177 by decide)
    have a8 := lv_neT k8 (show (178 : Int32).toInt = 178 by decide)
    have a9 := lv_neT k9 (show (179 : Int32).toInt = 179 by decide)
    omega
  subst e
  unfold fr
  decide
theorem tst_b : ∀ k : Nat, k < 64 → ((nI (192 + k) >>> ((3 : Int32) &&& 31)) &&& 7 = 3 ∨ (nI (192 + k) >>> ((3 : Int32) &&& 31)) &&& 7 = 5 ∨ (nI (192 + k) >>> ((3 : Int32) &&& 31)) &&& 7 = 7) → (nI (192 + k) &&& 56 = 24 ∨ nI (192 + k) &&& 56 = 40 ∨ nI (192 + k) &&& 56 = 56) := by decide +kernel
theorem tst_e {op : Int32} {e0 : Int64} (h1 : ¬ op < 192) (h2 : ¬ 255 < op) (hne : fr op ∨ pl e0) (hk : (op >>> ((3 : Int32) &&& 31)) &&& 7 = 3 ∨ (op >>> ((3 : Int32) &&& 31)) &&& 7 = 5 ∨ (op >>> ((3 : Int32) &&& 31)) &&& 7 = 7) : pl e0 := by
  refine hne.resolve_left (fun q => ?_)
  rcases q with q | q
  · obtain ⟨k, hk64, rfl⟩ := tst_k h1 h2
    obtain ⟨-, -, -, q1, q2, q3⟩ := q
    rcases tst_b k hk64 hk with a | a | a
    · exact q1 a
    · exact q2 a
    · exact q3 a
  · rcases q with rfl | rfl | rfl | rfl | rfl | rfl | rfl | rfl | rfl | rfl | rfl | rfl | rfl | rfl
    all_goals first | exact h1 (by decide) | exact h2 (by decide)
theorem tb_out_0_3 {x : Int32} (h0 : ¬ x = 0) (h1 : ¬ x = 1) (h2 : ¬ x = 2) : x.toInt < 0 ∨ 2 < x.toInt := by
  have a0 := lv_neT h0 (show (0 : Int32).toInt = 0 by decide)
  have a1 := lv_neT h1 (show (1 : Int32).toInt = 1 by decide)
  have a2 := lv_neT h2 (show (2 : Int32).toInt = 2 by decide)
  omega
theorem tb_out_0_6 {x : Int32} (h0 : ¬ x = 0) (h1 : ¬ x = 1) (h2 : ¬ x = 2) (h3 : ¬ x = 3) (h4 : ¬ x = 4) (h5 : ¬ x = 5) : x.toInt < 0 ∨ 5 < x.toInt := by
  have a0 := lv_neT h0 (show (0 : Int32).toInt = 0 by decide)
  have a1 := lv_neT h1 (show (1 : Int32).toInt = 1 by decide)
  have a2 := lv_neT h2 (show (2 : Int32).toInt = 2 by decide)
  have a3 := lv_neT h3 (show (3 : Int32).toInt = 3 by decide)
  have a4 := lv_neT h4 (show (4 : Int32).toInt = 4 by decide)
  have a5 := lv_neT h5 (show (5 : Int32).toInt = 5 by decide)
  omega
theorem tb_out_0_7 {x : Int32} (h0 : ¬ x = 0) (h1 : ¬ x = 1) (h2 : ¬ x = 2) (h3 : ¬ x = 3) (h4 : ¬ x = 4) (h5 : ¬ x = 5) (h6 : ¬ x = 6) : x.toInt < 0 ∨ 6 < x.toInt := by
  have a0 := lv_neT h0 (show (0 : Int32).toInt = 0 by decide)
  have a1 := lv_neT h1 (show (1 : Int32).toInt = 1 by decide)
  have a2 := lv_neT h2 (show (2 : Int32).toInt = 2 by decide)
  have a3 := lv_neT h3 (show (3 : Int32).toInt = 3 by decide)
  have a4 := lv_neT h4 (show (4 : Int32).toInt = 4 by decide)
  have a5 := lv_neT h5 (show (5 : Int32).toInt = 5 by decide)
  have a6 := lv_neT h6 (show (6 : Int32).toInt = 6 by decide)
  omega
theorem tb_out_0_8 {x : Int32} (h0 : ¬ x = 0) (h1 : ¬ x = 1) (h2 : ¬ x = 2) (h3 : ¬ x = 3) (h4 : ¬ x = 4) (h5 : ¬ x = 5) (h6 : ¬ x = 6) (h7 : ¬ x = 7) : x.toInt < 0 ∨ 7 < x.toInt := by
  have a0 := lv_neT h0 (show (0 : Int32).toInt = 0 by decide)
  have a1 := lv_neT h1 (show (1 : Int32).toInt = 1 by decide)
  have a2 := lv_neT h2 (show (2 : Int32).toInt = 2 by decide)
  have a3 := lv_neT h3 (show (3 : Int32).toInt = 3 by decide)
  have a4 := lv_neT h4 (show (4 : Int32).toInt = 4 by decide)
  have a5 := lv_neT h5 (show (5 : Int32).toInt = 5 by decide)
  have a6 := lv_neT h6 (show (6 : Int32).toInt = 6 by decide)
  have a7 := lv_neT h7 (show (7 : Int32).toInt = 7 by decide)
  omega
theorem tb_out_172_8 {x : Int32} (h0 : ¬ x = 172) (h1 : ¬ x = 173) (h2 : ¬ x = 174) (h3 : ¬ x = 175) (h4 : ¬ x = 176) (h5 : ¬ x = 177) (h6 : ¬ x = 178) (h7 : ¬ x = 179) : x.toInt < 172 ∨ 179 < x.toInt := by
  have a0 := lv_neT h0 (show (172 : Int32).toInt = 172 by decide)
  have a1 := lv_neT h1 (show (173 : Int32).toInt = 173 by decide)
  have a2 := lv_neT h2 (show (174 : Int32).toInt = 174 by decide)
  have a3 := lv_neT h3 (show (175 : Int32).toInt = 175 by decide)
  have a4 := lv_neT h4 (show (176 : Int32).toInt = 176 by decide)
  have a5 := lv_neT h5 (show (177 : Int32).toInt = 177 by decide)
  have a6 := lv_neT h6 (show (178 : Int32).toInt = 178 by decide)
  have a7 := lv_neT h7 (show (179 : Int32).toInt = 179 by decide)
  omega
end
section
set_option maxHeartbeats 4000000 in
set_option maxRecDepth 100000 in
theorem kX0_number (l : Launch) (w : Int64)  : PS l yX0_number wsX0_number ({ frames := 0, cells := 0, slots := 0, locals := 0 }) [.long w] rv_l (fun _ => True) := by
  refine ps_of (cc := cX0_number) (maxL := 2) (ret := (some .long)) (by decide) rfl (Nat.le_of_ble_eq_true rfl) ?_
  intro p e s m below meth c ls C hl
  obtain ⟨hx, hb, hr, hml, hown, hts, hlocks⟩ := C
  have hl : lv_has ls 2 [(0, .long w)] := hl
  refine lv_lload_n hx hb dX0_number_0 rfl (lv_at hl 0 rfl) ?_
  refine lv_bipush (v := 28) hx hb dX0_number_1 (by decide) ?_
  refine lv_lshl hx hb dX0_number_3 rfl ?_
  refine lv_bipush (v := 28) hx hb dX0_number_4 (by decide) ?_
  refine lv_lshr hx hb dX0_number_6 rfl ?_
  exact ps_lret hx hb hr hlocks dX0_number_7 trivial
set_option maxHeartbeats 4000000 in
set_option maxRecDepth 100000 in
theorem kX0_rightHalf (l : Launch) (w : Int64)  : PS l yX0_rightHalf wsX0_rightHalf ({ frames := 0, cells := 0, slots := 0, locals := 0 }) [.long w] rv_i (fun r => vp_in r 262144) := by
  refine ps_of (cc := cX0_rightHalf) (maxL := 2) (ret := (some .int)) (by decide) rfl (Nat.le_of_ble_eq_true rfl) ?_
  intro p e s m below meth c ls C hl
  obtain ⟨hx, hb, hr, hml, hown, hts, hlocks⟩ := C
  have hl : lv_has ls 2 [(0, .long w)] := hl
  refine lv_lload_n hx hb dX0_rightHalf_0 rfl (lv_at hl 0 rfl) ?_
  refine lv_l2i hx hb dX0_rightHalf_1 rfl ?_
  refine lv_ldc (v := 262143) hx hb hown (hts (.constant RX0 34 262143) (by decide +kernel)) dX0_rightHalf_2 ?_
  refine lv_iand hx hb dX0_rightHalf_4 ?_
  exact ps_iret hx hb hr hlocks dX0_rightHalf_5 (vp_and18 _)
set_option maxHeartbeats 4000000 in
set_option maxRecDepth 100000 in
theorem kX0_leftHalf (l : Launch) (w : Int64)  : PS l yX0_leftHalf wsX0_leftHalf ({ frames := 0, cells := 0, slots := 0, locals := 0 }) [.long w] rv_i (fun r => vp_in r 262144) := by
  refine ps_of (cc := cX0_leftHalf) (maxL := 2) (ret := (some .int)) (by decide) rfl (Nat.le_of_ble_eq_true rfl) ?_
  intro p e s m below meth c ls C hl
  obtain ⟨hx, hb, hr, hml, hown, hts, hlocks⟩ := C
  have hl : lv_has ls 2 [(0, .long w)] := hl
  refine lv_lload_n hx hb dX0_leftHalf_0 rfl (lv_at hl 0 rfl) ?_
  refine lv_bipush (v := 18) hx hb dX0_leftHalf_1 (by decide) ?_
  refine lv_lshr hx hb dX0_leftHalf_3 rfl ?_
  refine lv_l2i hx hb dX0_leftHalf_4 rfl ?_
  refine lv_ldc (v := 262143) hx hb hown (hts (.constant RX0 34 262143) (by decide +kernel)) dX0_leftHalf_5 ?_
  refine lv_iand hx hb dX0_leftHalf_7 ?_
  exact ps_iret hx hb hr hlocks dX0_leftHalf_8 (vp_and18 _)
set_option maxHeartbeats 4000000 in
set_option maxRecDepth 100000 in
theorem kX0_isIndirect (l : Launch) (w : Int64)  : PS l yX0_isIndirect wsX0_isIndirect ({ frames := 0, cells := 0, slots := 0, locals := 0 }) [.long w] rv_i (fun _ => True) := by
  refine ps_of (cc := cX0_isIndirect) (maxL := 2) (ret := (some .boolean)) (by decide) rfl (Nat.le_of_ble_eq_true rfl) ?_
  intro p e s m below meth c ls C hl
  obtain ⟨hx, hb, hr, hml, hown, hts, hlocks⟩ := C
  have hl : lv_has ls 2 [(0, .long w)] := hl
  refine lv_lload_n hx hb dX0_isIndirect_0 rfl (lv_at hl 0 rfl) ?_
  refine lv_bipush (v := 22) hx hb dX0_isIndirect_1 (by decide) ?_
  refine lv_lshr hx hb dX0_isIndirect_3 rfl ?_
  refine lv_lconst (v := 1) hx hb dX0_isIndirect_4 (by decide) ?_
  refine lv_land hx hb dX0_isIndirect_5 ?_
  refine lv_lconst (v := 1) hx hb dX0_isIndirect_6 (by decide) ?_
  refine W.lcmp hx hb dX0_isIndirect_7 ?_
  refine lv_if_ne (tgt := 15) hx hb dX0_isIndirect_8 (by decide) (fun c_8 => ?_) (fun c_8 => ?_)
  · refine lv_iconst (v := 0) hx hb dX0_isIndirect_15 (by decide) ?_
    exact ps_zret hx hb hr hlocks dX0_isIndirect_16 rfl trivial
  · refine lv_iconst (v := 1) hx hb dX0_isIndirect_11 (by decide) ?_
    refine lv_goto (tgt := 16) hx hb dX0_isIndirect_12 (by decide) ?_
    exact ps_zret hx hb hr hlocks dX0_isIndirect_16 rfl trivial
set_option maxHeartbeats 4000000 in
set_option maxRecDepth 100000 in
theorem kX0_isOfHalves (l : Launch) (op : Int32)  : PS l yX0_isOfHalves wsX0_isOfHalves ({ frames := 0, cells := 0, slots := 0, locals := 0 }) [.int op] rv_i (fun _ => True) := by
  refine ps_of (cc := cX0_isOfHalves) (maxL := 1) (ret := (some .boolean)) (by decide) rfl (Nat.le_of_ble_eq_true rfl) ?_
  intro p e s m below meth c ls C hl
  obtain ⟨hx, hb, hr, hml, hown, hts, hlocks⟩ := C
  have hl : lv_has ls 1 [(0, .int op)] := hl
  refine lv_iload_n hx hb dX0_isOfHalves_0 rfl (lv_at hl 0 rfl) ?_
  refine lv_sipush (v := 320) hx hb dX0_isOfHalves_1 (by decide) ?_
  refine lv_icmp_lt (tgt := 11) hx hb dX0_isOfHalves_4 (by decide) (fun c_4 => ?_) (fun c_4 => ?_)
  · refine lv_iconst (v := 0) hx hb dX0_isOfHalves_11 (by decide) ?_
    exact ps_zret hx hb hr hlocks dX0_isOfHalves_12 rfl trivial
  · refine lv_iconst (v := 1) hx hb dX0_isOfHalves_7 (by decide) ?_
    refine lv_goto (tgt := 12) hx hb dX0_isOfHalves_8 (by decide) ?_
    exact ps_zret hx hb hr hlocks dX0_isOfHalves_12 rfl trivial
set_option maxHeartbeats 4000000 in
set_option maxRecDepth 100000 in
theorem kX0_isTest (l : Launch) (op : Int32)  : PS l yX0_isTest wsX0_isTest ({ frames := 0, cells := 0, slots := 0, locals := 0 }) [.int op] rv_i (fun r => r = 0 ∨ (¬ op < 192 ∧ ¬ 255 < op)) := by
  refine ps_of (cc := cX0_isTest) (maxL := 1) (ret := (some .boolean)) (by decide) rfl (Nat.le_of_ble_eq_true rfl) ?_
  intro p e s m below meth c ls C hl
  obtain ⟨hx, hb, hr, hml, hown, hts, hlocks⟩ := C
  have hl : lv_has ls 1 [(0, .int op)] := hl
  refine lv_iload_n hx hb dX0_isTest_0 rfl (lv_at hl 0 rfl) ?_
  refine lv_sipush (v := 192) hx hb dX0_isTest_1 (by decide) ?_
  refine lv_icmp_lt (tgt := 18) hx hb dX0_isTest_4 (by decide) (fun c_4 => ?_) (fun c_4 => ?_)
  · refine lv_iconst (v := 0) hx hb dX0_isTest_18 (by decide) ?_
    exact ps_zret hx hb hr hlocks dX0_isTest_19 rfl (Or.inl rfl)
  · refine lv_iload_n hx hb dX0_isTest_7 rfl (lv_at hl 0 rfl) ?_
    refine lv_sipush (v := 255) hx hb dX0_isTest_8 (by decide) ?_
    refine lv_icmp_gt (tgt := 18) hx hb dX0_isTest_11 (by decide) (fun c_11 => ?_) (fun c_11 => ?_)
    · refine lv_iconst (v := 0) hx hb dX0_isTest_18 (by decide) ?_
      exact ps_zret hx hb hr hlocks dX0_isTest_19 rfl (Or.inl rfl)
    · refine lv_iconst (v := 1) hx hb dX0_isTest_14 (by decide) ?_
      refine lv_goto (tgt := 19) hx hb dX0_isTest_15 (by decide) ?_
      exact ps_zret hx hb hr hlocks dX0_isTest_19 rfl (Or.inr ⟨c_4, c_11⟩)
set_option maxHeartbeats 4000000 in
set_option maxRecDepth 100000 in
theorem kX0_shifted (l : Launch) (c0 : Int64) (e0 : Int32)  : PS l yX0_shifted wsX0_shifted ({ frames := 0, cells := 0, slots := 0, locals := 0 }) [.long c0, .int e0] rv_l (fun _ => True) := by
  refine ps_of (cc := cX0_shifted) (maxL := 4) (ret := (some .long)) (by decide) rfl (Nat.le_of_ble_eq_true rfl) ?_
  intro p e s m below meth c ls C hl
  obtain ⟨hx, hb, hr, hml, hown, hts, hlocks⟩ := C
  have hl : lv_has ls 4 [(0, .long c0), (2, .int e0)] := hl
  refine lv_iload_n hx hb dX0_shifted_0 rfl (lv_at hl 1 rfl) ?_
  refine lv_bipush (v := 14) hx hb dX0_shifted_1 (by decide) ?_
  refine lv_ishl hx hb dX0_shifted_3 ?_
  refine lv_bipush (v := 14) hx hb dX0_shifted_4 (by decide) ?_
  refine lv_ishr hx hb dX0_shifted_6 ?_
  refine lv_topi (fun x_7 ex_7 => ?_)
  refine lv_istore_n (lv' := [(3, .int x_7), (0, .long c0), (2, .int e0)]) hx hb dX0_shifted_7 rfl hl (by decide) rfl (fun ls hl => ?_)
  refine lv_iload_n hx hb dX0_shifted_8 rfl (lv_at hl 0 rfl) ?_
  refine lv_bipush (v := 36) hx hb dX0_shifted_9 (by decide) ?_
  refine lv_icmp_ge (tgt := 20) hx hb dX0_shifted_11 (by decide) (fun c_11 => ?_) (fun c_11 => ?_)
  · refine lv_lconst (v := 0) hx hb dX0_shifted_20 (by decide) ?_
    exact ps_lret hx hb hr hlocks dX0_shifted_21 trivial
  · refine lv_iload_n hx hb dX0_shifted_14 rfl (lv_at hl 0 rfl) ?_
    refine lv_bipush (v := -36) hx hb dX0_shifted_15 (by decide) ?_
    refine lv_icmp_gt (tgt := 22) hx hb dX0_shifted_17 (by decide) (fun c_17 => ?_) (fun c_17 => ?_)
    · refine lv_iload_n hx hb dX0_shifted_22 rfl (lv_at hl 0 rfl) ?_
      refine lv_if_lt (tgt := 32) hx hb dX0_shifted_23 (by decide) (fun c_23 => ?_) (fun c_23 => ?_)
      · refine lv_lload_n hx hb dX0_shifted_32 rfl (lv_at hl 1 rfl) ?_
        refine lv_iload_n hx hb dX0_shifted_33 rfl (lv_at hl 0 rfl) ?_
        refine lv_ineg hx hb dX0_shifted_34 ?_
        refine lv_lshr hx hb dX0_shifted_35 rfl ?_
        exact ps_lret hx hb hr hlocks dX0_shifted_36 trivial
      · refine lv_lload_n hx hb dX0_shifted_26 rfl (lv_at hl 1 rfl) ?_
        refine lv_iload_n hx hb dX0_shifted_27 rfl (lv_at hl 0 rfl) ?_
        refine lv_lshl hx hb dX0_shifted_28 rfl ?_
        refine lv_goto (tgt := 36) hx hb dX0_shifted_29 (by decide) ?_
        exact ps_lret hx hb hr hlocks dX0_shifted_36 trivial
    · refine lv_lconst (v := 0) hx hb dX0_shifted_20 (by decide) ?_
      exact ps_lret hx hb hr hlocks dX0_shifted_21 trivial
set_option maxHeartbeats 4000000 in
set_option maxRecDepth 100000 in
theorem kX0_ofHalves (l : Launch) (op : Int32) (c0 : Int64) (o0 : Int64)  : PS l yX0_ofHalves wsX0_ofHalves ({ frames := 1, cells := 0, slots := 0, locals := 21 }) [.int op, .long c0, .long o0] rv_l (fun _ => True) := by
  refine ps_of (cc := cX0_ofHalves) (maxL := 5) (ret := (some .long)) (by decide) rfl (Nat.le_of_ble_eq_true rfl) ?_
  intro p e s m below meth c ls C hl
  obtain ⟨hx, hb, hr, hml, hown, hts, hlocks⟩ := C
  have hl : lv_has ls 5 [(0, .int op), (1, .long c0), (3, .long o0)] := hl
  refine lv_iload_n hx hb dX0_ofHalves_0 rfl (lv_at hl 0 rfl) ?_
  by_cases k_320 : op = 320
  · subst k_320
    refine lv_lookup (tgt := 52) hx hb dX0_ofHalves_1 (by decide) rfl (by decide) ?_
    refine lv_lload_n hx hb dX0_ofHalves_52 rfl (lv_at hl 2 rfl) ?_
    refine lv_ldc2 (v := 68719214592) hx hb hown (hts (.constantLong RX0 130 68719214592) (by decide +kernel)) dX0_ofHalves_53 ?_
    refine lv_land hx hb dX0_ofHalves_56 ?_
    refine lv_lload_n hx hb dX0_ofHalves_57 rfl (lv_at hl 1 rfl) ?_
    refine ps_goi (As := [.long c0]) (rest := [.long (o0 &&& 68719214592)]) ⟨hx, hb, hml, hown, hts⟩ (kX0_rightHalf l c0) (va_cwS 1 hts gX0_ofHalves_X0_rightHalf rfl rfl rfl (by decide +kernel) ⟨by decide, by decide⟩) rfl hl.1 rfl (Nat.le_of_ble_eq_true rfl) dX0_ofHalves_58 ⟨Nat.zero_le _, Nat.zero_le _⟩ (fun r_58 q_58 => ?_)
    refine lv_i2l hx hb dX0_ofHalves_61 rfl ?_
    refine lv_lor hx hb dX0_ofHalves_62 ?_
    exact ps_lret hx hb hr hlocks dX0_ofHalves_63 trivial
  by_cases k_324 : op = 324
  · subst k_324
    refine lv_lookup (tgt := 64) hx hb dX0_ofHalves_1 (by decide) rfl (by decide) ?_
    refine lv_lload_n hx hb dX0_ofHalves_64 rfl (lv_at hl 2 rfl) ?_
    refine ps_goi (As := [.long o0]) (rest := []) ⟨hx, hb, hml, hown, hts⟩ (kX0_rightHalf l o0) (va_cwS 1 hts gX0_ofHalves_X0_rightHalf rfl rfl rfl (by decide +kernel) ⟨by decide, by decide⟩) rfl hl.1 rfl (Nat.le_of_ble_eq_true rfl) dX0_ofHalves_65 ⟨Nat.zero_le _, Nat.zero_le _⟩ (fun r_65 q_65 => ?_)
    refine lv_i2l hx hb dX0_ofHalves_68 rfl ?_
    refine lv_bipush (v := 18) hx hb dX0_ofHalves_69 (by decide) ?_
    refine lv_lshl hx hb dX0_ofHalves_71 rfl ?_
    refine lv_lload_n hx hb dX0_ofHalves_72 rfl (lv_at hl 1 rfl) ?_
    refine ps_goi (As := [.long c0]) (rest := [.long ((r_65 : Int32).toInt64 <<< ((18 : Int32).toInt64 &&& 63))]) ⟨hx, hb, hml, hown, hts⟩ (kX0_rightHalf l c0) (va_cwS 1 hts gX0_ofHalves_X0_rightHalf rfl rfl rfl (by decide +kernel) ⟨by decide, by decide⟩) rfl hl.1 rfl (Nat.le_of_ble_eq_true rfl) dX0_ofHalves_73 ⟨Nat.zero_le _, Nat.zero_le _⟩ (fun r_73 q_73 => ?_)
    refine lv_i2l hx hb dX0_ofHalves_76 rfl ?_
    refine lv_lor hx hb dX0_ofHalves_77 ?_
    exact ps_lret hx hb hr hlocks dX0_ofHalves_78 trivial
  by_cases k_352 : op = 352
  · subst k_352
    refine lv_lookup (tgt := 79) hx hb dX0_ofHalves_1 (by decide) rfl (by decide) ?_
    refine lv_lload_n hx hb dX0_ofHalves_79 rfl (lv_at hl 1 rfl) ?_
    refine lv_ldc2 (v := 68719214592) hx hb hown (hts (.constantLong RX0 130 68719214592) (by decide +kernel)) dX0_ofHalves_80 ?_
    refine lv_land hx hb dX0_ofHalves_83 ?_
    refine lv_lload_n hx hb dX0_ofHalves_84 rfl (lv_at hl 2 rfl) ?_
    refine ps_goi (As := [.long o0]) (rest := [.long (c0 &&& 68719214592)]) ⟨hx, hb, hml, hown, hts⟩ (kX0_rightHalf l o0) (va_cwS 1 hts gX0_ofHalves_X0_rightHalf rfl rfl rfl (by decide +kernel) ⟨by decide, by decide⟩) rfl hl.1 rfl (Nat.le_of_ble_eq_true rfl) dX0_ofHalves_85 ⟨Nat.zero_le _, Nat.zero_le _⟩ (fun r_85 q_85 => ?_)
    refine lv_i2l hx hb dX0_ofHalves_88 rfl ?_
    refine lv_lor hx hb dX0_ofHalves_89 ?_
    exact ps_lret hx hb hr hlocks dX0_ofHalves_90 trivial
  by_cases k_356 : op = 356
  · subst k_356
    refine lv_lookup (tgt := 91) hx hb dX0_ofHalves_1 (by decide) rfl (by decide) ?_
    refine lv_lload_n hx hb dX0_ofHalves_91 rfl (lv_at hl 1 rfl) ?_
    refine lv_ldc2 (v := 68719214592) hx hb hown (hts (.constantLong RX0 130 68719214592) (by decide +kernel)) dX0_ofHalves_92 ?_
    refine lv_land hx hb dX0_ofHalves_95 ?_
    refine lv_lload_n hx hb dX0_ofHalves_96 rfl (lv_at hl 2 rfl) ?_
    refine ps_goi (As := [.long o0]) (rest := [.long (c0 &&& 68719214592)]) ⟨hx, hb, hml, hown, hts⟩ (kX0_leftHalf l o0) (va_cwS 1 hts gX0_ofHalves_X0_leftHalf rfl rfl rfl (by decide +kernel) ⟨by decide, by decide⟩) rfl hl.1 rfl (Nat.le_of_ble_eq_true rfl) dX0_ofHalves_97 ⟨Nat.zero_le _, Nat.zero_le _⟩ (fun r_97 q_97 => ?_)
    refine lv_i2l hx hb dX0_ofHalves_100 rfl ?_
    refine lv_lor hx hb dX0_ofHalves_101 ?_
    exact ps_lret hx hb hr hlocks dX0_ofHalves_102 trivial
  by_cases k_360 : op = 360
  · subst k_360
    refine lv_lookup (tgt := 103) hx hb dX0_ofHalves_1 (by decide) rfl (by decide) ?_
    refine lv_lload_n hx hb dX0_ofHalves_103 rfl (lv_at hl 2 rfl) ?_
    refine ps_goi (As := [.long o0]) (rest := []) ⟨hx, hb, hml, hown, hts⟩ (kX0_rightHalf l o0) (va_cwS 1 hts gX0_ofHalves_X0_rightHalf rfl rfl rfl (by decide +kernel) ⟨by decide, by decide⟩) rfl hl.1 rfl (Nat.le_of_ble_eq_true rfl) dX0_ofHalves_104 ⟨Nat.zero_le _, Nat.zero_le _⟩ (fun r_104 q_104 => ?_)
    refine lv_i2l hx hb dX0_ofHalves_107 rfl ?_
    exact ps_lret hx hb hr hlocks dX0_ofHalves_108 trivial
  refine lv_lookup (off := 108) (tgt := 109) hx hb dX0_ofHalves_1 (by decide) ((lv_osw k_320 (by decide)).trans <| (lv_osw k_324 (by decide)).trans <| (lv_osw k_352 (by decide)).trans <| (lv_osw k_356 (by decide)).trans <| (lv_osw k_360 (by decide)).trans <| rfl) (by decide) ?_
  refine lv_lload_n hx hb dX0_ofHalves_109 rfl (lv_at hl 2 rfl) ?_
  refine ps_goi (As := [.long o0]) (rest := []) ⟨hx, hb, hml, hown, hts⟩ (kX0_leftHalf l o0) (va_cwS 1 hts gX0_ofHalves_X0_leftHalf rfl rfl rfl (by decide +kernel) ⟨by decide, by decide⟩) rfl hl.1 rfl (Nat.le_of_ble_eq_true rfl) dX0_ofHalves_110 ⟨Nat.zero_le _, Nat.zero_le _⟩ (fun r_110 q_110 => ?_)
  refine lv_i2l hx hb dX0_ofHalves_113 rfl ?_
  exact ps_lret hx hb hr hlocks dX0_ofHalves_114 trivial
set_option maxHeartbeats 4000000 in
set_option maxRecDepth 100000 in
theorem kX0_ofWords (l : Launch) (op : Int32) (c0 : Int64) (o0 : Int64)  : PS l yX0_ofWords wsX0_ofWords ({ frames := 1, cells := 0, slots := 0, locals := 23 }) [.int op, .long c0, .long o0] rv_l (fun _ => True) := by
  refine ps_of (cc := cX0_ofWords) (maxL := 5) (ret := (some .long)) (by decide) rfl (Nat.le_of_ble_eq_true rfl) ?_
  intro p e s m below meth c ls C hl
  obtain ⟨hx, hb, hr, hml, hown, hts, hlocks⟩ := C
  have hl : lv_has ls 5 [(0, .int op), (1, .long c0), (3, .long o0)] := hl
  refine lv_iload_n hx hb dX0_ofWords_0 rfl (lv_at hl 0 rfl) ?_
  by_cases k_132 : op = 132
  · subst k_132
    refine lv_lookup (tgt := 156) hx hb dX0_ofWords_1 (by decide) rfl (by decide) ?_
    refine lv_lload_n hx hb dX0_ofWords_156 rfl (lv_at hl 2 rfl) ?_
    refine lv_bipush (v := 18) hx hb dX0_ofWords_157 (by decide) ?_
    refine lv_lshl hx hb dX0_ofWords_159 rfl ?_
    refine lv_lload_n hx hb dX0_ofWords_160 rfl (lv_at hl 2 rfl) ?_
    refine ps_goi (As := [.long o0]) (rest := [.long (o0 <<< ((18 : Int32).toInt64 &&& 63))]) ⟨hx, hb, hml, hown, hts⟩ (kX0_leftHalf l o0) (va_cwS 1 hts gX0_ofWords_X0_leftHalf rfl rfl rfl (by decide +kernel) ⟨by decide, by decide⟩) rfl hl.1 rfl (Nat.le_of_ble_eq_true rfl) dX0_ofWords_161 ⟨Nat.zero_le _, Nat.zero_le _⟩ (fun r_161 q_161 => ?_)
    refine lv_i2l hx hb dX0_ofWords_164 rfl ?_
    refine lv_lor hx hb dX0_ofWords_165 ?_
    exact ps_lret hx hb hr hlocks dX0_ofWords_166 trivial
  by_cases k_136 : op = 136
  · subst k_136
    refine lv_lookup (tgt := 167) hx hb dX0_ofWords_1 (by decide) rfl (by decide) ?_
    refine lv_lload_n hx hb dX0_ofWords_167 rfl (lv_at hl 2 rfl) ?_
    refine lv_lneg hx hb dX0_ofWords_168 ?_
    exact ps_lret hx hb hr hlocks dX0_ofWords_169 trivial
  by_cases k_140 : op = 140
  · subst k_140
    refine lv_lookup (tgt := 170) hx hb dX0_ofWords_1 (by decide) rfl (by decide) ?_
    refine lv_lload_n hx hb dX0_ofWords_170 rfl (lv_at hl 2 rfl) ?_
    refine ps_gol (As := [.long o0]) (rest := []) ⟨hx, hb, hml, hown, hts⟩ (kX0_number l o0) (va_cwS 1 hts gX0_ofWords_X0_number rfl rfl rfl (by decide +kernel) ⟨by decide, by decide⟩) rfl hl.1 rfl (Nat.le_of_ble_eq_true rfl) dX0_ofWords_171 ⟨Nat.zero_le _, Nat.zero_le _⟩ (fun r_171 q_171 => ?_)
    refine va_mabs_long hx hb (hml.trans hl.1.symm) hown (hts (.methodLink RX0 119 Lib.MathLoose.abs_long.x) (by decide +kernel)) (hts (.static Lib.MathLoose.abs_long.x) (by decide +kernel)) (hts (.initialized "java/lang/Math") (by decide +kernel)) (hts (.code Lib.MathLoose.abs_long.x Lib.MathLoose.abs_long.code 2 (some .long)) (by decide +kernel)) (by decide) (by decide) (Nat.zero_le _) (Nat.zero_le _) dX0_ofWords_174 ?_
    exact ps_lret hx hb hr hlocks dX0_ofWords_177 trivial
  by_cases k_144 : op = 144
  · subst k_144
    refine lv_lookup (tgt := 178) hx hb dX0_ofWords_1 (by decide) rfl (by decide) ?_
    refine lv_lload_n hx hb dX0_ofWords_178 rfl (lv_at hl 1 rfl) ?_
    refine lv_lload_n hx hb dX0_ofWords_179 rfl (lv_at hl 2 rfl) ?_
    refine lv_lmul hx hb dX0_ofWords_180 ?_
    exact ps_lret hx hb hr hlocks dX0_ofWords_181 trivial
  by_cases k_145 : op = 145
  · subst k_145
    refine lv_lookup (tgt := 178) hx hb dX0_ofWords_1 (by decide) rfl (by decide) ?_
    refine lv_lload_n hx hb dX0_ofWords_178 rfl (lv_at hl 1 rfl) ?_
    refine lv_lload_n hx hb dX0_ofWords_179 rfl (lv_at hl 2 rfl) ?_
    refine lv_lmul hx hb dX0_ofWords_180 ?_
    exact ps_lret hx hb hr hlocks dX0_ofWords_181 trivial
  by_cases k_162 : op = 162
  · subst k_162
    refine lv_lookup (tgt := 182) hx hb dX0_ofWords_1 (by decide) rfl (by decide) ?_
    refine lv_lload_n hx hb dX0_ofWords_182 rfl (lv_at hl 1 rfl) ?_
    refine lv_lload_n hx hb dX0_ofWords_183 rfl (lv_at hl 2 rfl) ?_
    refine lv_l2i hx hb dX0_ofWords_184 rfl ?_
    refine ps_gol (As := [.long c0, .int ((o0 : Int64).toInt32)]) (rest := []) ⟨hx, hb, hml, hown, hts⟩ (kX0_shifted l c0 ((o0 : Int64).toInt32)) (va_cwS 2 hts gX0_ofWords_X0_shifted rfl rfl rfl (by decide +kernel) ⟨by decide, by decide⟩) rfl hl.1 rfl (Nat.le_of_ble_eq_true rfl) dX0_ofWords_185 ⟨Nat.zero_le _, Nat.zero_le _⟩ (fun r_185 q_185 => ?_)
    exact ps_lret hx hb hr hlocks dX0_ofWords_188 trivial
  by_cases k_184 : op = 184
  · subst k_184
    refine lv_lookup (tgt := 189) hx hb dX0_ofWords_1 (by decide) rfl (by decide) ?_
    refine lv_lload_n hx hb dX0_ofWords_189 rfl (lv_at hl 1 rfl) ?_
    refine lv_lload_n hx hb dX0_ofWords_190 rfl (lv_at hl 2 rfl) ?_
    refine lv_ladd hx hb dX0_ofWords_191 ?_
    exact ps_lret hx hb hr hlocks dX0_ofWords_192 trivial
  by_cases k_185 : op = 185
  · subst k_185
    refine lv_lookup (tgt := 189) hx hb dX0_ofWords_1 (by decide) rfl (by decide) ?_
    refine lv_lload_n hx hb dX0_ofWords_189 rfl (lv_at hl 1 rfl) ?_
    refine lv_lload_n hx hb dX0_ofWords_190 rfl (lv_at hl 2 rfl) ?_
    refine lv_ladd hx hb dX0_ofWords_191 ?_
    exact ps_lret hx hb hr hlocks dX0_ofWords_192 trivial
  by_cases k_188 : op = 188
  · subst k_188
    refine lv_lookup (tgt := 193) hx hb dX0_ofWords_1 (by decide) rfl (by decide) ?_
    refine lv_lload_n hx hb dX0_ofWords_193 rfl (lv_at hl 1 rfl) ?_
    refine lv_lload_n hx hb dX0_ofWords_194 rfl (lv_at hl 2 rfl) ?_
    refine lv_lsub hx hb dX0_ofWords_195 ?_
    exact ps_lret hx hb hr hlocks dX0_ofWords_196 trivial
  by_cases k_189 : op = 189
  · subst k_189
    refine lv_lookup (tgt := 193) hx hb dX0_ofWords_1 (by decide) rfl (by decide) ?_
    refine lv_lload_n hx hb dX0_ofWords_193 rfl (lv_at hl 1 rfl) ?_
    refine lv_lload_n hx hb dX0_ofWords_194 rfl (lv_at hl 2 rfl) ?_
    refine lv_lsub hx hb dX0_ofWords_195 ?_
    exact ps_lret hx hb hr hlocks dX0_ofWords_196 trivial
  by_cases k_256 : op = 256
  · subst k_256
    refine lv_lookup (tgt := 197) hx hb dX0_ofWords_1 (by decide) rfl (by decide) ?_
    refine lv_lconst (v := 0) hx hb dX0_ofWords_197 (by decide) ?_
    exact ps_lret hx hb hr hlocks dX0_ofWords_198 trivial
  by_cases k_260 : op = 260
  · subst k_260
    refine lv_lookup (tgt := 199) hx hb dX0_ofWords_1 (by decide) rfl (by decide) ?_
    refine lv_lload_n hx hb dX0_ofWords_199 rfl (lv_at hl 1 rfl) ?_
    refine lv_lload_n hx hb dX0_ofWords_200 rfl (lv_at hl 2 rfl) ?_
    refine lv_land hx hb dX0_ofWords_201 ?_
    exact ps_lret hx hb hr hlocks dX0_ofWords_202 trivial
  by_cases k_261 : op = 261
  · subst k_261
    refine lv_lookup (tgt := 199) hx hb dX0_ofWords_1 (by decide) rfl (by decide) ?_
    refine lv_lload_n hx hb dX0_ofWords_199 rfl (lv_at hl 1 rfl) ?_
    refine lv_lload_n hx hb dX0_ofWords_200 rfl (lv_at hl 2 rfl) ?_
    refine lv_land hx hb dX0_ofWords_201 ?_
    exact ps_lret hx hb hr hlocks dX0_ofWords_202 trivial
  by_cases k_280 : op = 280
  · subst k_280
    refine lv_lookup (tgt := 203) hx hb dX0_ofWords_1 (by decide) rfl (by decide) ?_
    refine lv_lload_n hx hb dX0_ofWords_203 rfl (lv_at hl 1 rfl) ?_
    refine lv_lload_n hx hb dX0_ofWords_204 rfl (lv_at hl 2 rfl) ?_
    refine lv_lxor hx hb dX0_ofWords_205 ?_
    exact ps_lret hx hb hr hlocks dX0_ofWords_206 trivial
  by_cases k_281 : op = 281
  · subst k_281
    refine lv_lookup (tgt := 203) hx hb dX0_ofWords_1 (by decide) rfl (by decide) ?_
    refine lv_lload_n hx hb dX0_ofWords_203 rfl (lv_at hl 1 rfl) ?_
    refine lv_lload_n hx hb dX0_ofWords_204 rfl (lv_at hl 2 rfl) ?_
    refine lv_lxor hx hb dX0_ofWords_205 ?_
    exact ps_lret hx hb hr hlocks dX0_ofWords_206 trivial
  by_cases k_284 : op = 284
  · subst k_284
    refine lv_lookup (tgt := 207) hx hb dX0_ofWords_1 (by decide) rfl (by decide) ?_
    refine lv_lload_n hx hb dX0_ofWords_207 rfl (lv_at hl 1 rfl) ?_
    refine lv_lload_n hx hb dX0_ofWords_208 rfl (lv_at hl 2 rfl) ?_
    refine lv_lor hx hb dX0_ofWords_209 ?_
    exact ps_lret hx hb hr hlocks dX0_ofWords_210 trivial
  by_cases k_285 : op = 285
  · subst k_285
    refine lv_lookup (tgt := 207) hx hb dX0_ofWords_1 (by decide) rfl (by decide) ?_
    refine lv_lload_n hx hb dX0_ofWords_207 rfl (lv_at hl 1 rfl) ?_
    refine lv_lload_n hx hb dX0_ofWords_208 rfl (lv_at hl 2 rfl) ?_
    refine lv_lor hx hb dX0_ofWords_209 ?_
    exact ps_lret hx hb hr hlocks dX0_ofWords_210 trivial
  by_cases k_296 : op = 296
  · subst k_296
    refine lv_lookup (tgt := 211) hx hb dX0_ofWords_1 (by decide) rfl (by decide) ?_
    refine lv_lload_n hx hb dX0_ofWords_211 rfl (lv_at hl 1 rfl) ?_
    refine lv_ldc2 (v := -1) hx hb hown (hts (.constantLong RX0 128 (-1)) (by decide +kernel)) dX0_ofWords_212 ?_
    refine lv_lxor hx hb dX0_ofWords_215 ?_
    exact ps_lret hx hb hr hlocks dX0_ofWords_216 trivial
  refine lv_lookup (off := 216) (tgt := 217) hx hb dX0_ofWords_1 (by decide) ((lv_osw k_132 (by decide)).trans <| (lv_osw k_136 (by decide)).trans <| (lv_osw k_140 (by decide)).trans <| (lv_osw k_144 (by decide)).trans <| (lv_osw k_145 (by decide)).trans <| (lv_osw k_162 (by decide)).trans <| (lv_osw k_184 (by decide)).trans <| (lv_osw k_185 (by decide)).trans <| (lv_osw k_188 (by decide)).trans <| (lv_osw k_189 (by decide)).trans <| (lv_osw k_256 (by decide)).trans <| (lv_osw k_260 (by decide)).trans <| (lv_osw k_261 (by decide)).trans <| (lv_osw k_280 (by decide)).trans <| (lv_osw k_281 (by decide)).trans <| (lv_osw k_284 (by decide)).trans <| (lv_osw k_285 (by decide)).trans <| (lv_osw k_296 (by decide)).trans <| rfl) (by decide) ?_
  refine lv_lload_n hx hb dX0_ofWords_217 rfl (lv_at hl 2 rfl) ?_
  exact ps_lret hx hb hr hlocks dX0_ofWords_218 trivial
set_option maxHeartbeats 4000000 in
set_option maxRecDepth 100000 in
theorem kX0_holds (l : Launch) (cd : Int32) (x0 : Int64) (y0 : Int64)  : PS l yX0_holds wsX0_holds ({ frames := 1, cells := 0, slots := 0, locals := 21 }) [.int cd, .long x0, .long y0] rv_i (fun _ => True) := by
  refine ps_of (cc := cX0_holds) (maxL := 10) (ret := (some .boolean)) (by decide) rfl (Nat.le_of_ble_eq_true rfl) ?_
  intro p e s m below meth c ls C hl
  obtain ⟨hx, hb, hr, hml, hown, hts, hlocks⟩ := C
  have hl : lv_has ls 10 [(0, .int cd), (1, .long x0), (3, .long y0)] := hl
  refine lv_lload_n hx hb dX0_holds_0 rfl (lv_at hl 1 rfl) ?_
  refine ps_gol (As := [.long x0]) (rest := []) ⟨hx, hb, hml, hown, hts⟩ (kX0_number l x0) (va_cwS 1 hts gX0_holds_X0_number rfl rfl rfl (by decide +kernel) ⟨by decide, by decide⟩) rfl hl.1 rfl (Nat.le_of_ble_eq_true rfl) dX0_holds_1 ⟨Nat.zero_le _, Nat.zero_le _⟩ (fun r_1 q_1 => ?_)
  refine lv_lstore (lv' := [(5, .long r_1), (0, .int cd), (1, .long x0), (3, .long y0)]) hx hb dX0_holds_4 hl (by decide) rfl (fun ls hl => ?_)
  refine lv_lload_n hx hb dX0_holds_6 rfl (lv_at hl 3 rfl) ?_
  refine ps_gol (As := [.long y0]) (rest := []) ⟨hx, hb, hml, hown, hts⟩ (kX0_number l y0) (va_cwS 1 hts gX0_holds_X0_number rfl rfl rfl (by decide +kernel) ⟨by decide, by decide⟩) rfl hl.1 rfl (Nat.le_of_ble_eq_true rfl) dX0_holds_7 ⟨Nat.zero_le _, Nat.zero_le _⟩ (fun r_7 q_7 => ?_)
  refine lv_lstore (lv' := [(7, .long r_7), (5, .long r_1), (0, .int cd), (1, .long x0), (3, .long y0)]) hx hb dX0_holds_10 hl (by decide) rfl (fun ls hl => ?_)
  refine lv_iload_n hx hb dX0_holds_12 rfl (lv_at hl 2 rfl) ?_
  refine lv_iconst (v := 1) hx hb dX0_holds_13 (by decide) ?_
  refine lv_iand hx hb dX0_holds_14 ?_
  refine lv_if_eq (tgt := 26) hx hb dX0_holds_15 (by decide) (fun c_15 => ?_) (fun c_15 => ?_)
  · refine lv_iload_n hx hb dX0_holds_26 rfl (lv_at hl 2 rfl) ?_
    refine lv_iconst (v := 2) hx hb dX0_holds_27 (by decide) ?_
    refine lv_iand hx hb dX0_holds_28 ?_
    refine lv_if_eq (tgt := 44) hx hb dX0_holds_29 (by decide) (fun c_29 => ?_) (fun c_29 => ?_)
    · refine lv_iconst (v := 0) hx hb dX0_holds_44 (by decide) ?_
      refine lv_istore (lv' := [(9, .int 0), (7, .long r_7), (5, .long r_1), (0, .int cd), (1, .long x0), (3, .long y0)]) hx hb dX0_holds_45 hl (by decide) rfl (fun ls hl => ?_)
      refine lv_iload hx hb dX0_holds_47 (lv_at hl 0 rfl) ?_
      refine lv_iload_n hx hb dX0_holds_49 rfl (lv_at hl 3 rfl) ?_
      refine lv_iconst (v := 4) hx hb dX0_holds_50 (by decide) ?_
      refine lv_iand hx hb dX0_holds_51 ?_
      refine lv_if_eq (tgt := 59) hx hb dX0_holds_52 (by decide) (fun c_52 => ?_) (fun c_52 => ?_)
      · refine lv_iconst (v := 0) hx hb dX0_holds_59 (by decide) ?_
        refine lv_icmp_eq (tgt := 67) hx hb dX0_holds_60 (by decide) (fun c_60 => ?_) (fun c_60 => ?_)
        · refine lv_iconst (v := 0) hx hb dX0_holds_67 (by decide) ?_
          exact ps_zret hx hb hr hlocks dX0_holds_68 rfl trivial
        · exact absurd (by decide) c_60
      · refine lv_iconst (v := 1) hx hb dX0_holds_55 (by decide) ?_
        refine lv_goto (tgt := 60) hx hb dX0_holds_56 (by decide) ?_
        refine lv_icmp_eq (tgt := 67) hx hb dX0_holds_60 (by decide) (fun c_60 => ?_) (fun c_60 => ?_)
        · exact absurd c_60 (by decide)
        · refine lv_iconst (v := 1) hx hb dX0_holds_63 (by decide) ?_
          refine lv_goto (tgt := 68) hx hb dX0_holds_64 (by decide) ?_
          exact ps_zret hx hb hr hlocks dX0_holds_68 rfl trivial
    · refine lv_lload hx hb dX0_holds_32 (lv_at hl 1 rfl) ?_
      refine lv_lload hx hb dX0_holds_34 (lv_at hl 0 rfl) ?_
      refine W.lcmp hx hb dX0_holds_36 ?_
      refine lv_if_ne (tgt := 44) hx hb dX0_holds_37 (by decide) (fun c_37 => ?_) (fun c_37 => ?_)
      · refine lv_iconst (v := 0) hx hb dX0_holds_44 (by decide) ?_
        refine lv_istore (lv' := [(9, .int 0), (7, .long r_7), (5, .long r_1), (0, .int cd), (1, .long x0), (3, .long y0)]) hx hb dX0_holds_45 hl (by decide) rfl (fun ls hl => ?_)
        refine lv_iload hx hb dX0_holds_47 (lv_at hl 0 rfl) ?_
        refine lv_iload_n hx hb dX0_holds_49 rfl (lv_at hl 3 rfl) ?_
        refine lv_iconst (v := 4) hx hb dX0_holds_50 (by decide) ?_
        refine lv_iand hx hb dX0_holds_51 ?_
        refine lv_if_eq (tgt := 59) hx hb dX0_holds_52 (by decide) (fun c_52 => ?_) (fun c_52 => ?_)
        · refine lv_iconst (v := 0) hx hb dX0_holds_59 (by decide) ?_
          refine lv_icmp_eq (tgt := 67) hx hb dX0_holds_60 (by decide) (fun c_60 => ?_) (fun c_60 => ?_)
          · refine lv_iconst (v := 0) hx hb dX0_holds_67 (by decide) ?_
            exact ps_zret hx hb hr hlocks dX0_holds_68 rfl trivial
          · exact absurd (by decide) c_60
        · refine lv_iconst (v := 1) hx hb dX0_holds_55 (by decide) ?_
          refine lv_goto (tgt := 60) hx hb dX0_holds_56 (by decide) ?_
          refine lv_icmp_eq (tgt := 67) hx hb dX0_holds_60 (by decide) (fun c_60 => ?_) (fun c_60 => ?_)
          · exact absurd c_60 (by decide)
          · refine lv_iconst (v := 1) hx hb dX0_holds_63 (by decide) ?_
            refine lv_goto (tgt := 68) hx hb dX0_holds_64 (by decide) ?_
            exact ps_zret hx hb hr hlocks dX0_holds_68 rfl trivial
      · refine lv_iconst (v := 1) hx hb dX0_holds_40 (by decide) ?_
        refine lv_goto (tgt := 45) hx hb dX0_holds_41 (by decide) ?_
        refine lv_istore (lv' := [(9, .int 1), (7, .long r_7), (5, .long r_1), (0, .int cd), (1, .long x0), (3, .long y0)]) hx hb dX0_holds_45 hl (by decide) rfl (fun ls hl => ?_)
        refine lv_iload hx hb dX0_holds_47 (lv_at hl 0 rfl) ?_
        refine lv_iload_n hx hb dX0_holds_49 rfl (lv_at hl 3 rfl) ?_
        refine lv_iconst (v := 4) hx hb dX0_holds_50 (by decide) ?_
        refine lv_iand hx hb dX0_holds_51 ?_
        refine lv_if_eq (tgt := 59) hx hb dX0_holds_52 (by decide) (fun c_52 => ?_) (fun c_52 => ?_)
        · refine lv_iconst (v := 0) hx hb dX0_holds_59 (by decide) ?_
          refine lv_icmp_eq (tgt := 67) hx hb dX0_holds_60 (by decide) (fun c_60 => ?_) (fun c_60 => ?_)
          · exact absurd c_60 (by decide)
          · refine lv_iconst (v := 1) hx hb dX0_holds_63 (by decide) ?_
            refine lv_goto (tgt := 68) hx hb dX0_holds_64 (by decide) ?_
            exact ps_zret hx hb hr hlocks dX0_holds_68 rfl trivial
        · refine lv_iconst (v := 1) hx hb dX0_holds_55 (by decide) ?_
          refine lv_goto (tgt := 60) hx hb dX0_holds_56 (by decide) ?_
          refine lv_icmp_eq (tgt := 67) hx hb dX0_holds_60 (by decide) (fun c_60 => ?_) (fun c_60 => ?_)
          · refine lv_iconst (v := 0) hx hb dX0_holds_67 (by decide) ?_
            exact ps_zret hx hb hr hlocks dX0_holds_68 rfl trivial
          · exact absurd (by decide) c_60
  · refine lv_lload hx hb dX0_holds_18 (lv_at hl 1 rfl) ?_
    refine lv_lload hx hb dX0_holds_20 (lv_at hl 0 rfl) ?_
    refine W.lcmp hx hb dX0_holds_22 ?_
    refine lv_if_lt (tgt := 40) hx hb dX0_holds_23 (by decide) (fun c_23 => ?_) (fun c_23 => ?_)
    · refine lv_iconst (v := 1) hx hb dX0_holds_40 (by decide) ?_
      refine lv_goto (tgt := 45) hx hb dX0_holds_41 (by decide) ?_
      refine lv_istore (lv' := [(9, .int 1), (7, .long r_7), (5, .long r_1), (0, .int cd), (1, .long x0), (3, .long y0)]) hx hb dX0_holds_45 hl (by decide) rfl (fun ls hl => ?_)
      refine lv_iload hx hb dX0_holds_47 (lv_at hl 0 rfl) ?_
      refine lv_iload_n hx hb dX0_holds_49 rfl (lv_at hl 3 rfl) ?_
      refine lv_iconst (v := 4) hx hb dX0_holds_50 (by decide) ?_
      refine lv_iand hx hb dX0_holds_51 ?_
      refine lv_if_eq (tgt := 59) hx hb dX0_holds_52 (by decide) (fun c_52 => ?_) (fun c_52 => ?_)
      · refine lv_iconst (v := 0) hx hb dX0_holds_59 (by decide) ?_
        refine lv_icmp_eq (tgt := 67) hx hb dX0_holds_60 (by decide) (fun c_60 => ?_) (fun c_60 => ?_)
        · exact absurd c_60 (by decide)
        · refine lv_iconst (v := 1) hx hb dX0_holds_63 (by decide) ?_
          refine lv_goto (tgt := 68) hx hb dX0_holds_64 (by decide) ?_
          exact ps_zret hx hb hr hlocks dX0_holds_68 rfl trivial
      · refine lv_iconst (v := 1) hx hb dX0_holds_55 (by decide) ?_
        refine lv_goto (tgt := 60) hx hb dX0_holds_56 (by decide) ?_
        refine lv_icmp_eq (tgt := 67) hx hb dX0_holds_60 (by decide) (fun c_60 => ?_) (fun c_60 => ?_)
        · refine lv_iconst (v := 0) hx hb dX0_holds_67 (by decide) ?_
          exact ps_zret hx hb hr hlocks dX0_holds_68 rfl trivial
        · exact absurd (by decide) c_60
    · refine lv_iload_n hx hb dX0_holds_26 rfl (lv_at hl 2 rfl) ?_
      refine lv_iconst (v := 2) hx hb dX0_holds_27 (by decide) ?_
      refine lv_iand hx hb dX0_holds_28 ?_
      refine lv_if_eq (tgt := 44) hx hb dX0_holds_29 (by decide) (fun c_29 => ?_) (fun c_29 => ?_)
      · refine lv_iconst (v := 0) hx hb dX0_holds_44 (by decide) ?_
        refine lv_istore (lv' := [(9, .int 0), (7, .long r_7), (5, .long r_1), (0, .int cd), (1, .long x0), (3, .long y0)]) hx hb dX0_holds_45 hl (by decide) rfl (fun ls hl => ?_)
        refine lv_iload hx hb dX0_holds_47 (lv_at hl 0 rfl) ?_
        refine lv_iload_n hx hb dX0_holds_49 rfl (lv_at hl 3 rfl) ?_
        refine lv_iconst (v := 4) hx hb dX0_holds_50 (by decide) ?_
        refine lv_iand hx hb dX0_holds_51 ?_
        refine lv_if_eq (tgt := 59) hx hb dX0_holds_52 (by decide) (fun c_52 => ?_) (fun c_52 => ?_)
        · refine lv_iconst (v := 0) hx hb dX0_holds_59 (by decide) ?_
          refine lv_icmp_eq (tgt := 67) hx hb dX0_holds_60 (by decide) (fun c_60 => ?_) (fun c_60 => ?_)
          · refine lv_iconst (v := 0) hx hb dX0_holds_67 (by decide) ?_
            exact ps_zret hx hb hr hlocks dX0_holds_68 rfl trivial
          · exact absurd (by decide) c_60
        · refine lv_iconst (v := 1) hx hb dX0_holds_55 (by decide) ?_
          refine lv_goto (tgt := 60) hx hb dX0_holds_56 (by decide) ?_
          refine lv_icmp_eq (tgt := 67) hx hb dX0_holds_60 (by decide) (fun c_60 => ?_) (fun c_60 => ?_)
          · exact absurd c_60 (by decide)
          · refine lv_iconst (v := 1) hx hb dX0_holds_63 (by decide) ?_
            refine lv_goto (tgt := 68) hx hb dX0_holds_64 (by decide) ?_
            exact ps_zret hx hb hr hlocks dX0_holds_68 rfl trivial
      · refine lv_lload hx hb dX0_holds_32 (lv_at hl 1 rfl) ?_
        refine lv_lload hx hb dX0_holds_34 (lv_at hl 0 rfl) ?_
        refine W.lcmp hx hb dX0_holds_36 ?_
        refine lv_if_ne (tgt := 44) hx hb dX0_holds_37 (by decide) (fun c_37 => ?_) (fun c_37 => ?_)
        · refine lv_iconst (v := 0) hx hb dX0_holds_44 (by decide) ?_
          refine lv_istore (lv' := [(9, .int 0), (7, .long r_7), (5, .long r_1), (0, .int cd), (1, .long x0), (3, .long y0)]) hx hb dX0_holds_45 hl (by decide) rfl (fun ls hl => ?_)
          refine lv_iload hx hb dX0_holds_47 (lv_at hl 0 rfl) ?_
          refine lv_iload_n hx hb dX0_holds_49 rfl (lv_at hl 3 rfl) ?_
          refine lv_iconst (v := 4) hx hb dX0_holds_50 (by decide) ?_
          refine lv_iand hx hb dX0_holds_51 ?_
          refine lv_if_eq (tgt := 59) hx hb dX0_holds_52 (by decide) (fun c_52 => ?_) (fun c_52 => ?_)
          · refine lv_iconst (v := 0) hx hb dX0_holds_59 (by decide) ?_
            refine lv_icmp_eq (tgt := 67) hx hb dX0_holds_60 (by decide) (fun c_60 => ?_) (fun c_60 => ?_)
            · refine lv_iconst (v := 0) hx hb dX0_holds_67 (by decide) ?_
              exact ps_zret hx hb hr hlocks dX0_holds_68 rfl trivial
            · exact absurd (by decide) c_60
          · refine lv_iconst (v := 1) hx hb dX0_holds_55 (by decide) ?_
            refine lv_goto (tgt := 60) hx hb dX0_holds_56 (by decide) ?_
            refine lv_icmp_eq (tgt := 67) hx hb dX0_holds_60 (by decide) (fun c_60 => ?_) (fun c_60 => ?_)
            · exact absurd c_60 (by decide)
            · refine lv_iconst (v := 1) hx hb dX0_holds_63 (by decide) ?_
              refine lv_goto (tgt := 68) hx hb dX0_holds_64 (by decide) ?_
              exact ps_zret hx hb hr hlocks dX0_holds_68 rfl trivial
        · refine lv_iconst (v := 1) hx hb dX0_holds_40 (by decide) ?_
          refine lv_goto (tgt := 45) hx hb dX0_holds_41 (by decide) ?_
          refine lv_istore (lv' := [(9, .int 1), (7, .long r_7), (5, .long r_1), (0, .int cd), (1, .long x0), (3, .long y0)]) hx hb dX0_holds_45 hl (by decide) rfl (fun ls hl => ?_)
          refine lv_iload hx hb dX0_holds_47 (lv_at hl 0 rfl) ?_
          refine lv_iload_n hx hb dX0_holds_49 rfl (lv_at hl 3 rfl) ?_
          refine lv_iconst (v := 4) hx hb dX0_holds_50 (by decide) ?_
          refine lv_iand hx hb dX0_holds_51 ?_
          refine lv_if_eq (tgt := 59) hx hb dX0_holds_52 (by decide) (fun c_52 => ?_) (fun c_52 => ?_)
          · refine lv_iconst (v := 0) hx hb dX0_holds_59 (by decide) ?_
            refine lv_icmp_eq (tgt := 67) hx hb dX0_holds_60 (by decide) (fun c_60 => ?_) (fun c_60 => ?_)
            · exact absurd c_60 (by decide)
            · refine lv_iconst (v := 1) hx hb dX0_holds_63 (by decide) ?_
              refine lv_goto (tgt := 68) hx hb dX0_holds_64 (by decide) ?_
              exact ps_zret hx hb hr hlocks dX0_holds_68 rfl trivial
          · refine lv_iconst (v := 1) hx hb dX0_holds_55 (by decide) ?_
            refine lv_goto (tgt := 60) hx hb dX0_holds_56 (by decide) ?_
            refine lv_icmp_eq (tgt := 67) hx hb dX0_holds_60 (by decide) (fun c_60 => ?_) (fun c_60 => ?_)
            · refine lv_iconst (v := 0) hx hb dX0_holds_67 (by decide) ?_
              exact ps_zret hx hb hr hlocks dX0_holds_68 rfl trivial
            · exact absurd (by decide) c_60
theorem iw_X0_store : ∀ w ∈ u_ws RX0 TX0 5, w ∈ wsX0_store := by decide +kernel
set_option maxHeartbeats 4000000 in
set_option maxRecDepth 100000 in
theorem kX0_store (l : Launch) (D : va_G) (h a : Nat) (cA : ClassId) (u : wS) (hI : wI u) (i : Int32) (w : Int64) (hi : vp_in i 4096) : MM l yX0_store wsX0_store ({ frames := 0, cells := 0, slots := 0, locals := 0 }) D vwCl [(cA, .long)] (wW h a cA) (wA h a) u [.ref h, .int i, .long w] rv_v (fun _ u' => wI u') := by
  refine mm_of (cc := cX0_store) (maxL := 4) (ret := none) (by decide) rfl (Nat.le_of_ble_eq_true rfl) (wA_in h a cA u) ?_
  intro p e s m below meth c ls C hl hP hK hD hS
  obtain ⟨hx, hb, hr, hml, hown, hts, hlocks⟩ := C
  have hl : lv_has ls 4 [(0, .ref h), (1, .int i), (2, .long w)] := hl
  refine lv_aload_n hx hb dX0_store_0 rfl (lv_at hl 0 rfl) ?_
  refine va_get (D := D) (ci := 0) (v := .ref a) (C := RX0) (T := TX0) (N := 5) hx hb hts iw_X0_store hown hK hP 0 rfl rfl 0 (by decide) (hts (.fieldLink RX0 9 "WordMill" "memory" "[J") (by decide +kernel)) (fun _ h9 => h9) rfl dX0_store_1 ?_
  refine lv_iload_n hx hb dX0_store_4 rfl (lv_at hl 1 rfl) ?_
  refine lv_lload_n hx hb dX0_store_5 rfl (lv_at hl 2 rfl) ?_
  refine lv_ldc2 (v := 68719476735) hx hb hown (hts (.constantLong RX0 152 68719476735) (by decide +kernel)) dX0_store_6 ?_
  refine lv_land hx hb dX0_store_9 ?_
  refine va_last hx hb hK hP hD hS 1 0 rfl rfl hi dX0_store_10 (fun H locs hP hD hS => ?_)
  have hP : va_P D vwCl (wW h a cA ((vp_updL u.1 (i : Int32).toNatClampNeg (w &&& 68719476735)), u.2.1, u.2.2.1, u.2.2.2.1, u.2.2.2.2)) H := hP
  have hD : va_D (wA h a) (wW h a cA ((vp_updL u.1 (i : Int32).toNatClampNeg (w &&& 68719476735)), u.2.1, u.2.2.1, u.2.2.2.1, u.2.2.2.2)) := hD
  generalize (vp_updL u.1 (i : Int32).toNatClampNeg (w &&& 68719476735)) = f_10 at hP hD
  exact mm_vret (mw := wW h a cA) (u1 := (f_10, u.2.1, u.2.2.1, u.2.2.2.1, u.2.2.2.2)) hx hb hr hlocks hP hK hD hS dX0_store_11 ⟨hI.1, hI.2⟩
theorem iw_X0_jump : ∀ w ∈ u_ws RX0 TX0 5, w ∈ wsX0_jump := by decide +kernel
set_option maxHeartbeats 4000000 in
set_option maxRecDepth 100000 in
theorem kX0_jump (l : Launch) (D : va_G) (h a : Nat) (cA : ClassId) (u : wS) (hI : wI u) (e0 : Int32)  : MM l yX0_jump wsX0_jump ({ frames := 0, cells := 0, slots := 0, locals := 0 }) D vwCl [(cA, .long)] (wW h a cA) (wA h a) u [.ref h, .int e0] rv_i (fun _ u' => wI u') := by
  refine mm_of (cc := cX0_jump) (maxL := 2) (ret := (some .int)) (by decide) rfl (Nat.le_of_ble_eq_true rfl) (wA_in h a cA u) ?_
  intro p e s m below meth c ls C hl hP hK hD hS
  obtain ⟨hx, hb, hr, hml, hown, hts, hlocks⟩ := C
  have hl : lv_has ls 2 [(0, .ref h), (1, .int e0)] := hl
  refine lv_aload_n hx hb dX0_jump_0 rfl (lv_at hl 0 rfl) ?_
  refine lv_iload_n hx hb dX0_jump_1 rfl (lv_at hl 1 rfl) ?_
  refine lv_sipush (v := 4095) hx hb dX0_jump_2 (by decide) ?_
  refine lv_iand hx hb dX0_jump_5 ?_
  refine lv_topi (fun x_6 ex_6 => ?_)
  refine va_put (D := D) (ci := 0) (v := .int x_6) (ty := .int) (C := RX0) (T := TX0) (N := 5) hx hb hts iw_X0_jump tyX0 tyX0_ok nmX0 hown hK hP hD hS 0 rfl rfl 2 (by decide) (hts (.fieldLink RX0 17 "WordMill" "next" "I") (by decide +kernel)) (fun _ h9 => h9) rfl (by decide +kernel) rfl rfl (Nat.le_of_ble_eq_true rfl) dX0_jump_6 (fun H locs hP hD hS => ?_)
  have hP : va_P D vwCl (wW h a cA (u.1, u.2.1, x_6, u.2.2.2.1, u.2.2.2.2)) H := hP
  have hD : va_D (wA h a) (wW h a cA (u.1, u.2.1, x_6, u.2.2.2.1, u.2.2.2.2)) := hD
  refine lv_iconst (v := 0) hx hb dX0_jump_9 (by decide) ?_
  exact mm_iret (mw := wW h a cA) (u1 := (u.1, u.2.1, x_6, u.2.2.2.1, u.2.2.2.2)) hx hb hr hlocks hP hK hD hS dX0_jump_10 ⟨hI.1, (by rw [ex_6]; exact vp_and4095 _)⟩
theorem iw_X0_indexed : ∀ w ∈ u_ws RX0 TX0 5, w ∈ wsX0_indexed := by decide +kernel
set_option maxHeartbeats 4000000 in
set_option maxRecDepth 100000 in
theorem kX0_indexed (l : Launch) (D : va_G) (h a : Nat) (cA : ClassId) (u : wS) (hI : wI u) (w : Int64)  : MM l yX0_indexed wsX0_indexed ({ frames := 1, cells := 0, slots := 0, locals := 21 }) D vwCl [(cA, .long)] (wW h a cA) (wA h a) u [.ref h, .long w] rv_i (fun r u' => wI u' ∧ vp_in r 262144) := by
  refine mm_of (cc := cX0_indexed) (maxL := 5) (ret := (some .int)) (by decide) rfl (Nat.le_of_ble_eq_true rfl) (wA_in h a cA u) ?_
  intro p e s m below meth c ls C hl hP hK hD hS
  obtain ⟨hx, hb, hr, hml, hown, hts, hlocks⟩ := C
  have hl : lv_has ls 5 [(0, .ref h), (1, .long w)] := hl
  refine lv_lload_n hx hb dX0_indexed_0 rfl (lv_at hl 1 rfl) ?_
  refine lv_bipush (v := 18) hx hb dX0_indexed_1 (by decide) ?_
  refine lv_lshr hx hb dX0_indexed_3 rfl ?_
  refine lv_l2i hx hb dX0_indexed_4 rfl ?_
  refine lv_bipush (v := 15) hx hb dX0_indexed_5 (by decide) ?_
  refine lv_iand hx hb dX0_indexed_7 ?_
  refine lv_topi (fun x_8 ex_8 => ?_)
  refine lv_istore_n (lv' := [(3, .int x_8), (0, .ref h), (1, .long w)]) hx hb dX0_indexed_8 rfl hl (by decide) rfl (fun ls hl => ?_)
  refine lv_lload_n hx hb dX0_indexed_9 rfl (lv_at hl 2 rfl) ?_
  refine ps_goi (As := [.long w]) (rest := []) ⟨hx, hb, hml, hown, hts⟩ (kX0_rightHalf l w) (va_cwS 1 hts gX0_indexed_X0_rightHalf rfl rfl rfl (by decide +kernel) ⟨by decide, by decide⟩) rfl hl.1 rfl (Nat.le_of_ble_eq_true rfl) dX0_indexed_10 ⟨Nat.zero_le _, Nat.zero_le _⟩ (fun r_10 q_10 => ?_)
  refine lv_istore (lv' := [(4, .int r_10), (3, .int x_8), (0, .ref h), (1, .long w)]) hx hb dX0_indexed_13 hl (by decide) rfl (fun ls hl => ?_)
  refine lv_iload_n hx hb dX0_indexed_15 rfl (lv_at hl 1 rfl) ?_
  refine lv_if_ne (tgt := 24) hx hb dX0_indexed_16 (by decide) (fun c_16 => ?_) (fun c_16 => ?_)
  · refine lv_iload hx hb dX0_indexed_24 (lv_at hl 0 rfl) ?_
    refine lv_aload_n hx hb dX0_indexed_26 rfl (lv_at hl 2 rfl) ?_
    refine va_get (D := D) (ci := 0) (v := .ref a) (C := RX0) (T := TX0) (N := 5) hx hb hts iw_X0_indexed hown hK hP 0 rfl rfl 0 (by decide) (hts (.fieldLink RX0 9 "WordMill" "memory" "[J") (by decide +kernel)) (fun _ h9 => h9) rfl dX0_indexed_27 ?_
    refine lv_iload_n hx hb dX0_indexed_30 rfl (lv_at hl 1 rfl) ?_
    refine va_lald hx hb hK hP 1 0 rfl rfl (by rw [ex_8]; exact vp_and15 _) dX0_indexed_31 ?_
    refine ps_goi (As := [.long (u.1 (x_8 : Int32).toNatClampNeg)]) (rest := [.int r_10]) ⟨hx, hb, hml, hown, hts⟩ (kX0_rightHalf l (u.1 (x_8 : Int32).toNatClampNeg)) (va_cwS 1 hts gX0_indexed_X0_rightHalf rfl rfl rfl (by decide +kernel) ⟨by decide, by decide⟩) rfl hl.1 rfl (Nat.le_of_ble_eq_true rfl) dX0_indexed_32 ⟨Nat.zero_le _, Nat.zero_le _⟩ (fun r_32 q_32 => ?_)
    refine lv_iadd hx hb dX0_indexed_35 ?_
    refine lv_ldc (v := 262143) hx hb hown (hts (.constant RX0 34 262143) (by decide +kernel)) dX0_indexed_36 ?_
    refine lv_iand hx hb dX0_indexed_38 ?_
    exact mm_iret (mw := wW h a cA) (u1 := (u.1, u.2.1, u.2.2.1, u.2.2.2.1, u.2.2.2.2)) hx hb hr hlocks hP hK hD hS dX0_indexed_39 ⟨⟨hI.1, hI.2⟩, (vp_and18 _)⟩
  · refine lv_iload hx hb dX0_indexed_19 (lv_at hl 0 rfl) ?_
    refine lv_goto (tgt := 39) hx hb dX0_indexed_21 (by decide) ?_
    exact mm_iret (mw := wW h a cA) (u1 := (u.1, u.2.1, u.2.2.1, u.2.2.2.1, u.2.2.2.2)) hx hb hr hlocks hP hK hD hS dX0_indexed_39 ⟨⟨hI.1, hI.2⟩, q_10⟩
theorem iw_X0_moveTop : ∀ w ∈ u_ws RX0 TX0 5, w ∈ wsX0_moveTop := by decide +kernel
set_option maxHeartbeats 4000000 in
set_option maxRecDepth 100000 in
theorem kX0_moveTop (l : Launch) (D : va_G) (h a : Nat) (cA : ClassId) (u : wS) (hI : wI u) (ac : Int32) (ch : Int32) (hac : vp_in ac 4096) : MM l yX0_moveTop wsX0_moveTop ({ frames := 1, cells := 0, slots := 0, locals := 23 }) D vwCl [(cA, .long)] (wW h a cA) (wA h a) u [.ref h, .int ac, .int ch] rv_v (fun _ u' => wI u') := by
  refine mm_of (cc := cX0_moveTop) (maxL := 5) (ret := none) (by decide) rfl (Nat.le_of_ble_eq_true rfl) (wA_in h a cA u) ?_
  intro p e s m below meth c ls C hl hP hK hD hS
  obtain ⟨hx, hb, hr, hml, hown, hts, hlocks⟩ := C
  have hl : lv_has ls 5 [(0, .ref h), (1, .int ac), (2, .int ch)] := hl
  refine lv_aload_n hx hb dX0_moveTop_0 rfl (lv_at hl 0 rfl) ?_
  refine va_get (D := D) (ci := 0) (v := .ref a) (C := RX0) (T := TX0) (N := 5) hx hb hts iw_X0_moveTop hown hK hP 0 rfl rfl 0 (by decide) (hts (.fieldLink RX0 9 "WordMill" "memory" "[J") (by decide +kernel)) (fun _ h9 => h9) rfl dX0_moveTop_1 ?_
  refine lv_iload_n hx hb dX0_moveTop_4 rfl (lv_at hl 1 rfl) ?_
  refine va_lald hx hb hK hP 1 0 rfl rfl hac dX0_moveTop_5 ?_
  refine lv_topl (fun x_6 ex_6 => ?_)
  refine lv_lstore_n (lv' := [(3, .long x_6), (0, .ref h), (1, .int ac), (2, .int ch)]) hx hb dX0_moveTop_6 rfl hl (by decide) rfl (fun ls hl => ?_)
  refine lv_aload_n hx hb dX0_moveTop_7 rfl (lv_at hl 1 rfl) ?_
  refine lv_iload_n hx hb dX0_moveTop_8 rfl (lv_at hl 2 rfl) ?_
  refine lv_lload_n hx hb dX0_moveTop_9 rfl (lv_at hl 0 rfl) ?_
  refine lv_ldc2 (v := 68719214592) hx hb hown (hts (.constantLong RX0 130 68719214592) (by decide +kernel)) dX0_moveTop_10 ?_
  refine lv_land hx hb dX0_moveTop_13 ?_
  refine lv_lload_n hx hb dX0_moveTop_14 rfl (lv_at hl 0 rfl) ?_
  refine ps_goi (As := [.long x_6]) (rest := [.long (x_6 &&& 68719214592), .int ac, .ref h]) ⟨hx, hb, hml, hown, hts⟩ (kX0_rightHalf l x_6) (va_cwS 1 hts gX0_moveTop_X0_rightHalf rfl rfl rfl (by decide +kernel) ⟨by decide, by decide⟩) rfl hl.1 rfl (Nat.le_of_ble_eq_true rfl) dX0_moveTop_15 ⟨Nat.zero_le _, Nat.zero_le _⟩ (fun r_15 q_15 => ?_)
  refine lv_iload_n hx hb dX0_moveTop_18 rfl (lv_at hl 3 rfl) ?_
  refine lv_iadd hx hb dX0_moveTop_19 ?_
  refine lv_ldc (v := 262143) hx hb hown (hts (.constant RX0 34 262143) (by decide +kernel)) dX0_moveTop_20 ?_
  refine lv_iand hx hb dX0_moveTop_22 ?_
  refine lv_i2l hx hb dX0_moveTop_23 rfl ?_
  refine lv_lor hx hb dX0_moveTop_24 ?_
  refine w_go (rv := rv_v) (As := [.int ac, .long ((x_6 &&& 68719214592) ||| (((r_15 + ch) &&& 262143) : Int32).toInt64)]) (rest := []) ⟨hx, hb, hml, hown, hts⟩ (kX0_store l D h a cA (u.1, u.2.1, u.2.2.1, u.2.2.2.1, u.2.2.2.2) ⟨hI.1, hI.2⟩ ac ((x_6 &&& 68719214592) ||| (((r_15 + ch) &&& 262143) : Int32).toInt64) hac) (cwV 2 hts gX0_moveTop_X0_store rfl rfl rfl (by decide +kernel) ⟨by decide, by decide⟩) hK hP hD hS rfl hl.1 rfl (Nat.le_of_ble_eq_true rfl) dX0_moveTop_25 ⟨Nat.zero_le _, Nat.zero_le _⟩ (fun _ u_25 H locs q_25 hP hD hS => ?_)
  refine W.eq (g2 := F0 m 28 ls []) rfl ?_
  exact mm_vret (mw := wW h a cA) (u1 := (u_25.1, u_25.2.1, u_25.2.2.1, u_25.2.2.2.1, u_25.2.2.2.2)) hx hb hr hlocks hP hK hD hS dX0_moveTop_28 ⟨q_25.1, q_25.2⟩
end
section
theorem iw_X0_push : ∀ w ∈ u_ws RX0 TX0 5, w ∈ wsX0_push := by decide +kernel
set_option maxHeartbeats 4000000 in
set_option maxRecDepth 100000 in
theorem kX0_push (l : Launch) (D : va_G) (h a : Nat) (cA : ClassId) (u : wS) (hI : wI u) (ac : Int32) (w : Int64) (hac : vp_in ac 4096) : MM l yX0_push wsX0_push ({ frames := 2, cells := 0, slots := 0, locals := 47 }) D vwCl [(cA, .long)] (wW h a cA) (wA h a) u [.ref h, .int ac, .long w] rv_i (fun _ u' => wI u') := by
  refine mm_of (cc := cX0_push) (maxL := 5) (ret := (some .int)) (by decide) rfl (Nat.le_of_ble_eq_true rfl) (wA_in h a cA u) ?_
  intro p e s m below meth c ls C hl hP hK hD hS
  obtain ⟨hx, hb, hr, hml, hown, hts, hlocks⟩ := C
  have hl : lv_has ls 5 [(0, .ref h), (1, .int ac), (2, .long w)] := hl
  refine lv_aload_n hx hb dX0_push_0 rfl (lv_at hl 0 rfl) ?_
  refine va_get (D := D) (ci := 0) (v := .ref a) (C := RX0) (T := TX0) (N := 5) hx hb hts iw_X0_push hown hK hP 0 rfl rfl 0 (by decide) (hts (.fieldLink RX0 9 "WordMill" "memory" "[J") (by decide +kernel)) (fun _ h9 => h9) rfl dX0_push_1 ?_
  refine lv_iload_n hx hb dX0_push_4 rfl (lv_at hl 1 rfl) ?_
  refine va_lald hx hb hK hP 1 0 rfl rfl hac dX0_push_5 ?_
  refine ps_goi (As := [.long (u.1 (ac : Int32).toNatClampNeg)]) (rest := []) ⟨hx, hb, hml, hown, hts⟩ (kX0_rightHalf l (u.1 (ac : Int32).toNatClampNeg)) (va_cwS 1 hts gX0_push_X0_rightHalf rfl rfl rfl (by decide +kernel) ⟨by decide, by decide⟩) rfl hl.1 rfl (Nat.le_of_ble_eq_true rfl) dX0_push_6 ⟨Nat.zero_le _, Nat.zero_le _⟩ (fun r_6 q_6 => ?_)
  refine lv_iconst (v := 1) hx hb dX0_push_9 (by decide) ?_
  refine lv_iadd hx hb dX0_push_10 ?_
  refine lv_ldc (v := 262143) hx hb hown (hts (.constant RX0 34 262143) (by decide +kernel)) dX0_push_11 ?_
  refine lv_iand hx hb dX0_push_13 ?_
  refine lv_topi (fun x_14 ex_14 => ?_)
  refine lv_istore (lv' := [(4, .int x_14), (0, .ref h), (1, .int ac), (2, .long w)]) hx hb dX0_push_14 hl (by decide) rfl (fun ls hl => ?_)
  refine lv_iload hx hb dX0_push_16 (lv_at hl 0 rfl) ?_
  refine lv_sipush (v := 4096) hx hb dX0_push_18 (by decide) ?_
  refine lv_icmp_lt (tgt := 26) hx hb dX0_push_21 (by decide) (fun c_21 => ?_) (fun c_21 => ?_)
  · refine lv_aload_n hx hb dX0_push_26 rfl (lv_at hl 1 rfl) ?_
    refine lv_iload_n hx hb dX0_push_27 rfl (lv_at hl 2 rfl) ?_
    refine lv_iconst (v := 1) hx hb dX0_push_28 (by decide) ?_
    refine w_go (rv := rv_v) (As := [.int ac, .int 1]) (rest := []) ⟨hx, hb, hml, hown, hts⟩ (kX0_moveTop l D h a cA (u.1, u.2.1, u.2.2.1, u.2.2.2.1, u.2.2.2.2) ⟨hI.1, hI.2⟩ ac 1 hac) (cwV 2 hts gX0_push_X0_moveTop rfl rfl rfl (by decide +kernel) ⟨by decide, by decide⟩) hK hP hD hS rfl hl.1 rfl (Nat.le_of_ble_eq_true rfl) dX0_push_29 ⟨Nat.zero_le _, Nat.zero_le _⟩ (fun _ u_29 H locs q_29 hP hD hS => ?_)
    refine W.eq (g2 := F0 m 32 ls []) rfl ?_
    refine lv_aload_n hx hb dX0_push_32 rfl (lv_at hl 1 rfl) ?_
    refine lv_iload hx hb dX0_push_33 (lv_at hl 0 rfl) ?_
    refine lv_lload_n hx hb dX0_push_35 rfl (lv_at hl 3 rfl) ?_
    refine w_go (rv := rv_v) (As := [.int x_14, .long w]) (rest := []) ⟨hx, hb, hml, hown, hts⟩ (kX0_store l D h a cA (u_29.1, u_29.2.1, u_29.2.2.1, u_29.2.2.2.1, u_29.2.2.2.2) ⟨q_29.1, q_29.2⟩ x_14 w (vp_below (vp_nonneg (by rw [ex_14]; exact vp_and18 _)) c_21 (by decide))) (cwV 2 hts gX0_push_X0_store rfl rfl rfl (by decide +kernel) ⟨by decide, by decide⟩) hK hP hD hS rfl hl.1 rfl (Nat.le_of_ble_eq_true rfl) dX0_push_36 ⟨Nat.zero_le _, Nat.zero_le _⟩ (fun _ u_36 H locs q_36 hP hD hS => ?_)
    refine W.eq (g2 := F0 m 39 ls []) rfl ?_
    refine lv_iconst (v := 0) hx hb dX0_push_39 (by decide) ?_
    exact mm_iret (mw := wW h a cA) (u1 := (u_36.1, u_36.2.1, u_36.2.2.1, u_36.2.2.2.1, u_36.2.2.2.2)) hx hb hr hlocks hP hK hD hS dX0_push_40 ⟨q_36.1, q_36.2⟩
  · refine lv_iconst (v := 2) hx hb dX0_push_24 (by decide) ?_
    exact mm_iret (mw := wW h a cA) (u1 := (u.1, u.2.1, u.2.2.1, u.2.2.2.1, u.2.2.2.2)) hx hb hr hlocks hP hK hD hS dX0_push_25 ⟨hI.1, hI.2⟩
theorem iw_X0_pushNextPlace : ∀ w ∈ u_ws RX0 TX0 5, w ∈ wsX0_pushNextPlace := by decide +kernel
set_option maxHeartbeats 4000000 in
set_option maxRecDepth 100000 in
theorem kX0_pushNextPlace (l : Launch) (D : va_G) (h a : Nat) (cA : ClassId) (u : wS) (hI : wI u) (ac : Int32) (e0 : Int32) (hac : vp_in ac 4096) : MM l yX0_pushNextPlace wsX0_pushNextPlace ({ frames := 3, cells := 0, slots := 0, locals := 71 }) D vwCl [(cA, .long)] (wW h a cA) (wA h a) u [.ref h, .int ac, .int e0] rv_i (fun _ u' => wI u') := by
  refine mm_of (cc := cX0_pushNextPlace) (maxL := 4) (ret := (some .int)) (by decide) rfl (Nat.le_of_ble_eq_true rfl) (wA_in h a cA u) ?_
  intro p e s m below meth c ls C hl hP hK hD hS
  obtain ⟨hx, hb, hr, hml, hown, hts, hlocks⟩ := C
  have hl : lv_has ls 4 [(0, .ref h), (1, .int ac), (2, .int e0)] := hl
  refine lv_aload_n hx hb dX0_pushNextPlace_0 rfl (lv_at hl 0 rfl) ?_
  refine lv_iload_n hx hb dX0_pushNextPlace_1 rfl (lv_at hl 1 rfl) ?_
  refine lv_aload_n hx hb dX0_pushNextPlace_2 rfl (lv_at hl 0 rfl) ?_
  refine va_get (D := D) (ci := 0) (v := .int u.2.2.1) (C := RX0) (T := TX0) (N := 5) hx hb hts iw_X0_pushNextPlace hown hK hP 0 rfl rfl 2 (by decide) (hts (.fieldLink RX0 17 "WordMill" "next" "I") (by decide +kernel)) (fun _ h9 => h9) rfl dX0_pushNextPlace_3 ?_
  refine lv_i2l hx hb dX0_pushNextPlace_6 rfl ?_
  refine w_go (rv := rv_i) (As := [.int ac, .long ((u.2.2.1 : Int32).toInt64)]) (rest := []) ⟨hx, hb, hml, hown, hts⟩ (kX0_push l D h a cA (u.1, u.2.1, u.2.2.1, u.2.2.2.1, u.2.2.2.2) ⟨hI.1, hI.2⟩ ac ((u.2.2.1 : Int32).toInt64) hac) (cwV 2 hts gX0_pushNextPlace_X0_push rfl rfl rfl (by decide +kernel) ⟨by decide, by decide⟩) hK hP hD hS rfl hl.1 rfl (Nat.le_of_ble_eq_true rfl) dX0_pushNextPlace_7 ⟨Nat.zero_le _, Nat.zero_le _⟩ (fun r_7 u_7 H locs q_7 hP hD hS => ?_)
  refine W.eq (g2 := F0 m 10 ls (.int r_7 :: [])) rfl ?_
  refine lv_istore_n (lv' := [(3, .int r_7), (0, .ref h), (1, .int ac), (2, .int e0)]) hx hb dX0_pushNextPlace_10 rfl hl (by decide) rfl (fun ls hl => ?_)
  refine lv_iload_n hx hb dX0_pushNextPlace_11 rfl (lv_at hl 0 rfl) ?_
  refine lv_if_ne (tgt := 23) hx hb dX0_pushNextPlace_12 (by decide) (fun c_12 => ?_) (fun c_12 => ?_)
  · refine lv_iload_n hx hb dX0_pushNextPlace_23 rfl (lv_at hl 0 rfl) ?_
    exact mm_iret (mw := wW h a cA) (u1 := (u_7.1, u_7.2.1, u_7.2.2.1, u_7.2.2.2.1, u_7.2.2.2.2)) hx hb hr hlocks hP hK hD hS dX0_pushNextPlace_24 ⟨q_7.1, q_7.2⟩
  · refine lv_aload_n hx hb dX0_pushNextPlace_15 rfl (lv_at hl 1 rfl) ?_
    refine lv_iload_n hx hb dX0_pushNextPlace_16 rfl (lv_at hl 3 rfl) ?_
    refine w_go (rv := rv_i) (As := [.int e0]) (rest := []) ⟨hx, hb, hml, hown, hts⟩ (kX0_jump l D h a cA (u_7.1, u_7.2.1, u_7.2.2.1, u_7.2.2.2.1, u_7.2.2.2.2) ⟨q_7.1, q_7.2⟩ e0 ) (cwV 1 hts gX0_pushNextPlace_X0_jump rfl rfl rfl (by decide +kernel) ⟨by decide, by decide⟩) hK hP hD hS rfl hl.1 rfl (Nat.le_of_ble_eq_true rfl) dX0_pushNextPlace_17 ⟨Nat.zero_le _, Nat.zero_le _⟩ (fun r_17 u_17 H locs q_17 hP hD hS => ?_)
    refine W.eq (g2 := F0 m 20 ls (.int r_17 :: [])) rfl ?_
    refine lv_goto (tgt := 24) hx hb dX0_pushNextPlace_20 (by decide) ?_
    exact mm_iret (mw := wW h a cA) (u1 := (u_17.1, u_17.2.1, u_17.2.2.1, u_17.2.2.2.1, u_17.2.2.2.2)) hx hb hr hlocks hP hK hD hS dX0_pushNextPlace_24 ⟨q_17.1, q_17.2⟩
theorem iw_X0_popToMemory : ∀ w ∈ u_ws RX0 TX0 5, w ∈ wsX0_popToMemory := by decide +kernel
set_option maxHeartbeats 4000000 in
set_option maxRecDepth 100000 in
theorem kX0_popToMemory (l : Launch) (D : va_G) (h a : Nat) (cA : ClassId) (u : wS) (hI : wI u) (ac : Int32) (e0 : Int32) (hac : vp_in ac 4096) (he : vp_in e0 4096) : MM l yX0_popToMemory wsX0_popToMemory ({ frames := 2, cells := 0, slots := 0, locals := 47 }) D vwCl [(cA, .long)] (wW h a cA) (wA h a) u [.ref h, .int ac, .int e0] rv_i (fun _ u' => wI u') := by
  refine mm_of (cc := cX0_popToMemory) (maxL := 4) (ret := (some .int)) (by decide) rfl (Nat.le_of_ble_eq_true rfl) (wA_in h a cA u) ?_
  intro p e s m below meth c ls C hl hP hK hD hS
  obtain ⟨hx, hb, hr, hml, hown, hts, hlocks⟩ := C
  have hl : lv_has ls 4 [(0, .ref h), (1, .int ac), (2, .int e0)] := hl
  refine lv_aload_n hx hb dX0_popToMemory_0 rfl (lv_at hl 0 rfl) ?_
  refine va_get (D := D) (ci := 0) (v := .ref a) (C := RX0) (T := TX0) (N := 5) hx hb hts iw_X0_popToMemory hown hK hP 0 rfl rfl 0 (by decide) (hts (.fieldLink RX0 9 "WordMill" "memory" "[J") (by decide +kernel)) (fun _ h9 => h9) rfl dX0_popToMemory_1 ?_
  refine lv_iload_n hx hb dX0_popToMemory_4 rfl (lv_at hl 1 rfl) ?_
  refine va_lald hx hb hK hP 1 0 rfl rfl hac dX0_popToMemory_5 ?_
  refine ps_goi (As := [.long (u.1 (ac : Int32).toNatClampNeg)]) (rest := []) ⟨hx, hb, hml, hown, hts⟩ (kX0_rightHalf l (u.1 (ac : Int32).toNatClampNeg)) (va_cwS 1 hts gX0_popToMemory_X0_rightHalf rfl rfl rfl (by decide +kernel) ⟨by decide, by decide⟩) rfl hl.1 rfl (Nat.le_of_ble_eq_true rfl) dX0_popToMemory_6 ⟨Nat.zero_le _, Nat.zero_le _⟩ (fun r_6 q_6 => ?_)
  refine lv_istore_n (lv' := [(3, .int r_6), (0, .ref h), (1, .int ac), (2, .int e0)]) hx hb dX0_popToMemory_9 rfl hl (by decide) rfl (fun ls hl => ?_)
  refine lv_iload_n hx hb dX0_popToMemory_10 rfl (lv_at hl 0 rfl) ?_
  refine lv_sipush (v := 4096) hx hb dX0_popToMemory_11 (by decide) ?_
  refine lv_icmp_lt (tgt := 19) hx hb dX0_popToMemory_14 (by decide) (fun c_14 => ?_) (fun c_14 => ?_)
  · refine lv_aload_n hx hb dX0_popToMemory_19 rfl (lv_at hl 1 rfl) ?_
    refine lv_iload_n hx hb dX0_popToMemory_20 rfl (lv_at hl 3 rfl) ?_
    refine lv_aload_n hx hb dX0_popToMemory_21 rfl (lv_at hl 1 rfl) ?_
    refine va_get (D := D) (ci := 0) (v := .ref a) (C := RX0) (T := TX0) (N := 5) hx hb hts iw_X0_popToMemory hown hK hP 0 rfl rfl 0 (by decide) (hts (.fieldLink RX0 9 "WordMill" "memory" "[J") (by decide +kernel)) (fun _ h9 => h9) rfl dX0_popToMemory_22 ?_
    refine lv_iload_n hx hb dX0_popToMemory_25 rfl (lv_at hl 0 rfl) ?_
    refine va_lald hx hb hK hP 1 0 rfl rfl (vp_below (vp_nonneg q_6) c_14 (by decide)) dX0_popToMemory_26 ?_
    refine w_go (rv := rv_v) (As := [.int e0, .long (u.1 (r_6 : Int32).toNatClampNeg)]) (rest := []) ⟨hx, hb, hml, hown, hts⟩ (kX0_store l D h a cA (u.1, u.2.1, u.2.2.1, u.2.2.2.1, u.2.2.2.2) ⟨hI.1, hI.2⟩ e0 (u.1 (r_6 : Int32).toNatClampNeg) he) (cwV 2 hts gX0_popToMemory_X0_store rfl rfl rfl (by decide +kernel) ⟨by decide, by decide⟩) hK hP hD hS rfl hl.1 rfl (Nat.le_of_ble_eq_true rfl) dX0_popToMemory_27 ⟨Nat.zero_le _, Nat.zero_le _⟩ (fun _ u_27 H locs q_27 hP hD hS => ?_)
    refine W.eq (g2 := F0 m 30 ls []) rfl ?_
    refine lv_aload_n hx hb dX0_popToMemory_30 rfl (lv_at hl 1 rfl) ?_
    refine lv_iload_n hx hb dX0_popToMemory_31 rfl (lv_at hl 2 rfl) ?_
    refine lv_iconst (v := -1) hx hb dX0_popToMemory_32 (by decide) ?_
    refine w_go (rv := rv_v) (As := [.int ac, .int (-1)]) (rest := []) ⟨hx, hb, hml, hown, hts⟩ (kX0_moveTop l D h a cA (u_27.1, u_27.2.1, u_27.2.2.1, u_27.2.2.2.1, u_27.2.2.2.2) ⟨q_27.1, q_27.2⟩ ac (-1) hac) (cwV 2 hts gX0_popToMemory_X0_moveTop rfl rfl rfl (by decide +kernel) ⟨by decide, by decide⟩) hK hP hD hS rfl hl.1 rfl (Nat.le_of_ble_eq_true rfl) dX0_popToMemory_33 ⟨Nat.zero_le _, Nat.zero_le _⟩ (fun _ u_33 H locs q_33 hP hD hS => ?_)
    refine W.eq (g2 := F0 m 36 ls []) rfl ?_
    refine lv_iconst (v := 0) hx hb dX0_popToMemory_36 (by decide) ?_
    exact mm_iret (mw := wW h a cA) (u1 := (u_33.1, u_33.2.1, u_33.2.2.1, u_33.2.2.2.1, u_33.2.2.2.2)) hx hb hr hlocks hP hK hD hS dX0_popToMemory_37 ⟨q_33.1, q_33.2⟩
  · refine lv_iconst (v := 2) hx hb dX0_popToMemory_17 (by decide) ?_
    exact mm_iret (mw := wW h a cA) (u1 := (u.1, u.2.1, u.2.2.1, u.2.2.2.1, u.2.2.2.2)) hx hb hr hlocks hP hK hD hS dX0_popToMemory_18 ⟨hI.1, hI.2⟩
theorem iw_X0_popToPc : ∀ w ∈ u_ws RX0 TX0 5, w ∈ wsX0_popToPc := by decide +kernel
set_option maxHeartbeats 4000000 in
set_option maxRecDepth 100000 in
theorem kX0_popToPc (l : Launch) (D : va_G) (h a : Nat) (cA : ClassId) (u : wS) (hI : wI u) (ac : Int32) (hac : vp_in ac 4096) : MM l yX0_popToPc wsX0_popToPc ({ frames := 2, cells := 0, slots := 0, locals := 47 }) D vwCl [(cA, .long)] (wW h a cA) (wA h a) u [.ref h, .int ac] rv_i (fun _ u' => wI u') := by
  refine mm_of (cc := cX0_popToPc) (maxL := 3) (ret := (some .int)) (by decide) rfl (Nat.le_of_ble_eq_true rfl) (wA_in h a cA u) ?_
  intro p e s m below meth c ls C hl hP hK hD hS
  obtain ⟨hx, hb, hr, hml, hown, hts, hlocks⟩ := C
  have hl : lv_has ls 3 [(0, .ref h), (1, .int ac)] := hl
  refine lv_aload_n hx hb dX0_popToPc_0 rfl (lv_at hl 0 rfl) ?_
  refine va_get (D := D) (ci := 0) (v := .ref a) (C := RX0) (T := TX0) (N := 5) hx hb hts iw_X0_popToPc hown hK hP 0 rfl rfl 0 (by decide) (hts (.fieldLink RX0 9 "WordMill" "memory" "[J") (by decide +kernel)) (fun _ h9 => h9) rfl dX0_popToPc_1 ?_
  refine lv_iload_n hx hb dX0_popToPc_4 rfl (lv_at hl 1 rfl) ?_
  refine va_lald hx hb hK hP 1 0 rfl rfl hac dX0_popToPc_5 ?_
  refine ps_goi (As := [.long (u.1 (ac : Int32).toNatClampNeg)]) (rest := []) ⟨hx, hb, hml, hown, hts⟩ (kX0_rightHalf l (u.1 (ac : Int32).toNatClampNeg)) (va_cwS 1 hts gX0_popToPc_X0_rightHalf rfl rfl rfl (by decide +kernel) ⟨by decide, by decide⟩) rfl hl.1 rfl (Nat.le_of_ble_eq_true rfl) dX0_popToPc_6 ⟨Nat.zero_le _, Nat.zero_le _⟩ (fun r_6 q_6 => ?_)
  refine lv_istore_n (lv' := [(2, .int r_6), (0, .ref h), (1, .int ac)]) hx hb dX0_popToPc_9 rfl hl (by decide) rfl (fun ls hl => ?_)
  refine lv_iload_n hx hb dX0_popToPc_10 rfl (lv_at hl 0 rfl) ?_
  refine lv_sipush (v := 4096) hx hb dX0_popToPc_11 (by decide) ?_
  refine lv_icmp_lt (tgt := 19) hx hb dX0_popToPc_14 (by decide) (fun c_14 => ?_) (fun c_14 => ?_)
  · refine lv_aload_n hx hb dX0_popToPc_19 rfl (lv_at hl 1 rfl) ?_
    refine lv_aload_n hx hb dX0_popToPc_20 rfl (lv_at hl 1 rfl) ?_
    refine va_get (D := D) (ci := 0) (v := .ref a) (C := RX0) (T := TX0) (N := 5) hx hb hts iw_X0_popToPc hown hK hP 0 rfl rfl 0 (by decide) (hts (.fieldLink RX0 9 "WordMill" "memory" "[J") (by decide +kernel)) (fun _ h9 => h9) rfl dX0_popToPc_21 ?_
    refine lv_iload_n hx hb dX0_popToPc_24 rfl (lv_at hl 0 rfl) ?_
    refine va_lald hx hb hK hP 1 0 rfl rfl (vp_below (vp_nonneg q_6) c_14 (by decide)) dX0_popToPc_25 ?_
    refine ps_goi (As := [.long (u.1 (r_6 : Int32).toNatClampNeg)]) (rest := [.ref h]) ⟨hx, hb, hml, hown, hts⟩ (kX0_rightHalf l (u.1 (r_6 : Int32).toNatClampNeg)) (va_cwS 1 hts gX0_popToPc_X0_rightHalf rfl rfl rfl (by decide +kernel) ⟨by decide, by decide⟩) rfl hl.1 rfl (Nat.le_of_ble_eq_true rfl) dX0_popToPc_26 ⟨Nat.zero_le _, Nat.zero_le _⟩ (fun r_26 q_26 => ?_)
    refine w_go (rv := rv_i) (As := [.int r_26]) (rest := []) ⟨hx, hb, hml, hown, hts⟩ (kX0_jump l D h a cA (u.1, u.2.1, u.2.2.1, u.2.2.2.1, u.2.2.2.2) ⟨hI.1, hI.2⟩ r_26 ) (cwV 1 hts gX0_popToPc_X0_jump rfl rfl rfl (by decide +kernel) ⟨by decide, by decide⟩) hK hP hD hS rfl hl.1 rfl (Nat.le_of_ble_eq_true rfl) dX0_popToPc_29 ⟨Nat.zero_le _, Nat.zero_le _⟩ (fun r_29 u_29 H locs q_29 hP hD hS => ?_)
    refine W.eq (g2 := F0 m 32 ls (.int r_29 :: [])) rfl ?_
    refine lv_pop hx hb dX0_popToPc_32 rfl ?_
    refine lv_aload_n hx hb dX0_popToPc_33 rfl (lv_at hl 1 rfl) ?_
    refine lv_iload_n hx hb dX0_popToPc_34 rfl (lv_at hl 2 rfl) ?_
    refine lv_iconst (v := -1) hx hb dX0_popToPc_35 (by decide) ?_
    refine w_go (rv := rv_v) (As := [.int ac, .int (-1)]) (rest := []) ⟨hx, hb, hml, hown, hts⟩ (kX0_moveTop l D h a cA (u_29.1, u_29.2.1, u_29.2.2.1, u_29.2.2.2.1, u_29.2.2.2.2) ⟨q_29.1, q_29.2⟩ ac (-1) hac) (cwV 2 hts gX0_popToPc_X0_moveTop rfl rfl rfl (by decide +kernel) ⟨by decide, by decide⟩) hK hP hD hS rfl hl.1 rfl (Nat.le_of_ble_eq_true rfl) dX0_popToPc_36 ⟨Nat.zero_le _, Nat.zero_le _⟩ (fun _ u_36 H locs q_36 hP hD hS => ?_)
    refine W.eq (g2 := F0 m 39 ls []) rfl ?_
    refine lv_iconst (v := 0) hx hb dX0_popToPc_39 (by decide) ?_
    exact mm_iret (mw := wW h a cA) (u1 := (u_36.1, u_36.2.1, u_36.2.2.1, u_36.2.2.2.1, u_36.2.2.2.2)) hx hb hr hlocks hP hK hD hS dX0_popToPc_40 ⟨q_36.1, q_36.2⟩
  · refine lv_iconst (v := 2) hx hb dX0_popToPc_17 (by decide) ?_
    exact mm_iret (mw := wW h a cA) (u1 := (u.1, u.2.1, u.2.2.1, u.2.2.2.1, u.2.2.2.2)) hx hb hr hlocks hP hK hD hS dX0_popToPc_18 ⟨hI.1, hI.2⟩
theorem iw_X0_leaveNextPlaceAndJump : ∀ w ∈ u_ws RX0 TX0 5, w ∈ wsX0_leaveNextPlaceAndJump := by decide +kernel
set_option maxHeartbeats 4000000 in
set_option maxRecDepth 100000 in
theorem kX0_leaveNextPlaceAndJump (l : Launch) (D : va_G) (h a : Nat) (cA : ClassId) (u : wS) (hI : wI u) (e0 : Int32) (he : vp_in e0 4096) : MM l yX0_leaveNextPlaceAndJump wsX0_leaveNextPlaceAndJump ({ frames := 1, cells := 0, slots := 0, locals := 23 }) D vwCl [(cA, .long)] (wW h a cA) (wA h a) u [.ref h, .int e0] rv_i (fun _ u' => wI u') := by
  refine mm_of (cc := cX0_leaveNextPlaceAndJump) (maxL := 2) (ret := (some .int)) (by decide) rfl (Nat.le_of_ble_eq_true rfl) (wA_in h a cA u) ?_
  intro p e s m below meth c ls C hl hP hK hD hS
  obtain ⟨hx, hb, hr, hml, hown, hts, hlocks⟩ := C
  have hl : lv_has ls 2 [(0, .ref h), (1, .int e0)] := hl
  refine lv_aload_n hx hb dX0_leaveNextPlaceAndJump_0 rfl (lv_at hl 0 rfl) ?_
  refine lv_iload_n hx hb dX0_leaveNextPlaceAndJump_1 rfl (lv_at hl 1 rfl) ?_
  refine lv_aload_n hx hb dX0_leaveNextPlaceAndJump_2 rfl (lv_at hl 0 rfl) ?_
  refine va_get (D := D) (ci := 0) (v := .int u.2.2.1) (C := RX0) (T := TX0) (N := 5) hx hb hts iw_X0_leaveNextPlaceAndJump hown hK hP 0 rfl rfl 2 (by decide) (hts (.fieldLink RX0 17 "WordMill" "next" "I") (by decide +kernel)) (fun _ h9 => h9) rfl dX0_leaveNextPlaceAndJump_3 ?_
  refine lv_i2l hx hb dX0_leaveNextPlaceAndJump_6 rfl ?_
  refine w_go (rv := rv_v) (As := [.int e0, .long ((u.2.2.1 : Int32).toInt64)]) (rest := []) ⟨hx, hb, hml, hown, hts⟩ (kX0_store l D h a cA (u.1, u.2.1, u.2.2.1, u.2.2.2.1, u.2.2.2.2) ⟨hI.1, hI.2⟩ e0 ((u.2.2.1 : Int32).toInt64) he) (cwV 2 hts gX0_leaveNextPlaceAndJump_X0_store rfl rfl rfl (by decide +kernel) ⟨by decide, by decide⟩) hK hP hD hS rfl hl.1 rfl (Nat.le_of_ble_eq_true rfl) dX0_leaveNextPlaceAndJump_7 ⟨Nat.zero_le _, Nat.zero_le _⟩ (fun _ u_7 H locs q_7 hP hD hS => ?_)
  refine W.eq (g2 := F0 m 10 ls []) rfl ?_
  refine lv_aload_n hx hb dX0_leaveNextPlaceAndJump_10 rfl (lv_at hl 0 rfl) ?_
  refine lv_iload_n hx hb dX0_leaveNextPlaceAndJump_11 rfl (lv_at hl 1 rfl) ?_
  refine lv_iconst (v := 1) hx hb dX0_leaveNextPlaceAndJump_12 (by decide) ?_
  refine lv_iadd hx hb dX0_leaveNextPlaceAndJump_13 ?_
  refine w_go (rv := rv_i) (As := [.int (e0 + 1)]) (rest := []) ⟨hx, hb, hml, hown, hts⟩ (kX0_jump l D h a cA (u_7.1, u_7.2.1, u_7.2.2.1, u_7.2.2.2.1, u_7.2.2.2.2) ⟨q_7.1, q_7.2⟩ (e0 + 1) ) (cwV 1 hts gX0_leaveNextPlaceAndJump_X0_jump rfl rfl rfl (by decide +kernel) ⟨by decide, by decide⟩) hK hP hD hS rfl hl.1 rfl (Nat.le_of_ble_eq_true rfl) dX0_leaveNextPlaceAndJump_14 ⟨Nat.zero_le _, Nat.zero_le _⟩ (fun r_14 u_14 H locs q_14 hP hD hS => ?_)
  refine W.eq (g2 := F0 m 17 ls (.int r_14 :: [])) rfl ?_
  exact mm_iret (mw := wW h a cA) (u1 := (u_14.1, u_14.2.1, u_14.2.2.1, u_14.2.2.2.1, u_14.2.2.2.2)) hx hb hr hlocks hP hK hD hS dX0_leaveNextPlaceAndJump_17 ⟨q_14.1, q_14.2⟩
theorem iw_X0_exchange : ∀ w ∈ u_ws RX0 TX0 5, w ∈ wsX0_exchange := by decide +kernel
set_option maxHeartbeats 4000000 in
set_option maxRecDepth 100000 in
theorem kX0_exchange (l : Launch) (D : va_G) (h a : Nat) (cA : ClassId) (u : wS) (hI : wI u) (ac : Int32) (e0 : Int32) (hac : vp_in ac 4096) (he : vp_in e0 4096) : MM l yX0_exchange wsX0_exchange ({ frames := 1, cells := 0, slots := 0, locals := 23 }) D vwCl [(cA, .long)] (wW h a cA) (wA h a) u [.ref h, .int ac, .int e0] rv_i (fun _ u' => wI u') := by
  refine mm_of (cc := cX0_exchange) (maxL := 5) (ret := (some .int)) (by decide) rfl (Nat.le_of_ble_eq_true rfl) (wA_in h a cA u) ?_
  intro p e s m below meth c ls C hl hP hK hD hS
  obtain ⟨hx, hb, hr, hml, hown, hts, hlocks⟩ := C
  have hl : lv_has ls 5 [(0, .ref h), (1, .int ac), (2, .int e0)] := hl
  refine lv_aload_n hx hb dX0_exchange_0 rfl (lv_at hl 0 rfl) ?_
  refine va_get (D := D) (ci := 0) (v := .ref a) (C := RX0) (T := TX0) (N := 5) hx hb hts iw_X0_exchange hown hK hP 0 rfl rfl 0 (by decide) (hts (.fieldLink RX0 9 "WordMill" "memory" "[J") (by decide +kernel)) (fun _ h9 => h9) rfl dX0_exchange_1 ?_
  refine lv_iload_n hx hb dX0_exchange_4 rfl (lv_at hl 1 rfl) ?_
  refine va_lald hx hb hK hP 1 0 rfl rfl hac dX0_exchange_5 ?_
  refine lv_topl (fun x_6 ex_6 => ?_)
  refine lv_lstore_n (lv' := [(3, .long x_6), (0, .ref h), (1, .int ac), (2, .int e0)]) hx hb dX0_exchange_6 rfl hl (by decide) rfl (fun ls hl => ?_)
  refine lv_aload_n hx hb dX0_exchange_7 rfl (lv_at hl 1 rfl) ?_
  refine lv_iload_n hx hb dX0_exchange_8 rfl (lv_at hl 2 rfl) ?_
  refine lv_aload_n hx hb dX0_exchange_9 rfl (lv_at hl 1 rfl) ?_
  refine va_get (D := D) (ci := 0) (v := .ref a) (C := RX0) (T := TX0) (N := 5) hx hb hts iw_X0_exchange hown hK hP 0 rfl rfl 0 (by decide) (hts (.fieldLink RX0 9 "WordMill" "memory" "[J") (by decide +kernel)) (fun _ h9 => h9) rfl dX0_exchange_10 ?_
  refine lv_iload_n hx hb dX0_exchange_13 rfl (lv_at hl 3 rfl) ?_
  refine va_lald hx hb hK hP 1 0 rfl rfl he dX0_exchange_14 ?_
  refine w_go (rv := rv_v) (As := [.int ac, .long (u.1 (e0 : Int32).toNatClampNeg)]) (rest := []) ⟨hx, hb, hml, hown, hts⟩ (kX0_store l D h a cA (u.1, u.2.1, u.2.2.1, u.2.2.2.1, u.2.2.2.2) ⟨hI.1, hI.2⟩ ac (u.1 (e0 : Int32).toNatClampNeg) hac) (cwV 2 hts gX0_exchange_X0_store rfl rfl rfl (by decide +kernel) ⟨by decide, by decide⟩) hK hP hD hS rfl hl.1 rfl (Nat.le_of_ble_eq_true rfl) dX0_exchange_15 ⟨Nat.zero_le _, Nat.zero_le _⟩ (fun _ u_15 H locs q_15 hP hD hS => ?_)
  refine W.eq (g2 := F0 m 18 ls []) rfl ?_
  refine lv_aload_n hx hb dX0_exchange_18 rfl (lv_at hl 1 rfl) ?_
  refine lv_iload_n hx hb dX0_exchange_19 rfl (lv_at hl 3 rfl) ?_
  refine lv_lload_n hx hb dX0_exchange_20 rfl (lv_at hl 0 rfl) ?_
  refine w_go (rv := rv_v) (As := [.int e0, .long x_6]) (rest := []) ⟨hx, hb, hml, hown, hts⟩ (kX0_store l D h a cA (u_15.1, u_15.2.1, u_15.2.2.1, u_15.2.2.2.1, u_15.2.2.2.2) ⟨q_15.1, q_15.2⟩ e0 x_6 he) (cwV 2 hts gX0_exchange_X0_store rfl rfl rfl (by decide +kernel) ⟨by decide, by decide⟩) hK hP hD hS rfl hl.1 rfl (Nat.le_of_ble_eq_true rfl) dX0_exchange_21 ⟨Nat.zero_le _, Nat.zero_le _⟩ (fun _ u_21 H locs q_21 hP hD hS => ?_)
  refine W.eq (g2 := F0 m 24 ls []) rfl ?_
  refine lv_iconst (v := 0) hx hb dX0_exchange_24 (by decide) ?_
  exact mm_iret (mw := wW h a cA) (u1 := (u_21.1, u_21.2.1, u_21.2.2.1, u_21.2.2.2.1, u_21.2.2.2.2)) hx hb hr hlocks hP hK hD hS dX0_exchange_25 ⟨q_21.1, q_21.2⟩
theorem iw_X0_divide : ∀ w ∈ u_ws RX0 TX0 5, w ∈ wsX0_divide := by decide +kernel
set_option maxHeartbeats 4000000 in
set_option maxRecDepth 100000 in
theorem kX0_divide (l : Launch) (D : va_G) (h a : Nat) (cA : ClassId) (u : wS) (hI : wI u) (ac : Int32) (w : Int64) (hac : vp_in ac 4096) : MM l yX0_divide wsX0_divide ({ frames := 1, cells := 0, slots := 0, locals := 23 }) D vwCl [(cA, .long)] (wW h a cA) (wA h a) u [.ref h, .int ac, .long w] rv_i (fun _ u' => wI u') := by
  refine mm_of (cc := cX0_divide) (maxL := 8) (ret := (some .int)) (by decide) rfl (Nat.le_of_ble_eq_true rfl) (wA_in h a cA u) ?_
  intro p e s m below meth c ls C hl hP hK hD hS
  obtain ⟨hx, hb, hr, hml, hown, hts, hlocks⟩ := C
  have hl : lv_has ls 8 [(0, .ref h), (1, .int ac), (2, .long w)] := hl
  refine lv_aload_n hx hb dX0_divide_0 rfl (lv_at hl 0 rfl) ?_
  refine va_get (D := D) (ci := 0) (v := .ref a) (C := RX0) (T := TX0) (N := 5) hx hb hts iw_X0_divide hown hK hP 0 rfl rfl 0 (by decide) (hts (.fieldLink RX0 9 "WordMill" "memory" "[J") (by decide +kernel)) (fun _ h9 => h9) rfl dX0_divide_1 ?_
  refine lv_iload_n hx hb dX0_divide_4 rfl (lv_at hl 1 rfl) ?_
  refine va_lald hx hb hK hP 1 0 rfl rfl hac dX0_divide_5 ?_
  refine ps_gol (As := [.long (u.1 (ac : Int32).toNatClampNeg)]) (rest := []) ⟨hx, hb, hml, hown, hts⟩ (kX0_number l (u.1 (ac : Int32).toNatClampNeg)) (va_cwS 1 hts gX0_divide_X0_number rfl rfl rfl (by decide +kernel) ⟨by decide, by decide⟩) rfl hl.1 rfl (Nat.le_of_ble_eq_true rfl) dX0_divide_6 ⟨Nat.zero_le _, Nat.zero_le _⟩ (fun r_6 q_6 => ?_)
  refine lv_lstore (lv' := [(4, .long r_6), (0, .ref h), (1, .int ac), (2, .long w)]) hx hb dX0_divide_9 hl (by decide) rfl (fun ls hl => ?_)
  refine lv_lload_n hx hb dX0_divide_11 rfl (lv_at hl 3 rfl) ?_
  refine ps_gol (As := [.long w]) (rest := []) ⟨hx, hb, hml, hown, hts⟩ (kX0_number l w) (va_cwS 1 hts gX0_divide_X0_number rfl rfl rfl (by decide +kernel) ⟨by decide, by decide⟩) rfl hl.1 rfl (Nat.le_of_ble_eq_true rfl) dX0_divide_12 ⟨Nat.zero_le _, Nat.zero_le _⟩ (fun r_12 q_12 => ?_)
  refine lv_lstore (lv' := [(6, .long r_12), (4, .long r_6), (0, .ref h), (1, .int ac), (2, .long w)]) hx hb dX0_divide_15 hl (by decide) rfl (fun ls hl => ?_)
  refine lv_lload hx hb dX0_divide_17 (lv_at hl 0 rfl) ?_
  refine lv_lconst (v := 0) hx hb dX0_divide_19 (by decide) ?_
  refine W.lcmp hx hb dX0_divide_20 ?_
  refine lv_if_eq (tgt := 42) hx hb dX0_divide_21 (by decide) (fun c_21 => ?_) (fun c_21 => ?_)
  · refine lv_iconst (v := 3) hx hb dX0_divide_42 (by decide) ?_
    exact mm_iret (mw := wW h a cA) (u1 := (u.1, u.2.1, u.2.2.1, u.2.2.2.1, u.2.2.2.2)) hx hb hr hlocks hP hK hD hS dX0_divide_43 ⟨hI.1, hI.2⟩
  · refine lv_lload hx hb dX0_divide_24 (lv_at hl 0 rfl) ?_
    refine lv_ldc2 (v := -1) hx hb hown (hts (.constantLong RX0 128 (-1)) (by decide +kernel)) dX0_divide_26 ?_
    refine W.lcmp hx hb dX0_divide_29 ?_
    refine lv_if_ne (tgt := 44) hx hb dX0_divide_30 (by decide) (fun c_30 => ?_) (fun c_30 => ?_)
    · refine lv_aload_n hx hb dX0_divide_44 rfl (lv_at hl 2 rfl) ?_
      refine lv_iload_n hx hb dX0_divide_45 rfl (lv_at hl 3 rfl) ?_
      refine lv_lload hx hb dX0_divide_46 (lv_at hl 1 rfl) ?_
      refine lv_lload hx hb dX0_divide_48 (lv_at hl 0 rfl) ?_
      refine lv_ldiv hx hb dX0_divide_50 (fun hz => c_21 (by rw [hz]; rfl)) ?_
      refine w_go (rv := rv_v) (As := [.int ac, .long (r_6 / r_12)]) (rest := []) ⟨hx, hb, hml, hown, hts⟩ (kX0_store l D h a cA (u.1, u.2.1, u.2.2.1, u.2.2.2.1, u.2.2.2.2) ⟨hI.1, hI.2⟩ ac (r_6 / r_12) hac) (cwV 2 hts gX0_divide_X0_store rfl rfl rfl (by decide +kernel) ⟨by decide, by decide⟩) hK hP hD hS rfl hl.1 rfl (Nat.le_of_ble_eq_true rfl) dX0_divide_51 ⟨Nat.zero_le _, Nat.zero_le _⟩ (fun _ u_51 H locs q_51 hP hD hS => ?_)
      refine W.eq (g2 := F0 m 54 ls []) rfl ?_
      refine lv_aload_n hx hb dX0_divide_54 rfl (lv_at hl 2 rfl) ?_
      refine lv_iload_n hx hb dX0_divide_55 rfl (lv_at hl 3 rfl) ?_
      refine lv_iconst (v := 1) hx hb dX0_divide_56 (by decide) ?_
      refine lv_iadd hx hb dX0_divide_57 ?_
      refine lv_bipush (v := 15) hx hb dX0_divide_58 (by decide) ?_
      refine lv_iand hx hb dX0_divide_60 ?_
      refine lv_lload hx hb dX0_divide_61 (lv_at hl 1 rfl) ?_
      refine lv_lload hx hb dX0_divide_63 (lv_at hl 0 rfl) ?_
      refine lv_lrem hx hb dX0_divide_65 (fun hz => c_21 (by rw [hz]; rfl)) ?_
      refine w_go (rv := rv_v) (As := [.int ((ac + 1) &&& 15), .long (r_6 - r_6 / r_12 * r_12)]) (rest := []) ⟨hx, hb, hml, hown, hts⟩ (kX0_store l D h a cA (u_51.1, u_51.2.1, u_51.2.2.1, u_51.2.2.2.1, u_51.2.2.2.2) ⟨q_51.1, q_51.2⟩ ((ac + 1) &&& 15) (r_6 - r_6 / r_12 * r_12) (vp_and15 _)) (cwV 2 hts gX0_divide_X0_store rfl rfl rfl (by decide +kernel) ⟨by decide, by decide⟩) hK hP hD hS rfl hl.1 rfl (Nat.le_of_ble_eq_true rfl) dX0_divide_66 ⟨Nat.zero_le _, Nat.zero_le _⟩ (fun _ u_66 H locs q_66 hP hD hS => ?_)
      refine W.eq (g2 := F0 m 69 ls []) rfl ?_
      refine lv_iconst (v := 0) hx hb dX0_divide_69 (by decide) ?_
      exact mm_iret (mw := wW h a cA) (u1 := (u_66.1, u_66.2.1, u_66.2.2.1, u_66.2.2.2.1, u_66.2.2.2.2)) hx hb hr hlocks hP hK hD hS dX0_divide_70 ⟨q_66.1, q_66.2⟩
    · refine lv_lload hx hb dX0_divide_33 (lv_at hl 1 rfl) ?_
      refine lv_ldc2 (v := -34359738368) hx hb hown (hts (.constantLong RX0 132 (-34359738368)) (by decide +kernel)) dX0_divide_35 ?_
      refine W.lcmp hx hb dX0_divide_38 ?_
      refine lv_if_ne (tgt := 44) hx hb dX0_divide_39 (by decide) (fun c_39 => ?_) (fun c_39 => ?_)
      · refine lv_aload_n hx hb dX0_divide_44 rfl (lv_at hl 2 rfl) ?_
        refine lv_iload_n hx hb dX0_divide_45 rfl (lv_at hl 3 rfl) ?_
        refine lv_lload hx hb dX0_divide_46 (lv_at hl 1 rfl) ?_
        refine lv_lload hx hb dX0_divide_48 (lv_at hl 0 rfl) ?_
        refine lv_ldiv hx hb dX0_divide_50 (fun hz => c_21 (by rw [hz]; rfl)) ?_
        refine w_go (rv := rv_v) (As := [.int ac, .long (r_6 / r_12)]) (rest := []) ⟨hx, hb, hml, hown, hts⟩ (kX0_store l D h a cA (u.1, u.2.1, u.2.2.1, u.2.2.2.1, u.2.2.2.2) ⟨hI.1, hI.2⟩ ac (r_6 / r_12) hac) (cwV 2 hts gX0_divide_X0_store rfl rfl rfl (by decide +kernel) ⟨by decide, by decide⟩) hK hP hD hS rfl hl.1 rfl (Nat.le_of_ble_eq_true rfl) dX0_divide_51 ⟨Nat.zero_le _, Nat.zero_le _⟩ (fun _ u_51 H locs q_51 hP hD hS => ?_)
        refine W.eq (g2 := F0 m 54 ls []) rfl ?_
        refine lv_aload_n hx hb dX0_divide_54 rfl (lv_at hl 2 rfl) ?_
        refine lv_iload_n hx hb dX0_divide_55 rfl (lv_at hl 3 rfl) ?_
        refine lv_iconst (v := 1) hx hb dX0_divide_56 (by decide) ?_
        refine lv_iadd hx hb dX0_divide_57 ?_
        refine lv_bipush (v := 15) hx hb dX0_divide_58 (by decide) ?_
        refine lv_iand hx hb dX0_divide_60 ?_
        refine lv_lload hx hb dX0_divide_61 (lv_at hl 1 rfl) ?_
        refine lv_lload hx hb dX0_divide_63 (lv_at hl 0 rfl) ?_
        refine lv_lrem hx hb dX0_divide_65 (fun hz => c_21 (by rw [hz]; rfl)) ?_
        refine w_go (rv := rv_v) (As := [.int ((ac + 1) &&& 15), .long (r_6 - r_6 / r_12 * r_12)]) (rest := []) ⟨hx, hb, hml, hown, hts⟩ (kX0_store l D h a cA (u_51.1, u_51.2.1, u_51.2.2.1, u_51.2.2.2.1, u_51.2.2.2.2) ⟨q_51.1, q_51.2⟩ ((ac + 1) &&& 15) (r_6 - r_6 / r_12 * r_12) (vp_and15 _)) (cwV 2 hts gX0_divide_X0_store rfl rfl rfl (by decide +kernel) ⟨by decide, by decide⟩) hK hP hD hS rfl hl.1 rfl (Nat.le_of_ble_eq_true rfl) dX0_divide_66 ⟨Nat.zero_le _, Nat.zero_le _⟩ (fun _ u_66 H locs q_66 hP hD hS => ?_)
        refine W.eq (g2 := F0 m 69 ls []) rfl ?_
        refine lv_iconst (v := 0) hx hb dX0_divide_69 (by decide) ?_
        exact mm_iret (mw := wW h a cA) (u1 := (u_66.1, u_66.2.1, u_66.2.2.1, u_66.2.2.2.1, u_66.2.2.2.2)) hx hb hr hlocks hP hK hD hS dX0_divide_70 ⟨q_66.1, q_66.2⟩
      · refine lv_iconst (v := 3) hx hb dX0_divide_42 (by decide) ?_
        exact mm_iret (mw := wW h a cA) (u1 := (u.1, u.2.1, u.2.2.1, u.2.2.2.1, u.2.2.2.2)) hx hb hr hlocks hP hK hD hS dX0_divide_43 ⟨hI.1, hI.2⟩
theorem iw_X0_combine : ∀ w ∈ u_ws RX0 TX0 5, w ∈ wsX0_combine := by decide +kernel
set_option maxHeartbeats 4000000 in
set_option maxRecDepth 100000 in
theorem kX0_combine (l : Launch) (D : va_G) (h a : Nat) (cA : ClassId) (u : wS) (hI : wI u) (op : Int32) (ac : Int32) (w : Int64) (hac : vp_in ac 4096) : MM l yX0_combine wsX0_combine ({ frames := 2, cells := 0, slots := 0, locals := 47 }) D vwCl [(cA, .long)] (wW h a cA) (wA h a) u [.ref h, .int op, .int ac, .long w] rv_i (fun _ u' => wI u') := by
  refine mm_of (cc := cX0_combine) (maxL := 7) (ret := (some .int)) (by decide) rfl (Nat.le_of_ble_eq_true rfl) (wA_in h a cA u) ?_
  intro p e s m below meth c ls C hl hP hK hD hS
  obtain ⟨hx, hb, hr, hml, hown, hts, hlocks⟩ := C
  have hl : lv_has ls 7 [(0, .ref h), (1, .int op), (2, .int ac), (3, .long w)] := hl
  refine lv_aload_n hx hb dX0_combine_0 rfl (lv_at hl 0 rfl) ?_
  refine va_get (D := D) (ci := 0) (v := .ref a) (C := RX0) (T := TX0) (N := 5) hx hb hts iw_X0_combine hown hK hP 0 rfl rfl 0 (by decide) (hts (.fieldLink RX0 9 "WordMill" "memory" "[J") (by decide +kernel)) (fun _ h9 => h9) rfl dX0_combine_1 ?_
  refine lv_iload_n hx hb dX0_combine_4 rfl (lv_at hl 2 rfl) ?_
  refine va_lald hx hb hK hP 1 0 rfl rfl hac dX0_combine_5 ?_
  refine lv_topl (fun x_6 ex_6 => ?_)
  refine lv_lstore (lv' := [(5, .long x_6), (0, .ref h), (1, .int op), (2, .int ac), (3, .long w)]) hx hb dX0_combine_6 hl (by decide) rfl (fun ls hl => ?_)
  refine lv_aload_n hx hb dX0_combine_8 rfl (lv_at hl 1 rfl) ?_
  refine lv_iload_n hx hb dX0_combine_9 rfl (lv_at hl 3 rfl) ?_
  refine lv_iload_n hx hb dX0_combine_10 rfl (lv_at hl 2 rfl) ?_
  refine ps_goi (As := [.int op]) (rest := [.int ac, .ref h]) ⟨hx, hb, hml, hown, hts⟩ (kX0_isOfHalves l op) (va_cwS 1 hts gX0_combine_X0_isOfHalves rfl rfl rfl (by decide +kernel) ⟨by decide, by decide⟩) rfl hl.1 rfl (Nat.le_of_ble_eq_true rfl) dX0_combine_11 ⟨Nat.zero_le _, Nat.zero_le _⟩ (fun r_11 q_11 => ?_)
  refine lv_if_eq (tgt := 27) hx hb dX0_combine_14 (by decide) (fun c_14 => ?_) (fun c_14 => ?_)
  · refine lv_iload_n hx hb dX0_combine_27 rfl (lv_at hl 2 rfl) ?_
    refine lv_lload hx hb dX0_combine_28 (lv_at hl 0 rfl) ?_
    refine lv_lload_n hx hb dX0_combine_30 rfl (lv_at hl 4 rfl) ?_
    refine ps_gol (As := [.int op, .long x_6, .long w]) (rest := [.int ac, .ref h]) ⟨hx, hb, hml, hown, hts⟩ (kX0_ofWords l op x_6 w) (va_cwS 3 hts gX0_combine_X0_ofWords rfl rfl rfl (by decide +kernel) ⟨by decide, by decide⟩) rfl hl.1 rfl (Nat.le_of_ble_eq_true rfl) dX0_combine_31 ⟨Nat.zero_le _, Nat.zero_le _⟩ (fun r_31 q_31 => ?_)
    refine w_go (rv := rv_v) (As := [.int ac, .long r_31]) (rest := []) ⟨hx, hb, hml, hown, hts⟩ (kX0_store l D h a cA (u.1, u.2.1, u.2.2.1, u.2.2.2.1, u.2.2.2.2) ⟨hI.1, hI.2⟩ ac r_31 hac) (cwV 2 hts gX0_combine_X0_store rfl rfl rfl (by decide +kernel) ⟨by decide, by decide⟩) hK hP hD hS rfl hl.1 rfl (Nat.le_of_ble_eq_true rfl) dX0_combine_34 ⟨Nat.zero_le _, Nat.zero_le _⟩ (fun _ u_34 H locs q_34 hP hD hS => ?_)
    refine W.eq (g2 := F0 m 37 ls []) rfl ?_
    refine lv_iconst (v := 0) hx hb dX0_combine_37 (by decide) ?_
    exact mm_iret (mw := wW h a cA) (u1 := (u_34.1, u_34.2.1, u_34.2.2.1, u_34.2.2.2.1, u_34.2.2.2.2)) hx hb hr hlocks hP hK hD hS dX0_combine_38 ⟨q_34.1, q_34.2⟩
  · refine lv_iload_n hx hb dX0_combine_17 rfl (lv_at hl 2 rfl) ?_
    refine lv_lload hx hb dX0_combine_18 (lv_at hl 0 rfl) ?_
    refine lv_lload_n hx hb dX0_combine_20 rfl (lv_at hl 4 rfl) ?_
    refine ps_gol (As := [.int op, .long x_6, .long w]) (rest := [.int ac, .ref h]) ⟨hx, hb, hml, hown, hts⟩ (kX0_ofHalves l op x_6 w) (va_cwS 3 hts gX0_combine_X0_ofHalves rfl rfl rfl (by decide +kernel) ⟨by decide, by decide⟩) rfl hl.1 rfl (Nat.le_of_ble_eq_true rfl) dX0_combine_21 ⟨Nat.zero_le _, Nat.zero_le _⟩ (fun r_21 q_21 => ?_)
    refine lv_goto (tgt := 34) hx hb dX0_combine_24 (by decide) ?_
    refine w_go (rv := rv_v) (As := [.int ac, .long r_21]) (rest := []) ⟨hx, hb, hml, hown, hts⟩ (kX0_store l D h a cA (u.1, u.2.1, u.2.2.1, u.2.2.2.1, u.2.2.2.2) ⟨hI.1, hI.2⟩ ac r_21 hac) (cwV 2 hts gX0_combine_X0_store rfl rfl rfl (by decide +kernel) ⟨by decide, by decide⟩) hK hP hD hS rfl hl.1 rfl (Nat.le_of_ble_eq_true rfl) dX0_combine_34 ⟨Nat.zero_le _, Nat.zero_le _⟩ (fun _ u_34 H locs q_34 hP hD hS => ?_)
    refine W.eq (g2 := F0 m 37 ls []) rfl ?_
    refine lv_iconst (v := 0) hx hb dX0_combine_37 (by decide) ?_
    exact mm_iret (mw := wW h a cA) (u1 := (u_34.1, u_34.2.1, u_34.2.2.1, u_34.2.2.2.1, u_34.2.2.2.2)) hx hb hr hlocks hP hK hD hS dX0_combine_38 ⟨q_34.1, q_34.2⟩
theorem iw_X0_performOnMemory : ∀ w ∈ u_ws RX0 TX0 5, w ∈ wsX0_performOnMemory := by decide +kernel
set_option maxHeartbeats 4000000 in
set_option maxRecDepth 100000 in
theorem kX0_performOnMemory (l : Launch) (D : va_G) (h a : Nat) (cA : ClassId) (u : wS) (hI : wI u) (op : Int32) (ac : Int32) (e0 : Int32) (hac : vp_in ac 4096) (he : vp_in e0 4096) : MM l yX0_performOnMemory wsX0_performOnMemory ({ frames := 3, cells := 0, slots := 0, locals := 73 }) D vwCl [(cA, .long)] (wW h a cA) (wA h a) u [.ref h, .int op, .int ac, .int e0] rv_i (fun _ u' => wI u') := by
  refine mm_of (cc := cX0_performOnMemory) (maxL := 4) (ret := (some .int)) (by decide) rfl (Nat.le_of_ble_eq_true rfl) (wA_in h a cA u) ?_
  intro p e s m below meth c ls C hl hP hK hD hS
  obtain ⟨hx, hb, hr, hml, hown, hts, hlocks⟩ := C
  have hl : lv_has ls 4 [(0, .ref h), (1, .int op), (2, .int ac), (3, .int e0)] := hl
  refine lv_iload_n hx hb dX0_performOnMemory_0 rfl (lv_at hl 1 rfl) ?_
  by_cases k_130 : op = 130
  · subst k_130
    refine lv_lookup (tgt := 68) hx hb dX0_performOnMemory_1 (by decide) rfl (by decide) ?_
    refine lv_aload_n hx hb dX0_performOnMemory_68 rfl (lv_at hl 0 rfl) ?_
    refine lv_iload_n hx hb dX0_performOnMemory_69 rfl (lv_at hl 3 rfl) ?_
    refine lv_aload_n hx hb dX0_performOnMemory_70 rfl (lv_at hl 0 rfl) ?_
    refine va_get (D := D) (ci := 0) (v := .ref a) (C := RX0) (T := TX0) (N := 5) hx hb hts iw_X0_performOnMemory hown hK hP 0 rfl rfl 0 (by decide) (hts (.fieldLink RX0 9 "WordMill" "memory" "[J") (by decide +kernel)) (fun _ h9 => h9) rfl dX0_performOnMemory_71 ?_
    refine lv_iload_n hx hb dX0_performOnMemory_74 rfl (lv_at hl 2 rfl) ?_
    refine va_lald hx hb hK hP 1 0 rfl rfl hac dX0_performOnMemory_75 ?_
    refine w_go (rv := rv_v) (As := [.int e0, .long (u.1 (ac : Int32).toNatClampNeg)]) (rest := []) ⟨hx, hb, hml, hown, hts⟩ (kX0_store l D h a cA (u.1, u.2.1, u.2.2.1, u.2.2.2.1, u.2.2.2.2) ⟨hI.1, hI.2⟩ e0 (u.1 (ac : Int32).toNatClampNeg) he) (cwV 2 hts gX0_performOnMemory_X0_store rfl rfl rfl (by decide +kernel) ⟨by decide, by decide⟩) hK hP hD hS rfl hl.1 rfl (Nat.le_of_ble_eq_true rfl) dX0_performOnMemory_76 ⟨Nat.zero_le _, Nat.zero_le _⟩ (fun _ u_76 H locs q_76 hP hD hS => ?_)
    refine W.eq (g2 := F0 m 79 ls []) rfl ?_
    refine lv_iconst (v := 0) hx hb dX0_performOnMemory_79 (by decide) ?_
    exact mm_iret (mw := wW h a cA) (u1 := (u_76.1, u_76.2.1, u_76.2.2.1, u_76.2.2.2.1, u_76.2.2.2.2)) hx hb hr hlocks hP hK hD hS dX0_performOnMemory_80 ⟨q_76.1, q_76.2⟩
  by_cases k_152 : op = 152
  · subst k_152
    refine lv_lookup (tgt := 81) hx hb dX0_performOnMemory_1 (by decide) rfl (by decide) ?_
    refine lv_aload_n hx hb dX0_performOnMemory_81 rfl (lv_at hl 0 rfl) ?_
    refine lv_iload_n hx hb dX0_performOnMemory_82 rfl (lv_at hl 2 rfl) ?_
    refine lv_aload_n hx hb dX0_performOnMemory_83 rfl (lv_at hl 0 rfl) ?_
    refine va_get (D := D) (ci := 0) (v := .ref a) (C := RX0) (T := TX0) (N := 5) hx hb hts iw_X0_performOnMemory hown hK hP 0 rfl rfl 0 (by decide) (hts (.fieldLink RX0 9 "WordMill" "memory" "[J") (by decide +kernel)) (fun _ h9 => h9) rfl dX0_performOnMemory_84 ?_
    refine lv_iload_n hx hb dX0_performOnMemory_87 rfl (lv_at hl 3 rfl) ?_
    refine va_lald hx hb hK hP 1 0 rfl rfl he dX0_performOnMemory_88 ?_
    refine w_go (rv := rv_i) (As := [.int ac, .long (u.1 (e0 : Int32).toNatClampNeg)]) (rest := []) ⟨hx, hb, hml, hown, hts⟩ (kX0_divide l D h a cA (u.1, u.2.1, u.2.2.1, u.2.2.2.1, u.2.2.2.2) ⟨hI.1, hI.2⟩ ac (u.1 (e0 : Int32).toNatClampNeg) hac) (cwV 2 hts gX0_performOnMemory_X0_divide rfl rfl rfl (by decide +kernel) ⟨by decide, by decide⟩) hK hP hD hS rfl hl.1 rfl (Nat.le_of_ble_eq_true rfl) dX0_performOnMemory_89 ⟨Nat.zero_le _, Nat.zero_le _⟩ (fun r_89 u_89 H locs q_89 hP hD hS => ?_)
    refine W.eq (g2 := F0 m 92 ls (.int r_89 :: [])) rfl ?_
    exact mm_iret (mw := wW h a cA) (u1 := (u_89.1, u_89.2.1, u_89.2.2.1, u_89.2.2.2.1, u_89.2.2.2.2)) hx hb hr hlocks hP hK hD hS dX0_performOnMemory_92 ⟨q_89.1, q_89.2⟩
  by_cases k_168 : op = 168
  · subst k_168
    refine lv_lookup (tgt := 93) hx hb dX0_performOnMemory_1 (by decide) rfl (by decide) ?_
    refine lv_aload_n hx hb dX0_performOnMemory_93 rfl (lv_at hl 0 rfl) ?_
    refine lv_iload_n hx hb dX0_performOnMemory_94 rfl (lv_at hl 2 rfl) ?_
    refine lv_iload_n hx hb dX0_performOnMemory_95 rfl (lv_at hl 3 rfl) ?_
    refine w_go (rv := rv_i) (As := [.int ac, .int e0]) (rest := []) ⟨hx, hb, hml, hown, hts⟩ (kX0_exchange l D h a cA (u.1, u.2.1, u.2.2.1, u.2.2.2.1, u.2.2.2.2) ⟨hI.1, hI.2⟩ ac e0 hac he) (cwV 2 hts gX0_performOnMemory_X0_exchange rfl rfl rfl (by decide +kernel) ⟨by decide, by decide⟩) hK hP hD hS rfl hl.1 rfl (Nat.le_of_ble_eq_true rfl) dX0_performOnMemory_96 ⟨Nat.zero_le _, Nat.zero_le _⟩ (fun r_96 u_96 H locs q_96 hP hD hS => ?_)
    refine W.eq (g2 := F0 m 99 ls (.int r_96 :: [])) rfl ?_
    exact mm_iret (mw := wW h a cA) (u1 := (u_96.1, u_96.2.1, u_96.2.2.1, u_96.2.2.2.1, u_96.2.2.2.2)) hx hb hr hlocks hP hK hD hS dX0_performOnMemory_99 ⟨q_96.1, q_96.2⟩
  by_cases k_177 : op = 177
  · subst k_177
    refine lv_lookup (tgt := 100) hx hb dX0_performOnMemory_1 (by decide) rfl (by decide) ?_
    refine lv_aload_n hx hb dX0_performOnMemory_100 rfl (lv_at hl 0 rfl) ?_
    refine lv_iload_n hx hb dX0_performOnMemory_101 rfl (lv_at hl 2 rfl) ?_
    refine lv_aload_n hx hb dX0_performOnMemory_102 rfl (lv_at hl 0 rfl) ?_
    refine va_get (D := D) (ci := 0) (v := .ref a) (C := RX0) (T := TX0) (N := 5) hx hb hts iw_X0_performOnMemory hown hK hP 0 rfl rfl 0 (by decide) (hts (.fieldLink RX0 9 "WordMill" "memory" "[J") (by decide +kernel)) (fun _ h9 => h9) rfl dX0_performOnMemory_103 ?_
    refine lv_iload_n hx hb dX0_performOnMemory_106 rfl (lv_at hl 3 rfl) ?_
    refine va_lald hx hb hK hP 1 0 rfl rfl he dX0_performOnMemory_107 ?_
    refine w_go (rv := rv_i) (As := [.int ac, .long (u.1 (e0 : Int32).toNatClampNeg)]) (rest := []) ⟨hx, hb, hml, hown, hts⟩ (kX0_push l D h a cA (u.1, u.2.1, u.2.2.1, u.2.2.2.1, u.2.2.2.2) ⟨hI.1, hI.2⟩ ac (u.1 (e0 : Int32).toNatClampNeg) hac) (cwV 2 hts gX0_performOnMemory_X0_push rfl rfl rfl (by decide +kernel) ⟨by decide, by decide⟩) hK hP hD hS rfl hl.1 rfl (Nat.le_of_ble_eq_true rfl) dX0_performOnMemory_108 ⟨Nat.zero_le _, Nat.zero_le _⟩ (fun r_108 u_108 H locs q_108 hP hD hS => ?_)
    refine W.eq (g2 := F0 m 111 ls (.int r_108 :: [])) rfl ?_
    exact mm_iret (mw := wW h a cA) (u1 := (u_108.1, u_108.2.1, u_108.2.2.1, u_108.2.2.2.1, u_108.2.2.2.2)) hx hb hr hlocks hP hK hD hS dX0_performOnMemory_111 ⟨q_108.1, q_108.2⟩
  by_cases k_178 : op = 178
  · subst k_178
    refine lv_lookup (tgt := 112) hx hb dX0_performOnMemory_1 (by decide) rfl (by decide) ?_
    refine lv_aload_n hx hb dX0_performOnMemory_112 rfl (lv_at hl 0 rfl) ?_
    refine lv_iload_n hx hb dX0_performOnMemory_113 rfl (lv_at hl 2 rfl) ?_
    refine lv_iload_n hx hb dX0_performOnMemory_114 rfl (lv_at hl 3 rfl) ?_
    refine w_go (rv := rv_i) (As := [.int ac, .int e0]) (rest := []) ⟨hx, hb, hml, hown, hts⟩ (kX0_popToMemory l D h a cA (u.1, u.2.1, u.2.2.1, u.2.2.2.1, u.2.2.2.2) ⟨hI.1, hI.2⟩ ac e0 hac he) (cwV 2 hts gX0_performOnMemory_X0_popToMemory rfl rfl rfl (by decide +kernel) ⟨by decide, by decide⟩) hK hP hD hS rfl hl.1 rfl (Nat.le_of_ble_eq_true rfl) dX0_performOnMemory_115 ⟨Nat.zero_le _, Nat.zero_le _⟩ (fun r_115 u_115 H locs q_115 hP hD hS => ?_)
    refine W.eq (g2 := F0 m 118 ls (.int r_115 :: [])) rfl ?_
    exact mm_iret (mw := wW h a cA) (u1 := (u_115.1, u_115.2.1, u_115.2.2.1, u_115.2.2.2.1, u_115.2.2.2.2)) hx hb hr hlocks hP hK hD hS dX0_performOnMemory_118 ⟨q_115.1, q_115.2⟩
  by_cases k_180 : op = 180
  · subst k_180
    refine lv_lookup (tgt := 119) hx hb dX0_performOnMemory_1 (by decide) rfl (by decide) ?_
    refine lv_aload_n hx hb dX0_performOnMemory_119 rfl (lv_at hl 0 rfl) ?_
    refine lv_iload_n hx hb dX0_performOnMemory_120 rfl (lv_at hl 3 rfl) ?_
    refine w_go (rv := rv_i) (As := [.int e0]) (rest := []) ⟨hx, hb, hml, hown, hts⟩ (kX0_leaveNextPlaceAndJump l D h a cA (u.1, u.2.1, u.2.2.1, u.2.2.2.1, u.2.2.2.2) ⟨hI.1, hI.2⟩ e0 he) (cwV 1 hts gX0_performOnMemory_X0_leaveNextPlaceAndJump rfl rfl rfl (by decide +kernel) ⟨by decide, by decide⟩) hK hP hD hS rfl hl.1 rfl (Nat.le_of_ble_eq_true rfl) dX0_performOnMemory_121 ⟨Nat.zero_le _, Nat.zero_le _⟩ (fun r_121 u_121 H locs q_121 hP hD hS => ?_)
    refine W.eq (g2 := F0 m 124 ls (.int r_121 :: [])) rfl ?_
    exact mm_iret (mw := wW h a cA) (u1 := (u_121.1, u_121.2.1, u_121.2.2.1, u_121.2.2.2.1, u_121.2.2.2.2)) hx hb hr hlocks hP hK hD hS dX0_performOnMemory_124 ⟨q_121.1, q_121.2⟩
  by_cases k_258 : op = 258
  · subst k_258
    refine lv_lookup (tgt := 125) hx hb dX0_performOnMemory_1 (by decide) rfl (by decide) ?_
    refine lv_aload_n hx hb dX0_performOnMemory_125 rfl (lv_at hl 0 rfl) ?_
    refine lv_iload_n hx hb dX0_performOnMemory_126 rfl (lv_at hl 3 rfl) ?_
    refine lv_lconst (v := 0) hx hb dX0_performOnMemory_127 (by decide) ?_
    refine w_go (rv := rv_v) (As := [.int e0, .long 0]) (rest := []) ⟨hx, hb, hml, hown, hts⟩ (kX0_store l D h a cA (u.1, u.2.1, u.2.2.1, u.2.2.2.1, u.2.2.2.2) ⟨hI.1, hI.2⟩ e0 0 he) (cwV 2 hts gX0_performOnMemory_X0_store rfl rfl rfl (by decide +kernel) ⟨by decide, by decide⟩) hK hP hD hS rfl hl.1 rfl (Nat.le_of_ble_eq_true rfl) dX0_performOnMemory_128 ⟨Nat.zero_le _, Nat.zero_le _⟩ (fun _ u_128 H locs q_128 hP hD hS => ?_)
    refine W.eq (g2 := F0 m 131 ls []) rfl ?_
    refine lv_iconst (v := 0) hx hb dX0_performOnMemory_131 (by decide) ?_
    exact mm_iret (mw := wW h a cA) (u1 := (u_128.1, u_128.2.1, u_128.2.2.1, u_128.2.2.2.1, u_128.2.2.2.2)) hx hb hr hlocks hP hK hD hS dX0_performOnMemory_132 ⟨q_128.1, q_128.2⟩
  refine lv_lookup (off := 132) (tgt := 133) hx hb dX0_performOnMemory_1 (by decide) ((lv_osw k_130 (by decide)).trans <| (lv_osw k_152 (by decide)).trans <| (lv_osw k_168 (by decide)).trans <| (lv_osw k_177 (by decide)).trans <| (lv_osw k_178 (by decide)).trans <| (lv_osw k_180 (by decide)).trans <| (lv_osw k_258 (by decide)).trans <| rfl) (by decide) ?_
  refine lv_aload_n hx hb dX0_performOnMemory_133 rfl (lv_at hl 0 rfl) ?_
  refine lv_iload_n hx hb dX0_performOnMemory_134 rfl (lv_at hl 1 rfl) ?_
  refine lv_iload_n hx hb dX0_performOnMemory_135 rfl (lv_at hl 2 rfl) ?_
  refine lv_aload_n hx hb dX0_performOnMemory_136 rfl (lv_at hl 0 rfl) ?_
  refine va_get (D := D) (ci := 0) (v := .ref a) (C := RX0) (T := TX0) (N := 5) hx hb hts iw_X0_performOnMemory hown hK hP 0 rfl rfl 0 (by decide) (hts (.fieldLink RX0 9 "WordMill" "memory" "[J") (by decide +kernel)) (fun _ h9 => h9) rfl dX0_performOnMemory_137 ?_
  refine lv_iload_n hx hb dX0_performOnMemory_140 rfl (lv_at hl 3 rfl) ?_
  refine va_lald hx hb hK hP 1 0 rfl rfl he dX0_performOnMemory_141 ?_
  refine w_go (rv := rv_i) (As := [.int op, .int ac, .long (u.1 (e0 : Int32).toNatClampNeg)]) (rest := []) ⟨hx, hb, hml, hown, hts⟩ (kX0_combine l D h a cA (u.1, u.2.1, u.2.2.1, u.2.2.2.1, u.2.2.2.2) ⟨hI.1, hI.2⟩ op ac (u.1 (e0 : Int32).toNatClampNeg) hac) (cwV 3 hts gX0_performOnMemory_X0_combine rfl rfl rfl (by decide +kernel) ⟨by decide, by decide⟩) hK hP hD hS rfl hl.1 rfl (Nat.le_of_ble_eq_true rfl) dX0_performOnMemory_142 ⟨Nat.zero_le _, Nat.zero_le _⟩ (fun r_142 u_142 H locs q_142 hP hD hS => ?_)
  refine W.eq (g2 := F0 m 145 ls (.int r_142 :: [])) rfl ?_
  exact mm_iret (mw := wW h a cA) (u1 := (u_142.1, u_142.2.1, u_142.2.2.1, u_142.2.2.2.1, u_142.2.2.2.2)) hx hb hr hlocks hP hK hD hS dX0_performOnMemory_145 ⟨q_142.1, q_142.2⟩
theorem iw_X0_skipIf : ∀ w ∈ u_ws RX0 TX0 5, w ∈ wsX0_skipIf := by decide +kernel
set_option maxHeartbeats 4000000 in
set_option maxRecDepth 100000 in
theorem kX0_skipIf (l : Launch) (D : va_G) (h a : Nat) (cA : ClassId) (u : wS) (hI : wI u) (z0 : Int32)  : MM l yX0_skipIf wsX0_skipIf ({ frames := 1, cells := 0, slots := 0, locals := 21 }) D vwCl [(cA, .long)] (wW h a cA) (wA h a) u [.ref h, .int z0] rv_i (fun _ u' => wI u') := by
  refine mm_of (cc := cX0_skipIf) (maxL := 2) (ret := (some .int)) (by decide) rfl (Nat.le_of_ble_eq_true rfl) (wA_in h a cA u) ?_
  intro p e s m below meth c ls C hl hP hK hD hS
  obtain ⟨hx, hb, hr, hml, hown, hts, hlocks⟩ := C
  have hl : lv_has ls 2 [(0, .ref h), (1, .int z0)] := hl
  refine lv_iload_n hx hb dX0_skipIf_0 rfl (lv_at hl 1 rfl) ?_
  refine lv_if_eq (tgt := 17) hx hb dX0_skipIf_1 (by decide) (fun c_1 => ?_) (fun c_1 => ?_)
  · refine lv_iconst (v := 0) hx hb dX0_skipIf_17 (by decide) ?_
    exact mm_iret (mw := wW h a cA) (u1 := (u.1, u.2.1, u.2.2.1, u.2.2.2.1, u.2.2.2.2)) hx hb hr hlocks hP hK hD hS dX0_skipIf_18 ⟨hI.1, hI.2⟩
  · refine lv_aload_n hx hb dX0_skipIf_4 rfl (lv_at hl 0 rfl) ?_
    refine lv_aload_n hx hb dX0_skipIf_5 rfl (lv_at hl 0 rfl) ?_
    refine va_get (D := D) (ci := 0) (v := .int u.2.2.1) (C := RX0) (T := TX0) (N := 5) hx hb hts iw_X0_skipIf hown hK hP 0 rfl rfl 2 (by decide) (hts (.fieldLink RX0 17 "WordMill" "next" "I") (by decide +kernel)) (fun _ h9 => h9) rfl dX0_skipIf_6 ?_
    refine lv_iconst (v := 1) hx hb dX0_skipIf_9 (by decide) ?_
    refine lv_iadd hx hb dX0_skipIf_10 ?_
    refine w_go (rv := rv_i) (As := [.int (u.2.2.1 + 1)]) (rest := []) ⟨hx, hb, hml, hown, hts⟩ (kX0_jump l D h a cA (u.1, u.2.1, u.2.2.1, u.2.2.2.1, u.2.2.2.2) ⟨hI.1, hI.2⟩ (u.2.2.1 + 1) ) (cwV 1 hts gX0_skipIf_X0_jump rfl rfl rfl (by decide +kernel) ⟨by decide, by decide⟩) hK hP hD hS rfl hl.1 rfl (Nat.le_of_ble_eq_true rfl) dX0_skipIf_11 ⟨Nat.zero_le _, Nat.zero_le _⟩ (fun r_11 u_11 H locs q_11 hP hD hS => ?_)
    refine W.eq (g2 := F0 m 14 ls (.int r_11 :: [])) rfl ?_
    refine lv_goto (tgt := 18) hx hb dX0_skipIf_14 (by decide) ?_
    exact mm_iret (mw := wW h a cA) (u1 := (u_11.1, u_11.2.1, u_11.2.2.1, u_11.2.2.2.1, u_11.2.2.2.2)) hx hb hr hlocks hP hK hD hS dX0_skipIf_18 ⟨q_11.1, q_11.2⟩
theorem iw_X0_changeAndJump : ∀ w ∈ u_ws RX0 TX0 5, w ∈ wsX0_changeAndJump := by decide +kernel
set_option maxHeartbeats 4000000 in
set_option maxRecDepth 100000 in
theorem kX0_changeAndJump (l : Launch) (D : va_G) (h a : Nat) (cA : ClassId) (u : wS) (hI : wI u) (cd : Int32) (ac : Int32) (e0 : Int32) (ch : Int32) (hac : vp_in ac 4096) : MM l yX0_changeAndJump wsX0_changeAndJump ({ frames := 2, cells := 0, slots := 0, locals := 50 }) D vwCl [(cA, .long)] (wW h a cA) (wA h a) u [.ref h, .int cd, .int ac, .int e0, .int ch] rv_i (fun _ u' => wI u') := by
  refine mm_of (cc := cX0_changeAndJump) (maxL := 5) (ret := (some .int)) (by decide) rfl (Nat.le_of_ble_eq_true rfl) (wA_in h a cA u) ?_
  intro p e s m below meth c ls C hl hP hK hD hS
  obtain ⟨hx, hb, hr, hml, hown, hts, hlocks⟩ := C
  have hl : lv_has ls 5 [(0, .ref h), (1, .int cd), (2, .int ac), (3, .int e0), (4, .int ch)] := hl
  refine lv_aload_n hx hb dX0_changeAndJump_0 rfl (lv_at hl 0 rfl) ?_
  refine lv_iload_n hx hb dX0_changeAndJump_1 rfl (lv_at hl 2 rfl) ?_
  refine lv_aload_n hx hb dX0_changeAndJump_2 rfl (lv_at hl 0 rfl) ?_
  refine va_get (D := D) (ci := 0) (v := .ref a) (C := RX0) (T := TX0) (N := 5) hx hb hts iw_X0_changeAndJump hown hK hP 0 rfl rfl 0 (by decide) (hts (.fieldLink RX0 9 "WordMill" "memory" "[J") (by decide +kernel)) (fun _ h9 => h9) rfl dX0_changeAndJump_3 ?_
  refine lv_iload_n hx hb dX0_changeAndJump_6 rfl (lv_at hl 2 rfl) ?_
  refine va_lald hx hb hK hP 1 0 rfl rfl hac dX0_changeAndJump_7 ?_
  refine lv_iload hx hb dX0_changeAndJump_8 (lv_at hl 4 rfl) ?_
  refine lv_i2l hx hb dX0_changeAndJump_10 rfl ?_
  refine lv_ladd hx hb dX0_changeAndJump_11 ?_
  refine w_go (rv := rv_v) (As := [.int ac, .long ((u.1 (ac : Int32).toNatClampNeg) + (ch : Int32).toInt64)]) (rest := []) ⟨hx, hb, hml, hown, hts⟩ (kX0_store l D h a cA (u.1, u.2.1, u.2.2.1, u.2.2.2.1, u.2.2.2.2) ⟨hI.1, hI.2⟩ ac ((u.1 (ac : Int32).toNatClampNeg) + (ch : Int32).toInt64) hac) (cwV 2 hts gX0_changeAndJump_X0_store rfl rfl rfl (by decide +kernel) ⟨by decide, by decide⟩) hK hP hD hS rfl hl.1 rfl (Nat.le_of_ble_eq_true rfl) dX0_changeAndJump_12 ⟨Nat.zero_le _, Nat.zero_le _⟩ (fun _ u_12 H locs q_12 hP hD hS => ?_)
  refine W.eq (g2 := F0 m 15 ls []) rfl ?_
  refine lv_iload_n hx hb dX0_changeAndJump_15 rfl (lv_at hl 1 rfl) ?_
  refine lv_aload_n hx hb dX0_changeAndJump_16 rfl (lv_at hl 0 rfl) ?_
  refine va_get (D := D) (ci := 0) (v := .ref a) (C := RX0) (T := TX0) (N := 5) hx hb hts iw_X0_changeAndJump hown hK hP 0 rfl rfl 0 (by decide) (hts (.fieldLink RX0 9 "WordMill" "memory" "[J") (by decide +kernel)) (fun _ h9 => h9) rfl dX0_changeAndJump_17 ?_
  refine lv_iload_n hx hb dX0_changeAndJump_20 rfl (lv_at hl 2 rfl) ?_
  refine va_lald hx hb hK hP 1 0 rfl rfl hac dX0_changeAndJump_21 ?_
  refine lv_lconst (v := 0) hx hb dX0_changeAndJump_22 (by decide) ?_
  refine ps_goi (As := [.int cd, .long (u_12.1 (ac : Int32).toNatClampNeg), .long 0]) (rest := []) ⟨hx, hb, hml, hown, hts⟩ (kX0_holds l cd (u_12.1 (ac : Int32).toNatClampNeg) 0) (va_cwS 3 hts gX0_changeAndJump_X0_holds rfl rfl rfl (by decide +kernel) ⟨by decide, by decide⟩) rfl hl.1 rfl (Nat.le_of_ble_eq_true rfl) dX0_changeAndJump_23 ⟨Nat.zero_le _, Nat.zero_le _⟩ (fun r_23 q_23 => ?_)
  refine lv_if_eq (tgt := 37) hx hb dX0_changeAndJump_26 (by decide) (fun c_26 => ?_) (fun c_26 => ?_)
  · refine lv_iconst (v := 0) hx hb dX0_changeAndJump_37 (by decide) ?_
    exact mm_iret (mw := wW h a cA) (u1 := (u_12.1, u_12.2.1, u_12.2.2.1, u_12.2.2.2.1, u_12.2.2.2.2)) hx hb hr hlocks hP hK hD hS dX0_changeAndJump_38 ⟨q_12.1, q_12.2⟩
  · refine lv_aload_n hx hb dX0_changeAndJump_29 rfl (lv_at hl 0 rfl) ?_
    refine lv_iload_n hx hb dX0_changeAndJump_30 rfl (lv_at hl 3 rfl) ?_
    refine w_go (rv := rv_i) (As := [.int e0]) (rest := []) ⟨hx, hb, hml, hown, hts⟩ (kX0_jump l D h a cA (u_12.1, u_12.2.1, u_12.2.2.1, u_12.2.2.2.1, u_12.2.2.2.2) ⟨q_12.1, q_12.2⟩ e0 ) (cwV 1 hts gX0_changeAndJump_X0_jump rfl rfl rfl (by decide +kernel) ⟨by decide, by decide⟩) hK hP hD hS rfl hl.1 rfl (Nat.le_of_ble_eq_true rfl) dX0_changeAndJump_31 ⟨Nat.zero_le _, Nat.zero_le _⟩ (fun r_31 u_31 H locs q_31 hP hD hS => ?_)
    refine W.eq (g2 := F0 m 34 ls (.int r_31 :: [])) rfl ?_
    refine lv_goto (tgt := 38) hx hb dX0_changeAndJump_34 (by decide) ?_
    exact mm_iret (mw := wW h a cA) (u1 := (u_31.1, u_31.2.1, u_31.2.2.1, u_31.2.2.2.1, u_31.2.2.2.2)) hx hb hr hlocks hP hK hD hS dX0_changeAndJump_38 ⟨q_31.1, q_31.2⟩
theorem iw_X0_changeAndSkip : ∀ w ∈ u_ws RX0 TX0 5, w ∈ wsX0_changeAndSkip := by decide +kernel
set_option maxHeartbeats 4000000 in
set_option maxRecDepth 100000 in
theorem kX0_changeAndSkip (l : Launch) (D : va_G) (h a : Nat) (cA : ClassId) (u : wS) (hI : wI u) (cd : Int32) (ac : Int32) (e0 : Int32) (ch : Int32) (hac : vp_in ac 4096) (he : vp_in e0 4096) : MM l yX0_changeAndSkip wsX0_changeAndSkip ({ frames := 2, cells := 0, slots := 0, locals := 50 }) D vwCl [(cA, .long)] (wW h a cA) (wA h a) u [.ref h, .int cd, .int ac, .int e0, .int ch] rv_i (fun _ u' => wI u') := by
  refine mm_of (cc := cX0_changeAndSkip) (maxL := 7) (ret := (some .int)) (by decide) rfl (Nat.le_of_ble_eq_true rfl) (wA_in h a cA u) ?_
  intro p e s m below meth c ls C hl hP hK hD hS
  obtain ⟨hx, hb, hr, hml, hown, hts, hlocks⟩ := C
  have hl : lv_has ls 7 [(0, .ref h), (1, .int cd), (2, .int ac), (3, .int e0), (4, .int ch)] := hl
  refine lv_aload_n hx hb dX0_changeAndSkip_0 rfl (lv_at hl 0 rfl) ?_
  refine lv_iload_n hx hb dX0_changeAndSkip_1 rfl (lv_at hl 3 rfl) ?_
  refine lv_aload_n hx hb dX0_changeAndSkip_2 rfl (lv_at hl 0 rfl) ?_
  refine va_get (D := D) (ci := 0) (v := .ref a) (C := RX0) (T := TX0) (N := 5) hx hb hts iw_X0_changeAndSkip hown hK hP 0 rfl rfl 0 (by decide) (hts (.fieldLink RX0 9 "WordMill" "memory" "[J") (by decide +kernel)) (fun _ h9 => h9) rfl dX0_changeAndSkip_3 ?_
  refine lv_iload_n hx hb dX0_changeAndSkip_6 rfl (lv_at hl 3 rfl) ?_
  refine va_lald hx hb hK hP 1 0 rfl rfl he dX0_changeAndSkip_7 ?_
  refine lv_iload hx hb dX0_changeAndSkip_8 (lv_at hl 4 rfl) ?_
  refine lv_i2l hx hb dX0_changeAndSkip_10 rfl ?_
  refine lv_ladd hx hb dX0_changeAndSkip_11 ?_
  refine w_go (rv := rv_v) (As := [.int e0, .long ((u.1 (e0 : Int32).toNatClampNeg) + (ch : Int32).toInt64)]) (rest := []) ⟨hx, hb, hml, hown, hts⟩ (kX0_store l D h a cA (u.1, u.2.1, u.2.2.1, u.2.2.2.1, u.2.2.2.2) ⟨hI.1, hI.2⟩ e0 ((u.1 (e0 : Int32).toNatClampNeg) + (ch : Int32).toInt64) he) (cwV 2 hts gX0_changeAndSkip_X0_store rfl rfl rfl (by decide +kernel) ⟨by decide, by decide⟩) hK hP hD hS rfl hl.1 rfl (Nat.le_of_ble_eq_true rfl) dX0_changeAndSkip_12 ⟨Nat.zero_le _, Nat.zero_le _⟩ (fun _ u_12 H locs q_12 hP hD hS => ?_)
  refine W.eq (g2 := F0 m 15 ls []) rfl ?_
  refine lv_aload_n hx hb dX0_changeAndSkip_15 rfl (lv_at hl 0 rfl) ?_
  refine va_get (D := D) (ci := 0) (v := .ref a) (C := RX0) (T := TX0) (N := 5) hx hb hts iw_X0_changeAndSkip hown hK hP 0 rfl rfl 0 (by decide) (hts (.fieldLink RX0 9 "WordMill" "memory" "[J") (by decide +kernel)) (fun _ h9 => h9) rfl dX0_changeAndSkip_16 ?_
  refine lv_iload_n hx hb dX0_changeAndSkip_19 rfl (lv_at hl 3 rfl) ?_
  refine va_lald hx hb hK hP 1 0 rfl rfl he dX0_changeAndSkip_20 ?_
  refine lv_topl (fun x_21 ex_21 => ?_)
  refine lv_lstore (lv' := [(5, .long x_21), (0, .ref h), (1, .int cd), (2, .int ac), (3, .int e0), (4, .int ch)]) hx hb dX0_changeAndSkip_21 hl (by decide) rfl (fun ls hl => ?_)
  refine lv_iload_n hx hb dX0_changeAndSkip_23 rfl (lv_at hl 3 rfl) ?_
  refine lv_if_eq (tgt := 34) hx hb dX0_changeAndSkip_24 (by decide) (fun c_24 => ?_) (fun c_24 => ?_)
  · refine lv_aload_n hx hb dX0_changeAndSkip_34 rfl (lv_at hl 1 rfl) ?_
    refine lv_iload_n hx hb dX0_changeAndSkip_35 rfl (lv_at hl 2 rfl) ?_
    refine lv_lload hx hb dX0_changeAndSkip_36 (lv_at hl 0 rfl) ?_
    refine lv_lconst (v := 0) hx hb dX0_changeAndSkip_38 (by decide) ?_
    refine ps_goi (As := [.int cd, .long x_21, .long 0]) (rest := [.ref h]) ⟨hx, hb, hml, hown, hts⟩ (kX0_holds l cd x_21 0) (va_cwS 3 hts gX0_changeAndSkip_X0_holds rfl rfl rfl (by decide +kernel) ⟨by decide, by decide⟩) rfl hl.1 rfl (Nat.le_of_ble_eq_true rfl) dX0_changeAndSkip_39 ⟨Nat.zero_le _, Nat.zero_le _⟩ (fun r_39 q_39 => ?_)
    refine w_go (rv := rv_i) (As := [.int r_39]) (rest := []) ⟨hx, hb, hml, hown, hts⟩ (kX0_skipIf l D h a cA (u_12.1, u_12.2.1, u_12.2.2.1, u_12.2.2.2.1, u_12.2.2.2.2) ⟨q_12.1, q_12.2⟩ r_39 ) (cwV 1 hts gX0_changeAndSkip_X0_skipIf rfl rfl rfl (by decide +kernel) ⟨by decide, by decide⟩) hK hP hD hS rfl hl.1 rfl (Nat.le_of_ble_eq_true rfl) dX0_changeAndSkip_42 ⟨Nat.zero_le _, Nat.zero_le _⟩ (fun r_42 u_42 H locs q_42 hP hD hS => ?_)
    refine W.eq (g2 := F0 m 45 ls (.int r_42 :: [])) rfl ?_
    exact mm_iret (mw := wW h a cA) (u1 := (u_42.1, u_42.2.1, u_42.2.2.1, u_42.2.2.2.1, u_42.2.2.2.2)) hx hb hr hlocks hP hK hD hS dX0_changeAndSkip_45 ⟨q_42.1, q_42.2⟩
  · refine lv_aload_n hx hb dX0_changeAndSkip_27 rfl (lv_at hl 1 rfl) ?_
    refine lv_iload_n hx hb dX0_changeAndSkip_28 rfl (lv_at hl 3 rfl) ?_
    refine lv_lload hx hb dX0_changeAndSkip_29 (lv_at hl 0 rfl) ?_
    refine w_go (rv := rv_v) (As := [.int ac, .long x_21]) (rest := []) ⟨hx, hb, hml, hown, hts⟩ (kX0_store l D h a cA (u_12.1, u_12.2.1, u_12.2.2.1, u_12.2.2.2.1, u_12.2.2.2.2) ⟨q_12.1, q_12.2⟩ ac x_21 hac) (cwV 2 hts gX0_changeAndSkip_X0_store rfl rfl rfl (by decide +kernel) ⟨by decide, by decide⟩) hK hP hD hS rfl hl.1 rfl (Nat.le_of_ble_eq_true rfl) dX0_changeAndSkip_31 ⟨Nat.zero_le _, Nat.zero_le _⟩ (fun _ u_31 H locs q_31 hP hD hS => ?_)
    refine W.eq (g2 := F0 m 34 ls []) rfl ?_
    refine lv_aload_n hx hb dX0_changeAndSkip_34 rfl (lv_at hl 1 rfl) ?_
    refine lv_iload_n hx hb dX0_changeAndSkip_35 rfl (lv_at hl 2 rfl) ?_
    refine lv_lload hx hb dX0_changeAndSkip_36 (lv_at hl 0 rfl) ?_
    refine lv_lconst (v := 0) hx hb dX0_changeAndSkip_38 (by decide) ?_
    refine ps_goi (As := [.int cd, .long x_21, .long 0]) (rest := [.ref h]) ⟨hx, hb, hml, hown, hts⟩ (kX0_holds l cd x_21 0) (va_cwS 3 hts gX0_changeAndSkip_X0_holds rfl rfl rfl (by decide +kernel) ⟨by decide, by decide⟩) rfl hl.1 rfl (Nat.le_of_ble_eq_true rfl) dX0_changeAndSkip_39 ⟨Nat.zero_le _, Nat.zero_le _⟩ (fun r_39 q_39 => ?_)
    refine w_go (rv := rv_i) (As := [.int r_39]) (rest := []) ⟨hx, hb, hml, hown, hts⟩ (kX0_skipIf l D h a cA (u_31.1, u_31.2.1, u_31.2.2.1, u_31.2.2.2.1, u_31.2.2.2.2) ⟨q_31.1, q_31.2⟩ r_39 ) (cwV 1 hts gX0_changeAndSkip_X0_skipIf rfl rfl rfl (by decide +kernel) ⟨by decide, by decide⟩) hK hP hD hS rfl hl.1 rfl (Nat.le_of_ble_eq_true rfl) dX0_changeAndSkip_42 ⟨Nat.zero_le _, Nat.zero_le _⟩ (fun r_42 u_42 H locs q_42 hP hD hS => ?_)
    refine W.eq (g2 := F0 m 45 ls (.int r_42 :: [])) rfl ?_
    exact mm_iret (mw := wW h a cA) (u1 := (u_42.1, u_42.2.1, u_42.2.2.1, u_42.2.2.2.1, u_42.2.2.2.2)) hx hb hr hlocks hP hK hD hS dX0_changeAndSkip_45 ⟨q_42.1, q_42.2⟩
theorem iw_X0_test : ∀ w ∈ u_ws RX0 TX0 5, w ∈ wsX0_test := by decide +kernel
set_option maxHeartbeats 4000000 in
set_option maxRecDepth 100000 in
theorem kX0_test (l : Launch) (D : va_G) (h a : Nat) (cA : ClassId) (u : wS) (hI : wI u) (op : Int32) (ac : Int32) (e0 : Int32) (hop : ¬ op < 192 ∧ ¬ 255 < op) (hac : vp_in ac 4096) (he : ¬ e0 < 0) : MM l yX0_test wsX0_test ({ frames := 3, cells := 0, slots := 0, locals := 76 }) D vwCl [(cA, .long)] (wW h a cA) (wA h a) u [.ref h, .int op, .int ac, .int e0] rv_i (fun _ u' => wI u') := by
  refine mm_of (cc := cX0_test) (maxL := 6) (ret := (some .int)) (by decide) rfl (Nat.le_of_ble_eq_true rfl) (wA_in h a cA u) ?_
  intro p e s m below meth c ls C hl hP hK hD hS
  obtain ⟨hx, hb, hr, hml, hown, hts, hlocks⟩ := C
  have hl : lv_has ls 6 [(0, .ref h), (1, .int op), (2, .int ac), (3, .int e0)] := hl
  refine lv_iload_n hx hb dX0_test_0 rfl (lv_at hl 1 rfl) ?_
  refine lv_bipush (v := 8) hx hb dX0_test_1 (by decide) ?_
  refine lv_iand hx hb dX0_test_3 ?_
  refine lv_if_eq (tgt := 11) hx hb dX0_test_4 (by decide) (fun c_4 => ?_) (fun c_4 => ?_)
  · refine lv_iconst (v := 0) hx hb dX0_test_11 (by decide) ?_
    refine lv_istore (lv' := [(4, .int 0), (0, .ref h), (1, .int op), (2, .int ac), (3, .int e0)]) hx hb dX0_test_12 hl (by decide) rfl (fun ls hl => ?_)
    refine lv_iload hx hb dX0_test_14 (lv_at hl 0 rfl) ?_
    refine lv_if_eq (tgt := 28) hx hb dX0_test_16 (by decide) (fun c_16 => ?_) (fun c_16 => ?_)
    · refine lv_iload_n hx hb dX0_test_28 rfl (lv_at hl 2 rfl) ?_
      refine lv_bipush (v := 7) hx hb dX0_test_29 (by decide) ?_
      refine lv_iand hx hb dX0_test_31 ?_
      refine lv_topi (fun x_32 ex_32 => ?_)
      refine lv_istore (lv' := [(5, .int x_32), (4, .int 0), (0, .ref h), (1, .int op), (2, .int ac), (3, .int e0)]) hx hb dX0_test_32 hl (by decide) rfl (fun ls hl => ?_)
      refine lv_iload_n hx hb dX0_test_34 rfl (lv_at hl 3 rfl) ?_
      refine lv_sipush (v := 504) hx hb dX0_test_35 (by decide) ?_
      refine lv_iand hx hb dX0_test_38 ?_
      refine lv_topi (fun x_39 ex_39 => ?_)
      rcases (tst_0 hop.1 hop.2 c_4) with k_39 | k_39 | k_39 | k_39
      · have e_39 : x_39 = 192 := by rw [ex_39]; exact k_39
        clear ex_39
        subst e_39
        refine lv_lookup (tgt := 104) hx hb dX0_test_39 (by decide) rfl (by decide) ?_
        refine lv_aload_n hx hb dX0_test_104 rfl (lv_at hl 2 rfl) ?_
        refine lv_iload hx hb dX0_test_105 (lv_at hl 0 rfl) ?_
        refine lv_aload_n hx hb dX0_test_107 rfl (lv_at hl 2 rfl) ?_
        refine va_get (D := D) (ci := 0) (v := .ref a) (C := RX0) (T := TX0) (N := 5) hx hb hts iw_X0_test hown hK hP 0 rfl rfl 0 (by decide) (hts (.fieldLink RX0 9 "WordMill" "memory" "[J") (by decide +kernel)) (fun _ h9 => h9) rfl dX0_test_108 ?_
        refine lv_iload_n hx hb dX0_test_111 rfl (lv_at hl 4 rfl) ?_
        refine va_lald hx hb hK hP 1 0 rfl rfl hac dX0_test_112 ?_
        refine lv_iload_n hx hb dX0_test_113 rfl (lv_at hl 5 rfl) ?_
        refine lv_i2l hx hb dX0_test_114 rfl ?_
        refine ps_goi (As := [.int x_32, .long (u.1 (ac : Int32).toNatClampNeg), .long ((e0 : Int32).toInt64)]) (rest := [.ref h]) ⟨hx, hb, hml, hown, hts⟩ (kX0_holds l x_32 (u.1 (ac : Int32).toNatClampNeg) ((e0 : Int32).toInt64)) (va_cwS 3 hts gX0_test_X0_holds rfl rfl rfl (by decide +kernel) ⟨by decide, by decide⟩) rfl hl.1 rfl (Nat.le_of_ble_eq_true rfl) dX0_test_115 ⟨Nat.zero_le _, Nat.zero_le _⟩ (fun r_115 q_115 => ?_)
        refine w_go (rv := rv_i) (As := [.int r_115]) (rest := []) ⟨hx, hb, hml, hown, hts⟩ (kX0_skipIf l D h a cA (u.1, u.2.1, u.2.2.1, u.2.2.2.1, u.2.2.2.2) ⟨hI.1, hI.2⟩ r_115 ) (cwV 1 hts gX0_test_X0_skipIf rfl rfl rfl (by decide +kernel) ⟨by decide, by decide⟩) hK hP hD hS rfl hl.1 rfl (Nat.le_of_ble_eq_true rfl) dX0_test_118 ⟨Nat.zero_le _, Nat.zero_le _⟩ (fun r_118 u_118 H locs q_118 hP hD hS => ?_)
        refine W.eq (g2 := F0 m 121 ls (.int r_118 :: [])) rfl ?_
        exact mm_iret (mw := wW h a cA) (u1 := (u_118.1, u_118.2.1, u_118.2.2.1, u_118.2.2.2.1, u_118.2.2.2.2)) hx hb hr hlocks hP hK hD hS dX0_test_121 ⟨q_118.1, q_118.2⟩
      · have e_39 : x_39 = 208 := by rw [ex_39]; exact k_39
        clear ex_39
        subst e_39
        refine lv_lookup (tgt := 144) hx hb dX0_test_39 (by decide) rfl (by decide) ?_
        refine lv_aload_n hx hb dX0_test_144 rfl (lv_at hl 2 rfl) ?_
        refine lv_iload hx hb dX0_test_145 (lv_at hl 0 rfl) ?_
        refine lv_iload_n hx hb dX0_test_147 rfl (lv_at hl 4 rfl) ?_
        refine lv_iload_n hx hb dX0_test_148 rfl (lv_at hl 5 rfl) ?_
        refine lv_iconst (v := 0) hx hb dX0_test_149 (by decide) ?_
        refine w_go (rv := rv_i) (As := [.int x_32, .int ac, .int e0, .int 0]) (rest := []) ⟨hx, hb, hml, hown, hts⟩ (kX0_changeAndJump l D h a cA (u.1, u.2.1, u.2.2.1, u.2.2.2.1, u.2.2.2.2) ⟨hI.1, hI.2⟩ x_32 ac e0 0 hac) (cwV 4 hts gX0_test_X0_changeAndJump rfl rfl rfl (by decide +kernel) ⟨by decide, by decide⟩) hK hP hD hS rfl hl.1 rfl (Nat.le_of_ble_eq_true rfl) dX0_test_150 ⟨Nat.zero_le _, Nat.zero_le _⟩ (fun r_150 u_150 H locs q_150 hP hD hS => ?_)
        refine W.eq (g2 := F0 m 153 ls (.int r_150 :: [])) rfl ?_
        exact mm_iret (mw := wW h a cA) (u1 := (u_150.1, u_150.2.1, u_150.2.2.1, u_150.2.2.2.1, u_150.2.2.2.2)) hx hb hr hlocks hP hK hD hS dX0_test_153 ⟨q_150.1, q_150.2⟩
      · have e_39 : x_39 = 224 := by rw [ex_39]; exact k_39
        clear ex_39
        subst e_39
        refine lv_lookup (tgt := 164) hx hb dX0_test_39 (by decide) rfl (by decide) ?_
        refine lv_aload_n hx hb dX0_test_164 rfl (lv_at hl 2 rfl) ?_
        refine lv_iload hx hb dX0_test_165 (lv_at hl 0 rfl) ?_
        refine lv_iload_n hx hb dX0_test_167 rfl (lv_at hl 4 rfl) ?_
        refine lv_iload_n hx hb dX0_test_168 rfl (lv_at hl 5 rfl) ?_
        refine lv_iconst (v := 1) hx hb dX0_test_169 (by decide) ?_
        refine w_go (rv := rv_i) (As := [.int x_32, .int ac, .int e0, .int 1]) (rest := []) ⟨hx, hb, hml, hown, hts⟩ (kX0_changeAndJump l D h a cA (u.1, u.2.1, u.2.2.1, u.2.2.2.1, u.2.2.2.2) ⟨hI.1, hI.2⟩ x_32 ac e0 1 hac) (cwV 4 hts gX0_test_X0_changeAndJump rfl rfl rfl (by decide +kernel) ⟨by decide, by decide⟩) hK hP hD hS rfl hl.1 rfl (Nat.le_of_ble_eq_true rfl) dX0_test_170 ⟨Nat.zero_le _, Nat.zero_le _⟩ (fun r_170 u_170 H locs q_170 hP hD hS => ?_)
        refine W.eq (g2 := F0 m 173 ls (.int r_170 :: [])) rfl ?_
        exact mm_iret (mw := wW h a cA) (u1 := (u_170.1, u_170.2.1, u_170.2.2.1, u_170.2.2.2.1, u_170.2.2.2.2)) hx hb hr hlocks hP hK hD hS dX0_test_173 ⟨q_170.1, q_170.2⟩
      · have e_39 : x_39 = 240 := by rw [ex_39]; exact k_39
        clear ex_39
        subst e_39
        refine lv_lookup (tgt := 184) hx hb dX0_test_39 (by decide) rfl (by decide) ?_
        refine lv_aload_n hx hb dX0_test_184 rfl (lv_at hl 2 rfl) ?_
        refine lv_iload hx hb dX0_test_185 (lv_at hl 0 rfl) ?_
        refine lv_iload_n hx hb dX0_test_187 rfl (lv_at hl 4 rfl) ?_
        refine lv_iload_n hx hb dX0_test_188 rfl (lv_at hl 5 rfl) ?_
        refine lv_iconst (v := -1) hx hb dX0_test_189 (by decide) ?_
        refine w_go (rv := rv_i) (As := [.int x_32, .int ac, .int e0, .int (-1)]) (rest := []) ⟨hx, hb, hml, hown, hts⟩ (kX0_changeAndJump l D h a cA (u.1, u.2.1, u.2.2.1, u.2.2.2.1, u.2.2.2.2) ⟨hI.1, hI.2⟩ x_32 ac e0 (-1) hac) (cwV 4 hts gX0_test_X0_changeAndJump rfl rfl rfl (by decide +kernel) ⟨by decide, by decide⟩) hK hP hD hS rfl hl.1 rfl (Nat.le_of_ble_eq_true rfl) dX0_test_190 ⟨Nat.zero_le _, Nat.zero_le _⟩ (fun r_190 u_190 H locs q_190 hP hD hS => ?_)
        refine W.eq (g2 := F0 m 193 ls (.int r_190 :: [])) rfl ?_
        exact mm_iret (mw := wW h a cA) (u1 := (u_190.1, u_190.2.1, u_190.2.2.1, u_190.2.2.2.1, u_190.2.2.2.2)) hx hb hr hlocks hP hK hD hS dX0_test_193 ⟨q_190.1, q_190.2⟩
    · exact absurd (by decide) c_16
  · refine lv_iconst (v := 1) hx hb dX0_test_7 (by decide) ?_
    refine lv_goto (tgt := 12) hx hb dX0_test_8 (by decide) ?_
    refine lv_istore (lv' := [(4, .int 1), (0, .ref h), (1, .int op), (2, .int ac), (3, .int e0)]) hx hb dX0_test_12 hl (by decide) rfl (fun ls hl => ?_)
    refine lv_iload hx hb dX0_test_14 (lv_at hl 0 rfl) ?_
    refine lv_if_eq (tgt := 28) hx hb dX0_test_16 (by decide) (fun c_16 => ?_) (fun c_16 => ?_)
    · exact absurd c_16 (by decide)
    · refine lv_iload_n hx hb dX0_test_19 rfl (lv_at hl 4 rfl) ?_
      refine lv_sipush (v := 4096) hx hb dX0_test_20 (by decide) ?_
      refine lv_icmp_lt (tgt := 28) hx hb dX0_test_23 (by decide) (fun c_23 => ?_) (fun c_23 => ?_)
      · refine lv_iload_n hx hb dX0_test_28 rfl (lv_at hl 2 rfl) ?_
        refine lv_bipush (v := 7) hx hb dX0_test_29 (by decide) ?_
        refine lv_iand hx hb dX0_test_31 ?_
        refine lv_topi (fun x_32 ex_32 => ?_)
        refine lv_istore (lv' := [(5, .int x_32), (4, .int 1), (0, .ref h), (1, .int op), (2, .int ac), (3, .int e0)]) hx hb dX0_test_32 hl (by decide) rfl (fun ls hl => ?_)
        refine lv_iload_n hx hb dX0_test_34 rfl (lv_at hl 3 rfl) ?_
        refine lv_sipush (v := 504) hx hb dX0_test_35 (by decide) ?_
        refine lv_iand hx hb dX0_test_38 ?_
        refine lv_topi (fun x_39 ex_39 => ?_)
        rcases (tst_1 hop.1 hop.2 c_4) with k_39 | k_39 | k_39 | k_39
        · have e_39 : x_39 = 200 := by rw [ex_39]; exact k_39
          clear ex_39
          subst e_39
          refine lv_lookup (tgt := 122) hx hb dX0_test_39 (by decide) rfl (by decide) ?_
          refine lv_aload_n hx hb dX0_test_122 rfl (lv_at hl 2 rfl) ?_
          refine lv_iload hx hb dX0_test_123 (lv_at hl 0 rfl) ?_
          refine lv_aload_n hx hb dX0_test_125 rfl (lv_at hl 2 rfl) ?_
          refine va_get (D := D) (ci := 0) (v := .ref a) (C := RX0) (T := TX0) (N := 5) hx hb hts iw_X0_test hown hK hP 0 rfl rfl 0 (by decide) (hts (.fieldLink RX0 9 "WordMill" "memory" "[J") (by decide +kernel)) (fun _ h9 => h9) rfl dX0_test_126 ?_
          refine lv_iload_n hx hb dX0_test_129 rfl (lv_at hl 4 rfl) ?_
          refine va_lald hx hb hK hP 1 0 rfl rfl hac dX0_test_130 ?_
          refine lv_aload_n hx hb dX0_test_131 rfl (lv_at hl 2 rfl) ?_
          refine va_get (D := D) (ci := 0) (v := .ref a) (C := RX0) (T := TX0) (N := 5) hx hb hts iw_X0_test hown hK hP 0 rfl rfl 0 (by decide) (hts (.fieldLink RX0 9 "WordMill" "memory" "[J") (by decide +kernel)) (fun _ h9 => h9) rfl dX0_test_132 ?_
          refine lv_iload_n hx hb dX0_test_135 rfl (lv_at hl 5 rfl) ?_
          refine va_lald hx hb hK hP 1 0 rfl rfl (vp_below he c_23 (by decide)) dX0_test_136 ?_
          refine ps_goi (As := [.int x_32, .long (u.1 (ac : Int32).toNatClampNeg), .long (u.1 (e0 : Int32).toNatClampNeg)]) (rest := [.ref h]) ⟨hx, hb, hml, hown, hts⟩ (kX0_holds l x_32 (u.1 (ac : Int32).toNatClampNeg) (u.1 (e0 : Int32).toNatClampNeg)) (va_cwS 3 hts gX0_test_X0_holds rfl rfl rfl (by decide +kernel) ⟨by decide, by decide⟩) rfl hl.1 rfl (Nat.le_of_ble_eq_true rfl) dX0_test_137 ⟨Nat.zero_le _, Nat.zero_le _⟩ (fun r_137 q_137 => ?_)
          refine w_go (rv := rv_i) (As := [.int r_137]) (rest := []) ⟨hx, hb, hml, hown, hts⟩ (kX0_skipIf l D h a cA (u.1, u.2.1, u.2.2.1, u.2.2.2.1, u.2.2.2.2) ⟨hI.1, hI.2⟩ r_137 ) (cwV 1 hts gX0_test_X0_skipIf rfl rfl rfl (by decide +kernel) ⟨by decide, by decide⟩) hK hP hD hS rfl hl.1 rfl (Nat.le_of_ble_eq_true rfl) dX0_test_140 ⟨Nat.zero_le _, Nat.zero_le _⟩ (fun r_140 u_140 H locs q_140 hP hD hS => ?_)
          refine W.eq (g2 := F0 m 143 ls (.int r_140 :: [])) rfl ?_
          exact mm_iret (mw := wW h a cA) (u1 := (u_140.1, u_140.2.1, u_140.2.2.1, u_140.2.2.2.1, u_140.2.2.2.2)) hx hb hr hlocks hP hK hD hS dX0_test_143 ⟨q_140.1, q_140.2⟩
        · have e_39 : x_39 = 216 := by rw [ex_39]; exact k_39
          clear ex_39
          subst e_39
          refine lv_lookup (tgt := 154) hx hb dX0_test_39 (by decide) rfl (by decide) ?_
          refine lv_aload_n hx hb dX0_test_154 rfl (lv_at hl 2 rfl) ?_
          refine lv_iload hx hb dX0_test_155 (lv_at hl 0 rfl) ?_
          refine lv_iload_n hx hb dX0_test_157 rfl (lv_at hl 4 rfl) ?_
          refine lv_iload_n hx hb dX0_test_158 rfl (lv_at hl 5 rfl) ?_
          refine lv_iconst (v := 0) hx hb dX0_test_159 (by decide) ?_
          refine w_go (rv := rv_i) (As := [.int x_32, .int ac, .int e0, .int 0]) (rest := []) ⟨hx, hb, hml, hown, hts⟩ (kX0_changeAndSkip l D h a cA (u.1, u.2.1, u.2.2.1, u.2.2.2.1, u.2.2.2.2) ⟨hI.1, hI.2⟩ x_32 ac e0 0 hac (vp_below he c_23 (by decide))) (cwV 4 hts gX0_test_X0_changeAndSkip rfl rfl rfl (by decide +kernel) ⟨by decide, by decide⟩) hK hP hD hS rfl hl.1 rfl (Nat.le_of_ble_eq_true rfl) dX0_test_160 ⟨Nat.zero_le _, Nat.zero_le _⟩ (fun r_160 u_160 H locs q_160 hP hD hS => ?_)
          refine W.eq (g2 := F0 m 163 ls (.int r_160 :: [])) rfl ?_
          exact mm_iret (mw := wW h a cA) (u1 := (u_160.1, u_160.2.1, u_160.2.2.1, u_160.2.2.2.1, u_160.2.2.2.2)) hx hb hr hlocks hP hK hD hS dX0_test_163 ⟨q_160.1, q_160.2⟩
        · have e_39 : x_39 = 232 := by rw [ex_39]; exact k_39
          clear ex_39
          subst e_39
          refine lv_lookup (tgt := 174) hx hb dX0_test_39 (by decide) rfl (by decide) ?_
          refine lv_aload_n hx hb dX0_test_174 rfl (lv_at hl 2 rfl) ?_
          refine lv_iload hx hb dX0_test_175 (lv_at hl 0 rfl) ?_
          refine lv_iload_n hx hb dX0_test_177 rfl (lv_at hl 4 rfl) ?_
          refine lv_iload_n hx hb dX0_test_178 rfl (lv_at hl 5 rfl) ?_
          refine lv_iconst (v := 1) hx hb dX0_test_179 (by decide) ?_
          refine w_go (rv := rv_i) (As := [.int x_32, .int ac, .int e0, .int 1]) (rest := []) ⟨hx, hb, hml, hown, hts⟩ (kX0_changeAndSkip l D h a cA (u.1, u.2.1, u.2.2.1, u.2.2.2.1, u.2.2.2.2) ⟨hI.1, hI.2⟩ x_32 ac e0 1 hac (vp_below he c_23 (by decide))) (cwV 4 hts gX0_test_X0_changeAndSkip rfl rfl rfl (by decide +kernel) ⟨by decide, by decide⟩) hK hP hD hS rfl hl.1 rfl (Nat.le_of_ble_eq_true rfl) dX0_test_180 ⟨Nat.zero_le _, Nat.zero_le _⟩ (fun r_180 u_180 H locs q_180 hP hD hS => ?_)
          refine W.eq (g2 := F0 m 183 ls (.int r_180 :: [])) rfl ?_
          exact mm_iret (mw := wW h a cA) (u1 := (u_180.1, u_180.2.1, u_180.2.2.1, u_180.2.2.2.1, u_180.2.2.2.2)) hx hb hr hlocks hP hK hD hS dX0_test_183 ⟨q_180.1, q_180.2⟩
        · have e_39 : x_39 = 248 := by rw [ex_39]; exact k_39
          clear ex_39
          subst e_39
          refine lv_lookup (tgt := 194) hx hb dX0_test_39 (by decide) rfl (by decide) ?_
          refine lv_aload_n hx hb dX0_test_194 rfl (lv_at hl 2 rfl) ?_
          refine lv_iload hx hb dX0_test_195 (lv_at hl 0 rfl) ?_
          refine lv_iload_n hx hb dX0_test_197 rfl (lv_at hl 4 rfl) ?_
          refine lv_iload_n hx hb dX0_test_198 rfl (lv_at hl 5 rfl) ?_
          refine lv_iconst (v := -1) hx hb dX0_test_199 (by decide) ?_
          refine w_go (rv := rv_i) (As := [.int x_32, .int ac, .int e0, .int (-1)]) (rest := []) ⟨hx, hb, hml, hown, hts⟩ (kX0_changeAndSkip l D h a cA (u.1, u.2.1, u.2.2.1, u.2.2.2.1, u.2.2.2.2) ⟨hI.1, hI.2⟩ x_32 ac e0 (-1) hac (vp_below he c_23 (by decide))) (cwV 4 hts gX0_test_X0_changeAndSkip rfl rfl rfl (by decide +kernel) ⟨by decide, by decide⟩) hK hP hD hS rfl hl.1 rfl (Nat.le_of_ble_eq_true rfl) dX0_test_200 ⟨Nat.zero_le _, Nat.zero_le _⟩ (fun r_200 u_200 H locs q_200 hP hD hS => ?_)
          refine W.eq (g2 := F0 m 203 ls (.int r_200 :: [])) rfl ?_
          exact mm_iret (mw := wW h a cA) (u1 := (u_200.1, u_200.2.1, u_200.2.2.1, u_200.2.2.2.1, u_200.2.2.2.2)) hx hb hr hlocks hP hK hD hS dX0_test_203 ⟨q_200.1, q_200.2⟩
      · refine lv_iconst (v := 2) hx hb dX0_test_26 (by decide) ?_
        exact mm_iret (mw := wW h a cA) (u1 := (u.1, u.2.1, u.2.2.1, u.2.2.2.1, u.2.2.2.2)) hx hb hr hlocks hP hK hD hS dX0_test_27 ⟨hI.1, hI.2⟩
theorem iw_X0_perform : ∀ w ∈ u_ws RX0 TX0 5, w ∈ wsX0_perform := by decide +kernel
set_option maxHeartbeats 4000000 in
set_option maxRecDepth 100000 in
theorem kX0_perform (l : Launch) (D : va_G) (h a : Nat) (cA : ClassId) (u : wS) (hI : wI u) (op : Int32) (ac : Int32) (e0 : Int32) (hac : vp_in ac 4096) (he : ¬ e0 < 0) : MM l yX0_perform wsX0_perform ({ frames := 4, cells := 0, slots := 0, locals := 101 }) D vwCl [(cA, .long)] (wW h a cA) (wA h a) u [.ref h, .int op, .int ac, .int e0] rv_i (fun _ u' => wI u') := by
  refine mm_of (cc := cX0_perform) (maxL := 4) (ret := (some .int)) (by decide) rfl (Nat.le_of_ble_eq_true rfl) (wA_in h a cA u) ?_
  intro p e s m below meth c ls C hl hP hK hD hS
  obtain ⟨hx, hb, hr, hml, hown, hts, hlocks⟩ := C
  have hl : lv_has ls 4 [(0, .ref h), (1, .int op), (2, .int ac), (3, .int e0)] := hl
  refine lv_iload_n hx hb dX0_perform_0 rfl (lv_at hl 1 rfl) ?_
  by_cases k_0 : op = 0
  · subst k_0
    refine lv_lookup (tgt := 316) hx hb dX0_perform_1 (by decide) rfl (by decide) ?_
    refine lv_iconst (v := -1) hx hb dX0_perform_316 (by decide) ?_
    exact mm_iret (mw := wW h a cA) (u1 := (u.1, u.2.1, u.2.2.1, u.2.2.2.1, u.2.2.2.2)) hx hb hr hlocks hP hK hD hS dX0_perform_317 ⟨hI.1, hI.2⟩
  by_cases k_128 : op = 128
  · subst k_128
    refine lv_lookup (tgt := 354) hx hb dX0_perform_1 (by decide) rfl (by decide) ?_
    refine lv_iload_n hx hb dX0_perform_354 rfl (lv_at hl 3 rfl) ?_
    refine lv_sipush (v := 4096) hx hb dX0_perform_355 (by decide) ?_
    refine lv_icmp_lt (tgt := 365) hx hb dX0_perform_358 (by decide) (fun c_358 => ?_) (fun c_358 => ?_)
    · refine lv_aload_n hx hb dX0_perform_365 rfl (lv_at hl 0 rfl) ?_
      refine lv_iload_n hx hb dX0_perform_366 rfl (lv_at hl 1 rfl) ?_
      refine lv_iload_n hx hb dX0_perform_367 rfl (lv_at hl 2 rfl) ?_
      refine lv_iload_n hx hb dX0_perform_368 rfl (lv_at hl 3 rfl) ?_
      refine w_go (rv := rv_i) (As := [.int 128, .int ac, .int e0]) (rest := []) ⟨hx, hb, hml, hown, hts⟩ (kX0_performOnMemory l D h a cA (u.1, u.2.1, u.2.2.1, u.2.2.2.1, u.2.2.2.2) ⟨hI.1, hI.2⟩ 128 ac e0 hac (vp_below he c_358 (by decide))) (cwV 3 hts gX0_perform_X0_performOnMemory rfl rfl rfl (by decide +kernel) ⟨by decide, by decide⟩) hK hP hD hS rfl hl.1 rfl (Nat.le_of_ble_eq_true rfl) dX0_perform_369 ⟨Nat.zero_le _, Nat.zero_le _⟩ (fun r_369 u_369 H locs q_369 hP hD hS => ?_)
      refine W.eq (g2 := F0 m 372 ls (.int r_369 :: [])) rfl ?_
      exact mm_iret (mw := wW h a cA) (u1 := (u_369.1, u_369.2.1, u_369.2.2.1, u_369.2.2.2.1, u_369.2.2.2.2)) hx hb hr hlocks hP hK hD hS dX0_perform_372 ⟨q_369.1, q_369.2⟩
    · refine lv_iconst (v := 2) hx hb dX0_perform_361 (by decide) ?_
      refine lv_goto (tgt := 372) hx hb dX0_perform_362 (by decide) ?_
      exact mm_iret (mw := wW h a cA) (u1 := (u.1, u.2.1, u.2.2.1, u.2.2.2.1, u.2.2.2.2)) hx hb hr hlocks hP hK hD hS dX0_perform_372 ⟨hI.1, hI.2⟩
  by_cases k_129 : op = 129
  · subst k_129
    refine lv_lookup (tgt := 318) hx hb dX0_perform_1 (by decide) rfl (by decide) ?_
    refine lv_aload_n hx hb dX0_perform_318 rfl (lv_at hl 0 rfl) ?_
    refine lv_iload_n hx hb dX0_perform_319 rfl (lv_at hl 1 rfl) ?_
    refine lv_iload_n hx hb dX0_perform_320 rfl (lv_at hl 2 rfl) ?_
    refine lv_iload_n hx hb dX0_perform_321 rfl (lv_at hl 3 rfl) ?_
    refine lv_i2l hx hb dX0_perform_322 rfl ?_
    refine w_go (rv := rv_i) (As := [.int 129, .int ac, .long ((e0 : Int32).toInt64)]) (rest := []) ⟨hx, hb, hml, hown, hts⟩ (kX0_combine l D h a cA (u.1, u.2.1, u.2.2.1, u.2.2.2.1, u.2.2.2.2) ⟨hI.1, hI.2⟩ 129 ac ((e0 : Int32).toInt64) hac) (cwV 3 hts gX0_perform_X0_combine rfl rfl rfl (by decide +kernel) ⟨by decide, by decide⟩) hK hP hD hS rfl hl.1 rfl (Nat.le_of_ble_eq_true rfl) dX0_perform_323 ⟨Nat.zero_le _, Nat.zero_le _⟩ (fun r_323 u_323 H locs q_323 hP hD hS => ?_)
    refine W.eq (g2 := F0 m 326 ls (.int r_323 :: [])) rfl ?_
    exact mm_iret (mw := wW h a cA) (u1 := (u_323.1, u_323.2.1, u_323.2.2.1, u_323.2.2.2.1, u_323.2.2.2.2)) hx hb hr hlocks hP hK hD hS dX0_perform_326 ⟨q_323.1, q_323.2⟩
  by_cases k_130 : op = 130
  · subst k_130
    refine lv_lookup (tgt := 354) hx hb dX0_perform_1 (by decide) rfl (by decide) ?_
    refine lv_iload_n hx hb dX0_perform_354 rfl (lv_at hl 3 rfl) ?_
    refine lv_sipush (v := 4096) hx hb dX0_perform_355 (by decide) ?_
    refine lv_icmp_lt (tgt := 365) hx hb dX0_perform_358 (by decide) (fun c_358 => ?_) (fun c_358 => ?_)
    · refine lv_aload_n hx hb dX0_perform_365 rfl (lv_at hl 0 rfl) ?_
      refine lv_iload_n hx hb dX0_perform_366 rfl (lv_at hl 1 rfl) ?_
      refine lv_iload_n hx hb dX0_perform_367 rfl (lv_at hl 2 rfl) ?_
      refine lv_iload_n hx hb dX0_perform_368 rfl (lv_at hl 3 rfl) ?_
      refine w_go (rv := rv_i) (As := [.int 130, .int ac, .int e0]) (rest := []) ⟨hx, hb, hml, hown, hts⟩ (kX0_performOnMemory l D h a cA (u.1, u.2.1, u.2.2.1, u.2.2.2.1, u.2.2.2.2) ⟨hI.1, hI.2⟩ 130 ac e0 hac (vp_below he c_358 (by decide))) (cwV 3 hts gX0_perform_X0_performOnMemory rfl rfl rfl (by decide +kernel) ⟨by decide, by decide⟩) hK hP hD hS rfl hl.1 rfl (Nat.le_of_ble_eq_true rfl) dX0_perform_369 ⟨Nat.zero_le _, Nat.zero_le _⟩ (fun r_369 u_369 H locs q_369 hP hD hS => ?_)
      refine W.eq (g2 := F0 m 372 ls (.int r_369 :: [])) rfl ?_
      exact mm_iret (mw := wW h a cA) (u1 := (u_369.1, u_369.2.1, u_369.2.2.1, u_369.2.2.2.1, u_369.2.2.2.2)) hx hb hr hlocks hP hK hD hS dX0_perform_372 ⟨q_369.1, q_369.2⟩
    · refine lv_iconst (v := 2) hx hb dX0_perform_361 (by decide) ?_
      refine lv_goto (tgt := 372) hx hb dX0_perform_362 (by decide) ?_
      exact mm_iret (mw := wW h a cA) (u1 := (u.1, u.2.1, u.2.2.1, u.2.2.2.1, u.2.2.2.2)) hx hb hr hlocks hP hK hD hS dX0_perform_372 ⟨hI.1, hI.2⟩
  by_cases k_132 : op = 132
  · subst k_132
    refine lv_lookup (tgt := 354) hx hb dX0_perform_1 (by decide) rfl (by decide) ?_
    refine lv_iload_n hx hb dX0_perform_354 rfl (lv_at hl 3 rfl) ?_
    refine lv_sipush (v := 4096) hx hb dX0_perform_355 (by decide) ?_
    refine lv_icmp_lt (tgt := 365) hx hb dX0_perform_358 (by decide) (fun c_358 => ?_) (fun c_358 => ?_)
    · refine lv_aload_n hx hb dX0_perform_365 rfl (lv_at hl 0 rfl) ?_
      refine lv_iload_n hx hb dX0_perform_366 rfl (lv_at hl 1 rfl) ?_
      refine lv_iload_n hx hb dX0_perform_367 rfl (lv_at hl 2 rfl) ?_
      refine lv_iload_n hx hb dX0_perform_368 rfl (lv_at hl 3 rfl) ?_
      refine w_go (rv := rv_i) (As := [.int 132, .int ac, .int e0]) (rest := []) ⟨hx, hb, hml, hown, hts⟩ (kX0_performOnMemory l D h a cA (u.1, u.2.1, u.2.2.1, u.2.2.2.1, u.2.2.2.2) ⟨hI.1, hI.2⟩ 132 ac e0 hac (vp_below he c_358 (by decide))) (cwV 3 hts gX0_perform_X0_performOnMemory rfl rfl rfl (by decide +kernel) ⟨by decide, by decide⟩) hK hP hD hS rfl hl.1 rfl (Nat.le_of_ble_eq_true rfl) dX0_perform_369 ⟨Nat.zero_le _, Nat.zero_le _⟩ (fun r_369 u_369 H locs q_369 hP hD hS => ?_)
      refine W.eq (g2 := F0 m 372 ls (.int r_369 :: [])) rfl ?_
      exact mm_iret (mw := wW h a cA) (u1 := (u_369.1, u_369.2.1, u_369.2.2.1, u_369.2.2.2.1, u_369.2.2.2.2)) hx hb hr hlocks hP hK hD hS dX0_perform_372 ⟨q_369.1, q_369.2⟩
    · refine lv_iconst (v := 2) hx hb dX0_perform_361 (by decide) ?_
      refine lv_goto (tgt := 372) hx hb dX0_perform_362 (by decide) ?_
      exact mm_iret (mw := wW h a cA) (u1 := (u.1, u.2.1, u.2.2.1, u.2.2.2.1, u.2.2.2.2)) hx hb hr hlocks hP hK hD hS dX0_perform_372 ⟨hI.1, hI.2⟩
  by_cases k_136 : op = 136
  · subst k_136
    refine lv_lookup (tgt := 354) hx hb dX0_perform_1 (by decide) rfl (by decide) ?_
    refine lv_iload_n hx hb dX0_perform_354 rfl (lv_at hl 3 rfl) ?_
    refine lv_sipush (v := 4096) hx hb dX0_perform_355 (by decide) ?_
    refine lv_icmp_lt (tgt := 365) hx hb dX0_perform_358 (by decide) (fun c_358 => ?_) (fun c_358 => ?_)
    · refine lv_aload_n hx hb dX0_perform_365 rfl (lv_at hl 0 rfl) ?_
      refine lv_iload_n hx hb dX0_perform_366 rfl (lv_at hl 1 rfl) ?_
      refine lv_iload_n hx hb dX0_perform_367 rfl (lv_at hl 2 rfl) ?_
      refine lv_iload_n hx hb dX0_perform_368 rfl (lv_at hl 3 rfl) ?_
      refine w_go (rv := rv_i) (As := [.int 136, .int ac, .int e0]) (rest := []) ⟨hx, hb, hml, hown, hts⟩ (kX0_performOnMemory l D h a cA (u.1, u.2.1, u.2.2.1, u.2.2.2.1, u.2.2.2.2) ⟨hI.1, hI.2⟩ 136 ac e0 hac (vp_below he c_358 (by decide))) (cwV 3 hts gX0_perform_X0_performOnMemory rfl rfl rfl (by decide +kernel) ⟨by decide, by decide⟩) hK hP hD hS rfl hl.1 rfl (Nat.le_of_ble_eq_true rfl) dX0_perform_369 ⟨Nat.zero_le _, Nat.zero_le _⟩ (fun r_369 u_369 H locs q_369 hP hD hS => ?_)
      refine W.eq (g2 := F0 m 372 ls (.int r_369 :: [])) rfl ?_
      exact mm_iret (mw := wW h a cA) (u1 := (u_369.1, u_369.2.1, u_369.2.2.1, u_369.2.2.2.1, u_369.2.2.2.2)) hx hb hr hlocks hP hK hD hS dX0_perform_372 ⟨q_369.1, q_369.2⟩
    · refine lv_iconst (v := 2) hx hb dX0_perform_361 (by decide) ?_
      refine lv_goto (tgt := 372) hx hb dX0_perform_362 (by decide) ?_
      exact mm_iret (mw := wW h a cA) (u1 := (u.1, u.2.1, u.2.2.1, u.2.2.2.1, u.2.2.2.2)) hx hb hr hlocks hP hK hD hS dX0_perform_372 ⟨hI.1, hI.2⟩
  by_cases k_140 : op = 140
  · subst k_140
    refine lv_lookup (tgt := 354) hx hb dX0_perform_1 (by decide) rfl (by decide) ?_
    refine lv_iload_n hx hb dX0_perform_354 rfl (lv_at hl 3 rfl) ?_
    refine lv_sipush (v := 4096) hx hb dX0_perform_355 (by decide) ?_
    refine lv_icmp_lt (tgt := 365) hx hb dX0_perform_358 (by decide) (fun c_358 => ?_) (fun c_358 => ?_)
    · refine lv_aload_n hx hb dX0_perform_365 rfl (lv_at hl 0 rfl) ?_
      refine lv_iload_n hx hb dX0_perform_366 rfl (lv_at hl 1 rfl) ?_
      refine lv_iload_n hx hb dX0_perform_367 rfl (lv_at hl 2 rfl) ?_
      refine lv_iload_n hx hb dX0_perform_368 rfl (lv_at hl 3 rfl) ?_
      refine w_go (rv := rv_i) (As := [.int 140, .int ac, .int e0]) (rest := []) ⟨hx, hb, hml, hown, hts⟩ (kX0_performOnMemory l D h a cA (u.1, u.2.1, u.2.2.1, u.2.2.2.1, u.2.2.2.2) ⟨hI.1, hI.2⟩ 140 ac e0 hac (vp_below he c_358 (by decide))) (cwV 3 hts gX0_perform_X0_performOnMemory rfl rfl rfl (by decide +kernel) ⟨by decide, by decide⟩) hK hP hD hS rfl hl.1 rfl (Nat.le_of_ble_eq_true rfl) dX0_perform_369 ⟨Nat.zero_le _, Nat.zero_le _⟩ (fun r_369 u_369 H locs q_369 hP hD hS => ?_)
      refine W.eq (g2 := F0 m 372 ls (.int r_369 :: [])) rfl ?_
      exact mm_iret (mw := wW h a cA) (u1 := (u_369.1, u_369.2.1, u_369.2.2.1, u_369.2.2.2.1, u_369.2.2.2.2)) hx hb hr hlocks hP hK hD hS dX0_perform_372 ⟨q_369.1, q_369.2⟩
    · refine lv_iconst (v := 2) hx hb dX0_perform_361 (by decide) ?_
      refine lv_goto (tgt := 372) hx hb dX0_perform_362 (by decide) ?_
      exact mm_iret (mw := wW h a cA) (u1 := (u.1, u.2.1, u.2.2.1, u.2.2.2.1, u.2.2.2.2)) hx hb hr hlocks hP hK hD hS dX0_perform_372 ⟨hI.1, hI.2⟩
  by_cases k_144 : op = 144
  · subst k_144
    refine lv_lookup (tgt := 354) hx hb dX0_perform_1 (by decide) rfl (by decide) ?_
    refine lv_iload_n hx hb dX0_perform_354 rfl (lv_at hl 3 rfl) ?_
    refine lv_sipush (v := 4096) hx hb dX0_perform_355 (by decide) ?_
    refine lv_icmp_lt (tgt := 365) hx hb dX0_perform_358 (by decide) (fun c_358 => ?_) (fun c_358 => ?_)
    · refine lv_aload_n hx hb dX0_perform_365 rfl (lv_at hl 0 rfl) ?_
      refine lv_iload_n hx hb dX0_perform_366 rfl (lv_at hl 1 rfl) ?_
      refine lv_iload_n hx hb dX0_perform_367 rfl (lv_at hl 2 rfl) ?_
      refine lv_iload_n hx hb dX0_perform_368 rfl (lv_at hl 3 rfl) ?_
      refine w_go (rv := rv_i) (As := [.int 144, .int ac, .int e0]) (rest := []) ⟨hx, hb, hml, hown, hts⟩ (kX0_performOnMemory l D h a cA (u.1, u.2.1, u.2.2.1, u.2.2.2.1, u.2.2.2.2) ⟨hI.1, hI.2⟩ 144 ac e0 hac (vp_below he c_358 (by decide))) (cwV 3 hts gX0_perform_X0_performOnMemory rfl rfl rfl (by decide +kernel) ⟨by decide, by decide⟩) hK hP hD hS rfl hl.1 rfl (Nat.le_of_ble_eq_true rfl) dX0_perform_369 ⟨Nat.zero_le _, Nat.zero_le _⟩ (fun r_369 u_369 H locs q_369 hP hD hS => ?_)
      refine W.eq (g2 := F0 m 372 ls (.int r_369 :: [])) rfl ?_
      exact mm_iret (mw := wW h a cA) (u1 := (u_369.1, u_369.2.1, u_369.2.2.1, u_369.2.2.2.1, u_369.2.2.2.2)) hx hb hr hlocks hP hK hD hS dX0_perform_372 ⟨q_369.1, q_369.2⟩
    · refine lv_iconst (v := 2) hx hb dX0_perform_361 (by decide) ?_
      refine lv_goto (tgt := 372) hx hb dX0_perform_362 (by decide) ?_
      exact mm_iret (mw := wW h a cA) (u1 := (u.1, u.2.1, u.2.2.1, u.2.2.2.1, u.2.2.2.2)) hx hb hr hlocks hP hK hD hS dX0_perform_372 ⟨hI.1, hI.2⟩
  by_cases k_145 : op = 145
  · subst k_145
    refine lv_lookup (tgt := 318) hx hb dX0_perform_1 (by decide) rfl (by decide) ?_
    refine lv_aload_n hx hb dX0_perform_318 rfl (lv_at hl 0 rfl) ?_
    refine lv_iload_n hx hb dX0_perform_319 rfl (lv_at hl 1 rfl) ?_
    refine lv_iload_n hx hb dX0_perform_320 rfl (lv_at hl 2 rfl) ?_
    refine lv_iload_n hx hb dX0_perform_321 rfl (lv_at hl 3 rfl) ?_
    refine lv_i2l hx hb dX0_perform_322 rfl ?_
    refine w_go (rv := rv_i) (As := [.int 145, .int ac, .long ((e0 : Int32).toInt64)]) (rest := []) ⟨hx, hb, hml, hown, hts⟩ (kX0_combine l D h a cA (u.1, u.2.1, u.2.2.1, u.2.2.2.1, u.2.2.2.2) ⟨hI.1, hI.2⟩ 145 ac ((e0 : Int32).toInt64) hac) (cwV 3 hts gX0_perform_X0_combine rfl rfl rfl (by decide +kernel) ⟨by decide, by decide⟩) hK hP hD hS rfl hl.1 rfl (Nat.le_of_ble_eq_true rfl) dX0_perform_323 ⟨Nat.zero_le _, Nat.zero_le _⟩ (fun r_323 u_323 H locs q_323 hP hD hS => ?_)
    refine W.eq (g2 := F0 m 326 ls (.int r_323 :: [])) rfl ?_
    exact mm_iret (mw := wW h a cA) (u1 := (u_323.1, u_323.2.1, u_323.2.2.1, u_323.2.2.2.1, u_323.2.2.2.2)) hx hb hr hlocks hP hK hD hS dX0_perform_326 ⟨q_323.1, q_323.2⟩
  by_cases k_152 : op = 152
  · subst k_152
    refine lv_lookup (tgt := 354) hx hb dX0_perform_1 (by decide) rfl (by decide) ?_
    refine lv_iload_n hx hb dX0_perform_354 rfl (lv_at hl 3 rfl) ?_
    refine lv_sipush (v := 4096) hx hb dX0_perform_355 (by decide) ?_
    refine lv_icmp_lt (tgt := 365) hx hb dX0_perform_358 (by decide) (fun c_358 => ?_) (fun c_358 => ?_)
    · refine lv_aload_n hx hb dX0_perform_365 rfl (lv_at hl 0 rfl) ?_
      refine lv_iload_n hx hb dX0_perform_366 rfl (lv_at hl 1 rfl) ?_
      refine lv_iload_n hx hb dX0_perform_367 rfl (lv_at hl 2 rfl) ?_
      refine lv_iload_n hx hb dX0_perform_368 rfl (lv_at hl 3 rfl) ?_
      refine w_go (rv := rv_i) (As := [.int 152, .int ac, .int e0]) (rest := []) ⟨hx, hb, hml, hown, hts⟩ (kX0_performOnMemory l D h a cA (u.1, u.2.1, u.2.2.1, u.2.2.2.1, u.2.2.2.2) ⟨hI.1, hI.2⟩ 152 ac e0 hac (vp_below he c_358 (by decide))) (cwV 3 hts gX0_perform_X0_performOnMemory rfl rfl rfl (by decide +kernel) ⟨by decide, by decide⟩) hK hP hD hS rfl hl.1 rfl (Nat.le_of_ble_eq_true rfl) dX0_perform_369 ⟨Nat.zero_le _, Nat.zero_le _⟩ (fun r_369 u_369 H locs q_369 hP hD hS => ?_)
      refine W.eq (g2 := F0 m 372 ls (.int r_369 :: [])) rfl ?_
      exact mm_iret (mw := wW h a cA) (u1 := (u_369.1, u_369.2.1, u_369.2.2.1, u_369.2.2.2.1, u_369.2.2.2.2)) hx hb hr hlocks hP hK hD hS dX0_perform_372 ⟨q_369.1, q_369.2⟩
    · refine lv_iconst (v := 2) hx hb dX0_perform_361 (by decide) ?_
      refine lv_goto (tgt := 372) hx hb dX0_perform_362 (by decide) ?_
      exact mm_iret (mw := wW h a cA) (u1 := (u.1, u.2.1, u.2.2.1, u.2.2.2.1, u.2.2.2.2)) hx hb hr hlocks hP hK hD hS dX0_perform_372 ⟨hI.1, hI.2⟩
  by_cases k_153 : op = 153
  · subst k_153
    refine lv_lookup (tgt := 327) hx hb dX0_perform_1 (by decide) rfl (by decide) ?_
    refine lv_aload_n hx hb dX0_perform_327 rfl (lv_at hl 0 rfl) ?_
    refine lv_iload_n hx hb dX0_perform_328 rfl (lv_at hl 2 rfl) ?_
    refine lv_iload_n hx hb dX0_perform_329 rfl (lv_at hl 3 rfl) ?_
    refine lv_i2l hx hb dX0_perform_330 rfl ?_
    refine w_go (rv := rv_i) (As := [.int ac, .long ((e0 : Int32).toInt64)]) (rest := []) ⟨hx, hb, hml, hown, hts⟩ (kX0_divide l D h a cA (u.1, u.2.1, u.2.2.1, u.2.2.2.1, u.2.2.2.2) ⟨hI.1, hI.2⟩ ac ((e0 : Int32).toInt64) hac) (cwV 2 hts gX0_perform_X0_divide rfl rfl rfl (by decide +kernel) ⟨by decide, by decide⟩) hK hP hD hS rfl hl.1 rfl (Nat.le_of_ble_eq_true rfl) dX0_perform_331 ⟨Nat.zero_le _, Nat.zero_le _⟩ (fun r_331 u_331 H locs q_331 hP hD hS => ?_)
    refine W.eq (g2 := F0 m 334 ls (.int r_331 :: [])) rfl ?_
    exact mm_iret (mw := wW h a cA) (u1 := (u_331.1, u_331.2.1, u_331.2.2.1, u_331.2.2.2.1, u_331.2.2.2.2)) hx hb hr hlocks hP hK hD hS dX0_perform_334 ⟨q_331.1, q_331.2⟩
  by_cases k_162 : op = 162
  · subst k_162
    refine lv_lookup (tgt := 318) hx hb dX0_perform_1 (by decide) rfl (by decide) ?_
    refine lv_aload_n hx hb dX0_perform_318 rfl (lv_at hl 0 rfl) ?_
    refine lv_iload_n hx hb dX0_perform_319 rfl (lv_at hl 1 rfl) ?_
    refine lv_iload_n hx hb dX0_perform_320 rfl (lv_at hl 2 rfl) ?_
    refine lv_iload_n hx hb dX0_perform_321 rfl (lv_at hl 3 rfl) ?_
    refine lv_i2l hx hb dX0_perform_322 rfl ?_
    refine w_go (rv := rv_i) (As := [.int 162, .int ac, .long ((e0 : Int32).toInt64)]) (rest := []) ⟨hx, hb, hml, hown, hts⟩ (kX0_combine l D h a cA (u.1, u.2.1, u.2.2.1, u.2.2.2.1, u.2.2.2.2) ⟨hI.1, hI.2⟩ 162 ac ((e0 : Int32).toInt64) hac) (cwV 3 hts gX0_perform_X0_combine rfl rfl rfl (by decide +kernel) ⟨by decide, by decide⟩) hK hP hD hS rfl hl.1 rfl (Nat.le_of_ble_eq_true rfl) dX0_perform_323 ⟨Nat.zero_le _, Nat.zero_le _⟩ (fun r_323 u_323 H locs q_323 hP hD hS => ?_)
    refine W.eq (g2 := F0 m 326 ls (.int r_323 :: [])) rfl ?_
    exact mm_iret (mw := wW h a cA) (u1 := (u_323.1, u_323.2.1, u_323.2.2.1, u_323.2.2.2.1, u_323.2.2.2.2)) hx hb hr hlocks hP hK hD hS dX0_perform_326 ⟨q_323.1, q_323.2⟩
  by_cases k_168 : op = 168
  · subst k_168
    refine lv_lookup (tgt := 354) hx hb dX0_perform_1 (by decide) rfl (by decide) ?_
    refine lv_iload_n hx hb dX0_perform_354 rfl (lv_at hl 3 rfl) ?_
    refine lv_sipush (v := 4096) hx hb dX0_perform_355 (by decide) ?_
    refine lv_icmp_lt (tgt := 365) hx hb dX0_perform_358 (by decide) (fun c_358 => ?_) (fun c_358 => ?_)
    · refine lv_aload_n hx hb dX0_perform_365 rfl (lv_at hl 0 rfl) ?_
      refine lv_iload_n hx hb dX0_perform_366 rfl (lv_at hl 1 rfl) ?_
      refine lv_iload_n hx hb dX0_perform_367 rfl (lv_at hl 2 rfl) ?_
      refine lv_iload_n hx hb dX0_perform_368 rfl (lv_at hl 3 rfl) ?_
      refine w_go (rv := rv_i) (As := [.int 168, .int ac, .int e0]) (rest := []) ⟨hx, hb, hml, hown, hts⟩ (kX0_performOnMemory l D h a cA (u.1, u.2.1, u.2.2.1, u.2.2.2.1, u.2.2.2.2) ⟨hI.1, hI.2⟩ 168 ac e0 hac (vp_below he c_358 (by decide))) (cwV 3 hts gX0_perform_X0_performOnMemory rfl rfl rfl (by decide +kernel) ⟨by decide, by decide⟩) hK hP hD hS rfl hl.1 rfl (Nat.le_of_ble_eq_true rfl) dX0_perform_369 ⟨Nat.zero_le _, Nat.zero_le _⟩ (fun r_369 u_369 H locs q_369 hP hD hS => ?_)
      refine W.eq (g2 := F0 m 372 ls (.int r_369 :: [])) rfl ?_
      exact mm_iret (mw := wW h a cA) (u1 := (u_369.1, u_369.2.1, u_369.2.2.1, u_369.2.2.2.1, u_369.2.2.2.2)) hx hb hr hlocks hP hK hD hS dX0_perform_372 ⟨q_369.1, q_369.2⟩
    · refine lv_iconst (v := 2) hx hb dX0_perform_361 (by decide) ?_
      refine lv_goto (tgt := 372) hx hb dX0_perform_362 (by decide) ?_
      exact mm_iret (mw := wW h a cA) (u1 := (u.1, u.2.1, u.2.2.1, u.2.2.2.1, u.2.2.2.2)) hx hb hr hlocks hP hK hD hS dX0_perform_372 ⟨hI.1, hI.2⟩
  by_cases k_172 : op = 172
  · subst k_172
    refine lv_lookup (tgt := 335) hx hb dX0_perform_1 (by decide) rfl (by decide) ?_
    refine lv_aload_n hx hb dX0_perform_335 rfl (lv_at hl 0 rfl) ?_
    refine lv_iload_n hx hb dX0_perform_336 rfl (lv_at hl 3 rfl) ?_
    refine w_go (rv := rv_i) (As := [.int e0]) (rest := []) ⟨hx, hb, hml, hown, hts⟩ (kX0_jump l D h a cA (u.1, u.2.1, u.2.2.1, u.2.2.2.1, u.2.2.2.2) ⟨hI.1, hI.2⟩ e0 ) (cwV 1 hts gX0_perform_X0_jump rfl rfl rfl (by decide +kernel) ⟨by decide, by decide⟩) hK hP hD hS rfl hl.1 rfl (Nat.le_of_ble_eq_true rfl) dX0_perform_337 ⟨Nat.zero_le _, Nat.zero_le _⟩ (fun r_337 u_337 H locs q_337 hP hD hS => ?_)
    refine W.eq (g2 := F0 m 340 ls (.int r_337 :: [])) rfl ?_
    exact mm_iret (mw := wW h a cA) (u1 := (u_337.1, u_337.2.1, u_337.2.2.1, u_337.2.2.2.1, u_337.2.2.2.2)) hx hb hr hlocks hP hK hD hS dX0_perform_340 ⟨q_337.1, q_337.2⟩
  by_cases k_176 : op = 176
  · subst k_176
    refine lv_lookup (tgt := 341) hx hb dX0_perform_1 (by decide) rfl (by decide) ?_
    refine lv_aload_n hx hb dX0_perform_341 rfl (lv_at hl 0 rfl) ?_
    refine lv_iload_n hx hb dX0_perform_342 rfl (lv_at hl 2 rfl) ?_
    refine lv_iload_n hx hb dX0_perform_343 rfl (lv_at hl 3 rfl) ?_
    refine w_go (rv := rv_i) (As := [.int ac, .int e0]) (rest := []) ⟨hx, hb, hml, hown, hts⟩ (kX0_pushNextPlace l D h a cA (u.1, u.2.1, u.2.2.1, u.2.2.2.1, u.2.2.2.2) ⟨hI.1, hI.2⟩ ac e0 hac) (cwV 2 hts gX0_perform_X0_pushNextPlace rfl rfl rfl (by decide +kernel) ⟨by decide, by decide⟩) hK hP hD hS rfl hl.1 rfl (Nat.le_of_ble_eq_true rfl) dX0_perform_344 ⟨Nat.zero_le _, Nat.zero_le _⟩ (fun r_344 u_344 H locs q_344 hP hD hS => ?_)
    refine W.eq (g2 := F0 m 347 ls (.int r_344 :: [])) rfl ?_
    exact mm_iret (mw := wW h a cA) (u1 := (u_344.1, u_344.2.1, u_344.2.2.1, u_344.2.2.2.1, u_344.2.2.2.2)) hx hb hr hlocks hP hK hD hS dX0_perform_347 ⟨q_344.1, q_344.2⟩
  by_cases k_177 : op = 177
  · subst k_177
    refine lv_lookup (tgt := 354) hx hb dX0_perform_1 (by decide) rfl (by decide) ?_
    refine lv_iload_n hx hb dX0_perform_354 rfl (lv_at hl 3 rfl) ?_
    refine lv_sipush (v := 4096) hx hb dX0_perform_355 (by decide) ?_
    refine lv_icmp_lt (tgt := 365) hx hb dX0_perform_358 (by decide) (fun c_358 => ?_) (fun c_358 => ?_)
    · refine lv_aload_n hx hb dX0_perform_365 rfl (lv_at hl 0 rfl) ?_
      refine lv_iload_n hx hb dX0_perform_366 rfl (lv_at hl 1 rfl) ?_
      refine lv_iload_n hx hb dX0_perform_367 rfl (lv_at hl 2 rfl) ?_
      refine lv_iload_n hx hb dX0_perform_368 rfl (lv_at hl 3 rfl) ?_
      refine w_go (rv := rv_i) (As := [.int 177, .int ac, .int e0]) (rest := []) ⟨hx, hb, hml, hown, hts⟩ (kX0_performOnMemory l D h a cA (u.1, u.2.1, u.2.2.1, u.2.2.2.1, u.2.2.2.2) ⟨hI.1, hI.2⟩ 177 ac e0 hac (vp_below he c_358 (by decide))) (cwV 3 hts gX0_perform_X0_performOnMemory rfl rfl rfl (by decide +kernel) ⟨by decide, by decide⟩) hK hP hD hS rfl hl.1 rfl (Nat.le_of_ble_eq_true rfl) dX0_perform_369 ⟨Nat.zero_le _, Nat.zero_le _⟩ (fun r_369 u_369 H locs q_369 hP hD hS => ?_)
      refine W.eq (g2 := F0 m 372 ls (.int r_369 :: [])) rfl ?_
      exact mm_iret (mw := wW h a cA) (u1 := (u_369.1, u_369.2.1, u_369.2.2.1, u_369.2.2.2.1, u_369.2.2.2.2)) hx hb hr hlocks hP hK hD hS dX0_perform_372 ⟨q_369.1, q_369.2⟩
    · refine lv_iconst (v := 2) hx hb dX0_perform_361 (by decide) ?_
      refine lv_goto (tgt := 372) hx hb dX0_perform_362 (by decide) ?_
      exact mm_iret (mw := wW h a cA) (u1 := (u.1, u.2.1, u.2.2.1, u.2.2.2.1, u.2.2.2.2)) hx hb hr hlocks hP hK hD hS dX0_perform_372 ⟨hI.1, hI.2⟩
  by_cases k_178 : op = 178
  · subst k_178
    refine lv_lookup (tgt := 354) hx hb dX0_perform_1 (by decide) rfl (by decide) ?_
    refine lv_iload_n hx hb dX0_perform_354 rfl (lv_at hl 3 rfl) ?_
    refine lv_sipush (v := 4096) hx hb dX0_perform_355 (by decide) ?_
    refine lv_icmp_lt (tgt := 365) hx hb dX0_perform_358 (by decide) (fun c_358 => ?_) (fun c_358 => ?_)
    · refine lv_aload_n hx hb dX0_perform_365 rfl (lv_at hl 0 rfl) ?_
      refine lv_iload_n hx hb dX0_perform_366 rfl (lv_at hl 1 rfl) ?_
      refine lv_iload_n hx hb dX0_perform_367 rfl (lv_at hl 2 rfl) ?_
      refine lv_iload_n hx hb dX0_perform_368 rfl (lv_at hl 3 rfl) ?_
      refine w_go (rv := rv_i) (As := [.int 178, .int ac, .int e0]) (rest := []) ⟨hx, hb, hml, hown, hts⟩ (kX0_performOnMemory l D h a cA (u.1, u.2.1, u.2.2.1, u.2.2.2.1, u.2.2.2.2) ⟨hI.1, hI.2⟩ 178 ac e0 hac (vp_below he c_358 (by decide))) (cwV 3 hts gX0_perform_X0_performOnMemory rfl rfl rfl (by decide +kernel) ⟨by decide, by decide⟩) hK hP hD hS rfl hl.1 rfl (Nat.le_of_ble_eq_true rfl) dX0_perform_369 ⟨Nat.zero_le _, Nat.zero_le _⟩ (fun r_369 u_369 H locs q_369 hP hD hS => ?_)
      refine W.eq (g2 := F0 m 372 ls (.int r_369 :: [])) rfl ?_
      exact mm_iret (mw := wW h a cA) (u1 := (u_369.1, u_369.2.1, u_369.2.2.1, u_369.2.2.2.1, u_369.2.2.2.2)) hx hb hr hlocks hP hK hD hS dX0_perform_372 ⟨q_369.1, q_369.2⟩
    · refine lv_iconst (v := 2) hx hb dX0_perform_361 (by decide) ?_
      refine lv_goto (tgt := 372) hx hb dX0_perform_362 (by decide) ?_
      exact mm_iret (mw := wW h a cA) (u1 := (u.1, u.2.1, u.2.2.1, u.2.2.2.1, u.2.2.2.2)) hx hb hr hlocks hP hK hD hS dX0_perform_372 ⟨hI.1, hI.2⟩
  by_cases k_179 : op = 179
  · subst k_179
    refine lv_lookup (tgt := 348) hx hb dX0_perform_1 (by decide) rfl (by decide) ?_
    refine lv_aload_n hx hb dX0_perform_348 rfl (lv_at hl 0 rfl) ?_
    refine lv_iload_n hx hb dX0_perform_349 rfl (lv_at hl 2 rfl) ?_
    refine w_go (rv := rv_i) (As := [.int ac]) (rest := []) ⟨hx, hb, hml, hown, hts⟩ (kX0_popToPc l D h a cA (u.1, u.2.1, u.2.2.1, u.2.2.2.1, u.2.2.2.2) ⟨hI.1, hI.2⟩ ac hac) (cwV 1 hts gX0_perform_X0_popToPc rfl rfl rfl (by decide +kernel) ⟨by decide, by decide⟩) hK hP hD hS rfl hl.1 rfl (Nat.le_of_ble_eq_true rfl) dX0_perform_350 ⟨Nat.zero_le _, Nat.zero_le _⟩ (fun r_350 u_350 H locs q_350 hP hD hS => ?_)
    refine W.eq (g2 := F0 m 353 ls (.int r_350 :: [])) rfl ?_
    exact mm_iret (mw := wW h a cA) (u1 := (u_350.1, u_350.2.1, u_350.2.2.1, u_350.2.2.2.1, u_350.2.2.2.2)) hx hb hr hlocks hP hK hD hS dX0_perform_353 ⟨q_350.1, q_350.2⟩
  by_cases k_180 : op = 180
  · subst k_180
    refine lv_lookup (tgt := 354) hx hb dX0_perform_1 (by decide) rfl (by decide) ?_
    refine lv_iload_n hx hb dX0_perform_354 rfl (lv_at hl 3 rfl) ?_
    refine lv_sipush (v := 4096) hx hb dX0_perform_355 (by decide) ?_
    refine lv_icmp_lt (tgt := 365) hx hb dX0_perform_358 (by decide) (fun c_358 => ?_) (fun c_358 => ?_)
    · refine lv_aload_n hx hb dX0_perform_365 rfl (lv_at hl 0 rfl) ?_
      refine lv_iload_n hx hb dX0_perform_366 rfl (lv_at hl 1 rfl) ?_
      refine lv_iload_n hx hb dX0_perform_367 rfl (lv_at hl 2 rfl) ?_
      refine lv_iload_n hx hb dX0_perform_368 rfl (lv_at hl 3 rfl) ?_
      refine w_go (rv := rv_i) (As := [.int 180, .int ac, .int e0]) (rest := []) ⟨hx, hb, hml, hown, hts⟩ (kX0_performOnMemory l D h a cA (u.1, u.2.1, u.2.2.1, u.2.2.2.1, u.2.2.2.2) ⟨hI.1, hI.2⟩ 180 ac e0 hac (vp_below he c_358 (by decide))) (cwV 3 hts gX0_perform_X0_performOnMemory rfl rfl rfl (by decide +kernel) ⟨by decide, by decide⟩) hK hP hD hS rfl hl.1 rfl (Nat.le_of_ble_eq_true rfl) dX0_perform_369 ⟨Nat.zero_le _, Nat.zero_le _⟩ (fun r_369 u_369 H locs q_369 hP hD hS => ?_)
      refine W.eq (g2 := F0 m 372 ls (.int r_369 :: [])) rfl ?_
      exact mm_iret (mw := wW h a cA) (u1 := (u_369.1, u_369.2.1, u_369.2.2.1, u_369.2.2.2.1, u_369.2.2.2.2)) hx hb hr hlocks hP hK hD hS dX0_perform_372 ⟨q_369.1, q_369.2⟩
    · refine lv_iconst (v := 2) hx hb dX0_perform_361 (by decide) ?_
      refine lv_goto (tgt := 372) hx hb dX0_perform_362 (by decide) ?_
      exact mm_iret (mw := wW h a cA) (u1 := (u.1, u.2.1, u.2.2.1, u.2.2.2.1, u.2.2.2.2)) hx hb hr hlocks hP hK hD hS dX0_perform_372 ⟨hI.1, hI.2⟩
  by_cases k_184 : op = 184
  · subst k_184
    refine lv_lookup (tgt := 354) hx hb dX0_perform_1 (by decide) rfl (by decide) ?_
    refine lv_iload_n hx hb dX0_perform_354 rfl (lv_at hl 3 rfl) ?_
    refine lv_sipush (v := 4096) hx hb dX0_perform_355 (by decide) ?_
    refine lv_icmp_lt (tgt := 365) hx hb dX0_perform_358 (by decide) (fun c_358 => ?_) (fun c_358 => ?_)
    · refine lv_aload_n hx hb dX0_perform_365 rfl (lv_at hl 0 rfl) ?_
      refine lv_iload_n hx hb dX0_perform_366 rfl (lv_at hl 1 rfl) ?_
      refine lv_iload_n hx hb dX0_perform_367 rfl (lv_at hl 2 rfl) ?_
      refine lv_iload_n hx hb dX0_perform_368 rfl (lv_at hl 3 rfl) ?_
      refine w_go (rv := rv_i) (As := [.int 184, .int ac, .int e0]) (rest := []) ⟨hx, hb, hml, hown, hts⟩ (kX0_performOnMemory l D h a cA (u.1, u.2.1, u.2.2.1, u.2.2.2.1, u.2.2.2.2) ⟨hI.1, hI.2⟩ 184 ac e0 hac (vp_below he c_358 (by decide))) (cwV 3 hts gX0_perform_X0_performOnMemory rfl rfl rfl (by decide +kernel) ⟨by decide, by decide⟩) hK hP hD hS rfl hl.1 rfl (Nat.le_of_ble_eq_true rfl) dX0_perform_369 ⟨Nat.zero_le _, Nat.zero_le _⟩ (fun r_369 u_369 H locs q_369 hP hD hS => ?_)
      refine W.eq (g2 := F0 m 372 ls (.int r_369 :: [])) rfl ?_
      exact mm_iret (mw := wW h a cA) (u1 := (u_369.1, u_369.2.1, u_369.2.2.1, u_369.2.2.2.1, u_369.2.2.2.2)) hx hb hr hlocks hP hK hD hS dX0_perform_372 ⟨q_369.1, q_369.2⟩
    · refine lv_iconst (v := 2) hx hb dX0_perform_361 (by decide) ?_
      refine lv_goto (tgt := 372) hx hb dX0_perform_362 (by decide) ?_
      exact mm_iret (mw := wW h a cA) (u1 := (u.1, u.2.1, u.2.2.1, u.2.2.2.1, u.2.2.2.2)) hx hb hr hlocks hP hK hD hS dX0_perform_372 ⟨hI.1, hI.2⟩
  by_cases k_185 : op = 185
  · subst k_185
    refine lv_lookup (tgt := 318) hx hb dX0_perform_1 (by decide) rfl (by decide) ?_
    refine lv_aload_n hx hb dX0_perform_318 rfl (lv_at hl 0 rfl) ?_
    refine lv_iload_n hx hb dX0_perform_319 rfl (lv_at hl 1 rfl) ?_
    refine lv_iload_n hx hb dX0_perform_320 rfl (lv_at hl 2 rfl) ?_
    refine lv_iload_n hx hb dX0_perform_321 rfl (lv_at hl 3 rfl) ?_
    refine lv_i2l hx hb dX0_perform_322 rfl ?_
    refine w_go (rv := rv_i) (As := [.int 185, .int ac, .long ((e0 : Int32).toInt64)]) (rest := []) ⟨hx, hb, hml, hown, hts⟩ (kX0_combine l D h a cA (u.1, u.2.1, u.2.2.1, u.2.2.2.1, u.2.2.2.2) ⟨hI.1, hI.2⟩ 185 ac ((e0 : Int32).toInt64) hac) (cwV 3 hts gX0_perform_X0_combine rfl rfl rfl (by decide +kernel) ⟨by decide, by decide⟩) hK hP hD hS rfl hl.1 rfl (Nat.le_of_ble_eq_true rfl) dX0_perform_323 ⟨Nat.zero_le _, Nat.zero_le _⟩ (fun r_323 u_323 H locs q_323 hP hD hS => ?_)
    refine W.eq (g2 := F0 m 326 ls (.int r_323 :: [])) rfl ?_
    exact mm_iret (mw := wW h a cA) (u1 := (u_323.1, u_323.2.1, u_323.2.2.1, u_323.2.2.2.1, u_323.2.2.2.2)) hx hb hr hlocks hP hK hD hS dX0_perform_326 ⟨q_323.1, q_323.2⟩
  by_cases k_188 : op = 188
  · subst k_188
    refine lv_lookup (tgt := 354) hx hb dX0_perform_1 (by decide) rfl (by decide) ?_
    refine lv_iload_n hx hb dX0_perform_354 rfl (lv_at hl 3 rfl) ?_
    refine lv_sipush (v := 4096) hx hb dX0_perform_355 (by decide) ?_
    refine lv_icmp_lt (tgt := 365) hx hb dX0_perform_358 (by decide) (fun c_358 => ?_) (fun c_358 => ?_)
    · refine lv_aload_n hx hb dX0_perform_365 rfl (lv_at hl 0 rfl) ?_
      refine lv_iload_n hx hb dX0_perform_366 rfl (lv_at hl 1 rfl) ?_
      refine lv_iload_n hx hb dX0_perform_367 rfl (lv_at hl 2 rfl) ?_
      refine lv_iload_n hx hb dX0_perform_368 rfl (lv_at hl 3 rfl) ?_
      refine w_go (rv := rv_i) (As := [.int 188, .int ac, .int e0]) (rest := []) ⟨hx, hb, hml, hown, hts⟩ (kX0_performOnMemory l D h a cA (u.1, u.2.1, u.2.2.1, u.2.2.2.1, u.2.2.2.2) ⟨hI.1, hI.2⟩ 188 ac e0 hac (vp_below he c_358 (by decide))) (cwV 3 hts gX0_perform_X0_performOnMemory rfl rfl rfl (by decide +kernel) ⟨by decide, by decide⟩) hK hP hD hS rfl hl.1 rfl (Nat.le_of_ble_eq_true rfl) dX0_perform_369 ⟨Nat.zero_le _, Nat.zero_le _⟩ (fun r_369 u_369 H locs q_369 hP hD hS => ?_)
      refine W.eq (g2 := F0 m 372 ls (.int r_369 :: [])) rfl ?_
      exact mm_iret (mw := wW h a cA) (u1 := (u_369.1, u_369.2.1, u_369.2.2.1, u_369.2.2.2.1, u_369.2.2.2.2)) hx hb hr hlocks hP hK hD hS dX0_perform_372 ⟨q_369.1, q_369.2⟩
    · refine lv_iconst (v := 2) hx hb dX0_perform_361 (by decide) ?_
      refine lv_goto (tgt := 372) hx hb dX0_perform_362 (by decide) ?_
      exact mm_iret (mw := wW h a cA) (u1 := (u.1, u.2.1, u.2.2.1, u.2.2.2.1, u.2.2.2.2)) hx hb hr hlocks hP hK hD hS dX0_perform_372 ⟨hI.1, hI.2⟩
  by_cases k_189 : op = 189
  · subst k_189
    refine lv_lookup (tgt := 318) hx hb dX0_perform_1 (by decide) rfl (by decide) ?_
    refine lv_aload_n hx hb dX0_perform_318 rfl (lv_at hl 0 rfl) ?_
    refine lv_iload_n hx hb dX0_perform_319 rfl (lv_at hl 1 rfl) ?_
    refine lv_iload_n hx hb dX0_perform_320 rfl (lv_at hl 2 rfl) ?_
    refine lv_iload_n hx hb dX0_perform_321 rfl (lv_at hl 3 rfl) ?_
    refine lv_i2l hx hb dX0_perform_322 rfl ?_
    refine w_go (rv := rv_i) (As := [.int 189, .int ac, .long ((e0 : Int32).toInt64)]) (rest := []) ⟨hx, hb, hml, hown, hts⟩ (kX0_combine l D h a cA (u.1, u.2.1, u.2.2.1, u.2.2.2.1, u.2.2.2.2) ⟨hI.1, hI.2⟩ 189 ac ((e0 : Int32).toInt64) hac) (cwV 3 hts gX0_perform_X0_combine rfl rfl rfl (by decide +kernel) ⟨by decide, by decide⟩) hK hP hD hS rfl hl.1 rfl (Nat.le_of_ble_eq_true rfl) dX0_perform_323 ⟨Nat.zero_le _, Nat.zero_le _⟩ (fun r_323 u_323 H locs q_323 hP hD hS => ?_)
    refine W.eq (g2 := F0 m 326 ls (.int r_323 :: [])) rfl ?_
    exact mm_iret (mw := wW h a cA) (u1 := (u_323.1, u_323.2.1, u_323.2.2.1, u_323.2.2.2.1, u_323.2.2.2.2)) hx hb hr hlocks hP hK hD hS dX0_perform_326 ⟨q_323.1, q_323.2⟩
  by_cases k_256 : op = 256
  · subst k_256
    refine lv_lookup (tgt := 318) hx hb dX0_perform_1 (by decide) rfl (by decide) ?_
    refine lv_aload_n hx hb dX0_perform_318 rfl (lv_at hl 0 rfl) ?_
    refine lv_iload_n hx hb dX0_perform_319 rfl (lv_at hl 1 rfl) ?_
    refine lv_iload_n hx hb dX0_perform_320 rfl (lv_at hl 2 rfl) ?_
    refine lv_iload_n hx hb dX0_perform_321 rfl (lv_at hl 3 rfl) ?_
    refine lv_i2l hx hb dX0_perform_322 rfl ?_
    refine w_go (rv := rv_i) (As := [.int 256, .int ac, .long ((e0 : Int32).toInt64)]) (rest := []) ⟨hx, hb, hml, hown, hts⟩ (kX0_combine l D h a cA (u.1, u.2.1, u.2.2.1, u.2.2.2.1, u.2.2.2.2) ⟨hI.1, hI.2⟩ 256 ac ((e0 : Int32).toInt64) hac) (cwV 3 hts gX0_perform_X0_combine rfl rfl rfl (by decide +kernel) ⟨by decide, by decide⟩) hK hP hD hS rfl hl.1 rfl (Nat.le_of_ble_eq_true rfl) dX0_perform_323 ⟨Nat.zero_le _, Nat.zero_le _⟩ (fun r_323 u_323 H locs q_323 hP hD hS => ?_)
    refine W.eq (g2 := F0 m 326 ls (.int r_323 :: [])) rfl ?_
    exact mm_iret (mw := wW h a cA) (u1 := (u_323.1, u_323.2.1, u_323.2.2.1, u_323.2.2.2.1, u_323.2.2.2.2)) hx hb hr hlocks hP hK hD hS dX0_perform_326 ⟨q_323.1, q_323.2⟩
  by_cases k_258 : op = 258
  · subst k_258
    refine lv_lookup (tgt := 354) hx hb dX0_perform_1 (by decide) rfl (by decide) ?_
    refine lv_iload_n hx hb dX0_perform_354 rfl (lv_at hl 3 rfl) ?_
    refine lv_sipush (v := 4096) hx hb dX0_perform_355 (by decide) ?_
    refine lv_icmp_lt (tgt := 365) hx hb dX0_perform_358 (by decide) (fun c_358 => ?_) (fun c_358 => ?_)
    · refine lv_aload_n hx hb dX0_perform_365 rfl (lv_at hl 0 rfl) ?_
      refine lv_iload_n hx hb dX0_perform_366 rfl (lv_at hl 1 rfl) ?_
      refine lv_iload_n hx hb dX0_perform_367 rfl (lv_at hl 2 rfl) ?_
      refine lv_iload_n hx hb dX0_perform_368 rfl (lv_at hl 3 rfl) ?_
      refine w_go (rv := rv_i) (As := [.int 258, .int ac, .int e0]) (rest := []) ⟨hx, hb, hml, hown, hts⟩ (kX0_performOnMemory l D h a cA (u.1, u.2.1, u.2.2.1, u.2.2.2.1, u.2.2.2.2) ⟨hI.1, hI.2⟩ 258 ac e0 hac (vp_below he c_358 (by decide))) (cwV 3 hts gX0_perform_X0_performOnMemory rfl rfl rfl (by decide +kernel) ⟨by decide, by decide⟩) hK hP hD hS rfl hl.1 rfl (Nat.le_of_ble_eq_true rfl) dX0_perform_369 ⟨Nat.zero_le _, Nat.zero_le _⟩ (fun r_369 u_369 H locs q_369 hP hD hS => ?_)
      refine W.eq (g2 := F0 m 372 ls (.int r_369 :: [])) rfl ?_
      exact mm_iret (mw := wW h a cA) (u1 := (u_369.1, u_369.2.1, u_369.2.2.1, u_369.2.2.2.1, u_369.2.2.2.2)) hx hb hr hlocks hP hK hD hS dX0_perform_372 ⟨q_369.1, q_369.2⟩
    · refine lv_iconst (v := 2) hx hb dX0_perform_361 (by decide) ?_
      refine lv_goto (tgt := 372) hx hb dX0_perform_362 (by decide) ?_
      exact mm_iret (mw := wW h a cA) (u1 := (u.1, u.2.1, u.2.2.1, u.2.2.2.1, u.2.2.2.2)) hx hb hr hlocks hP hK hD hS dX0_perform_372 ⟨hI.1, hI.2⟩
  by_cases k_260 : op = 260
  · subst k_260
    refine lv_lookup (tgt := 354) hx hb dX0_perform_1 (by decide) rfl (by decide) ?_
    refine lv_iload_n hx hb dX0_perform_354 rfl (lv_at hl 3 rfl) ?_
    refine lv_sipush (v := 4096) hx hb dX0_perform_355 (by decide) ?_
    refine lv_icmp_lt (tgt := 365) hx hb dX0_perform_358 (by decide) (fun c_358 => ?_) (fun c_358 => ?_)
    · refine lv_aload_n hx hb dX0_perform_365 rfl (lv_at hl 0 rfl) ?_
      refine lv_iload_n hx hb dX0_perform_366 rfl (lv_at hl 1 rfl) ?_
      refine lv_iload_n hx hb dX0_perform_367 rfl (lv_at hl 2 rfl) ?_
      refine lv_iload_n hx hb dX0_perform_368 rfl (lv_at hl 3 rfl) ?_
      refine w_go (rv := rv_i) (As := [.int 260, .int ac, .int e0]) (rest := []) ⟨hx, hb, hml, hown, hts⟩ (kX0_performOnMemory l D h a cA (u.1, u.2.1, u.2.2.1, u.2.2.2.1, u.2.2.2.2) ⟨hI.1, hI.2⟩ 260 ac e0 hac (vp_below he c_358 (by decide))) (cwV 3 hts gX0_perform_X0_performOnMemory rfl rfl rfl (by decide +kernel) ⟨by decide, by decide⟩) hK hP hD hS rfl hl.1 rfl (Nat.le_of_ble_eq_true rfl) dX0_perform_369 ⟨Nat.zero_le _, Nat.zero_le _⟩ (fun r_369 u_369 H locs q_369 hP hD hS => ?_)
      refine W.eq (g2 := F0 m 372 ls (.int r_369 :: [])) rfl ?_
      exact mm_iret (mw := wW h a cA) (u1 := (u_369.1, u_369.2.1, u_369.2.2.1, u_369.2.2.2.1, u_369.2.2.2.2)) hx hb hr hlocks hP hK hD hS dX0_perform_372 ⟨q_369.1, q_369.2⟩
    · refine lv_iconst (v := 2) hx hb dX0_perform_361 (by decide) ?_
      refine lv_goto (tgt := 372) hx hb dX0_perform_362 (by decide) ?_
      exact mm_iret (mw := wW h a cA) (u1 := (u.1, u.2.1, u.2.2.1, u.2.2.2.1, u.2.2.2.2)) hx hb hr hlocks hP hK hD hS dX0_perform_372 ⟨hI.1, hI.2⟩
  by_cases k_261 : op = 261
  · subst k_261
    refine lv_lookup (tgt := 318) hx hb dX0_perform_1 (by decide) rfl (by decide) ?_
    refine lv_aload_n hx hb dX0_perform_318 rfl (lv_at hl 0 rfl) ?_
    refine lv_iload_n hx hb dX0_perform_319 rfl (lv_at hl 1 rfl) ?_
    refine lv_iload_n hx hb dX0_perform_320 rfl (lv_at hl 2 rfl) ?_
    refine lv_iload_n hx hb dX0_perform_321 rfl (lv_at hl 3 rfl) ?_
    refine lv_i2l hx hb dX0_perform_322 rfl ?_
    refine w_go (rv := rv_i) (As := [.int 261, .int ac, .long ((e0 : Int32).toInt64)]) (rest := []) ⟨hx, hb, hml, hown, hts⟩ (kX0_combine l D h a cA (u.1, u.2.1, u.2.2.1, u.2.2.2.1, u.2.2.2.2) ⟨hI.1, hI.2⟩ 261 ac ((e0 : Int32).toInt64) hac) (cwV 3 hts gX0_perform_X0_combine rfl rfl rfl (by decide +kernel) ⟨by decide, by decide⟩) hK hP hD hS rfl hl.1 rfl (Nat.le_of_ble_eq_true rfl) dX0_perform_323 ⟨Nat.zero_le _, Nat.zero_le _⟩ (fun r_323 u_323 H locs q_323 hP hD hS => ?_)
    refine W.eq (g2 := F0 m 326 ls (.int r_323 :: [])) rfl ?_
    exact mm_iret (mw := wW h a cA) (u1 := (u_323.1, u_323.2.1, u_323.2.2.1, u_323.2.2.2.1, u_323.2.2.2.2)) hx hb hr hlocks hP hK hD hS dX0_perform_326 ⟨q_323.1, q_323.2⟩
  by_cases k_280 : op = 280
  · subst k_280
    refine lv_lookup (tgt := 354) hx hb dX0_perform_1 (by decide) rfl (by decide) ?_
    refine lv_iload_n hx hb dX0_perform_354 rfl (lv_at hl 3 rfl) ?_
    refine lv_sipush (v := 4096) hx hb dX0_perform_355 (by decide) ?_
    refine lv_icmp_lt (tgt := 365) hx hb dX0_perform_358 (by decide) (fun c_358 => ?_) (fun c_358 => ?_)
    · refine lv_aload_n hx hb dX0_perform_365 rfl (lv_at hl 0 rfl) ?_
      refine lv_iload_n hx hb dX0_perform_366 rfl (lv_at hl 1 rfl) ?_
      refine lv_iload_n hx hb dX0_perform_367 rfl (lv_at hl 2 rfl) ?_
      refine lv_iload_n hx hb dX0_perform_368 rfl (lv_at hl 3 rfl) ?_
      refine w_go (rv := rv_i) (As := [.int 280, .int ac, .int e0]) (rest := []) ⟨hx, hb, hml, hown, hts⟩ (kX0_performOnMemory l D h a cA (u.1, u.2.1, u.2.2.1, u.2.2.2.1, u.2.2.2.2) ⟨hI.1, hI.2⟩ 280 ac e0 hac (vp_below he c_358 (by decide))) (cwV 3 hts gX0_perform_X0_performOnMemory rfl rfl rfl (by decide +kernel) ⟨by decide, by decide⟩) hK hP hD hS rfl hl.1 rfl (Nat.le_of_ble_eq_true rfl) dX0_perform_369 ⟨Nat.zero_le _, Nat.zero_le _⟩ (fun r_369 u_369 H locs q_369 hP hD hS => ?_)
      refine W.eq (g2 := F0 m 372 ls (.int r_369 :: [])) rfl ?_
      exact mm_iret (mw := wW h a cA) (u1 := (u_369.1, u_369.2.1, u_369.2.2.1, u_369.2.2.2.1, u_369.2.2.2.2)) hx hb hr hlocks hP hK hD hS dX0_perform_372 ⟨q_369.1, q_369.2⟩
    · refine lv_iconst (v := 2) hx hb dX0_perform_361 (by decide) ?_
      refine lv_goto (tgt := 372) hx hb dX0_perform_362 (by decide) ?_
      exact mm_iret (mw := wW h a cA) (u1 := (u.1, u.2.1, u.2.2.1, u.2.2.2.1, u.2.2.2.2)) hx hb hr hlocks hP hK hD hS dX0_perform_372 ⟨hI.1, hI.2⟩
  by_cases k_281 : op = 281
  · subst k_281
    refine lv_lookup (tgt := 318) hx hb dX0_perform_1 (by decide) rfl (by decide) ?_
    refine lv_aload_n hx hb dX0_perform_318 rfl (lv_at hl 0 rfl) ?_
    refine lv_iload_n hx hb dX0_perform_319 rfl (lv_at hl 1 rfl) ?_
    refine lv_iload_n hx hb dX0_perform_320 rfl (lv_at hl 2 rfl) ?_
    refine lv_iload_n hx hb dX0_perform_321 rfl (lv_at hl 3 rfl) ?_
    refine lv_i2l hx hb dX0_perform_322 rfl ?_
    refine w_go (rv := rv_i) (As := [.int 281, .int ac, .long ((e0 : Int32).toInt64)]) (rest := []) ⟨hx, hb, hml, hown, hts⟩ (kX0_combine l D h a cA (u.1, u.2.1, u.2.2.1, u.2.2.2.1, u.2.2.2.2) ⟨hI.1, hI.2⟩ 281 ac ((e0 : Int32).toInt64) hac) (cwV 3 hts gX0_perform_X0_combine rfl rfl rfl (by decide +kernel) ⟨by decide, by decide⟩) hK hP hD hS rfl hl.1 rfl (Nat.le_of_ble_eq_true rfl) dX0_perform_323 ⟨Nat.zero_le _, Nat.zero_le _⟩ (fun r_323 u_323 H locs q_323 hP hD hS => ?_)
    refine W.eq (g2 := F0 m 326 ls (.int r_323 :: [])) rfl ?_
    exact mm_iret (mw := wW h a cA) (u1 := (u_323.1, u_323.2.1, u_323.2.2.1, u_323.2.2.2.1, u_323.2.2.2.2)) hx hb hr hlocks hP hK hD hS dX0_perform_326 ⟨q_323.1, q_323.2⟩
  by_cases k_284 : op = 284
  · subst k_284
    refine lv_lookup (tgt := 354) hx hb dX0_perform_1 (by decide) rfl (by decide) ?_
    refine lv_iload_n hx hb dX0_perform_354 rfl (lv_at hl 3 rfl) ?_
    refine lv_sipush (v := 4096) hx hb dX0_perform_355 (by decide) ?_
    refine lv_icmp_lt (tgt := 365) hx hb dX0_perform_358 (by decide) (fun c_358 => ?_) (fun c_358 => ?_)
    · refine lv_aload_n hx hb dX0_perform_365 rfl (lv_at hl 0 rfl) ?_
      refine lv_iload_n hx hb dX0_perform_366 rfl (lv_at hl 1 rfl) ?_
      refine lv_iload_n hx hb dX0_perform_367 rfl (lv_at hl 2 rfl) ?_
      refine lv_iload_n hx hb dX0_perform_368 rfl (lv_at hl 3 rfl) ?_
      refine w_go (rv := rv_i) (As := [.int 284, .int ac, .int e0]) (rest := []) ⟨hx, hb, hml, hown, hts⟩ (kX0_performOnMemory l D h a cA (u.1, u.2.1, u.2.2.1, u.2.2.2.1, u.2.2.2.2) ⟨hI.1, hI.2⟩ 284 ac e0 hac (vp_below he c_358 (by decide))) (cwV 3 hts gX0_perform_X0_performOnMemory rfl rfl rfl (by decide +kernel) ⟨by decide, by decide⟩) hK hP hD hS rfl hl.1 rfl (Nat.le_of_ble_eq_true rfl) dX0_perform_369 ⟨Nat.zero_le _, Nat.zero_le _⟩ (fun r_369 u_369 H locs q_369 hP hD hS => ?_)
      refine W.eq (g2 := F0 m 372 ls (.int r_369 :: [])) rfl ?_
      exact mm_iret (mw := wW h a cA) (u1 := (u_369.1, u_369.2.1, u_369.2.2.1, u_369.2.2.2.1, u_369.2.2.2.2)) hx hb hr hlocks hP hK hD hS dX0_perform_372 ⟨q_369.1, q_369.2⟩
    · refine lv_iconst (v := 2) hx hb dX0_perform_361 (by decide) ?_
      refine lv_goto (tgt := 372) hx hb dX0_perform_362 (by decide) ?_
      exact mm_iret (mw := wW h a cA) (u1 := (u.1, u.2.1, u.2.2.1, u.2.2.2.1, u.2.2.2.2)) hx hb hr hlocks hP hK hD hS dX0_perform_372 ⟨hI.1, hI.2⟩
  by_cases k_285 : op = 285
  · subst k_285
    refine lv_lookup (tgt := 318) hx hb dX0_perform_1 (by decide) rfl (by decide) ?_
    refine lv_aload_n hx hb dX0_perform_318 rfl (lv_at hl 0 rfl) ?_
    refine lv_iload_n hx hb dX0_perform_319 rfl (lv_at hl 1 rfl) ?_
    refine lv_iload_n hx hb dX0_perform_320 rfl (lv_at hl 2 rfl) ?_
    refine lv_iload_n hx hb dX0_perform_321 rfl (lv_at hl 3 rfl) ?_
    refine lv_i2l hx hb dX0_perform_322 rfl ?_
    refine w_go (rv := rv_i) (As := [.int 285, .int ac, .long ((e0 : Int32).toInt64)]) (rest := []) ⟨hx, hb, hml, hown, hts⟩ (kX0_combine l D h a cA (u.1, u.2.1, u.2.2.1, u.2.2.2.1, u.2.2.2.2) ⟨hI.1, hI.2⟩ 285 ac ((e0 : Int32).toInt64) hac) (cwV 3 hts gX0_perform_X0_combine rfl rfl rfl (by decide +kernel) ⟨by decide, by decide⟩) hK hP hD hS rfl hl.1 rfl (Nat.le_of_ble_eq_true rfl) dX0_perform_323 ⟨Nat.zero_le _, Nat.zero_le _⟩ (fun r_323 u_323 H locs q_323 hP hD hS => ?_)
    refine W.eq (g2 := F0 m 326 ls (.int r_323 :: [])) rfl ?_
    exact mm_iret (mw := wW h a cA) (u1 := (u_323.1, u_323.2.1, u_323.2.2.1, u_323.2.2.2.1, u_323.2.2.2.2)) hx hb hr hlocks hP hK hD hS dX0_perform_326 ⟨q_323.1, q_323.2⟩
  by_cases k_296 : op = 296
  · subst k_296
    refine lv_lookup (tgt := 318) hx hb dX0_perform_1 (by decide) rfl (by decide) ?_
    refine lv_aload_n hx hb dX0_perform_318 rfl (lv_at hl 0 rfl) ?_
    refine lv_iload_n hx hb dX0_perform_319 rfl (lv_at hl 1 rfl) ?_
    refine lv_iload_n hx hb dX0_perform_320 rfl (lv_at hl 2 rfl) ?_
    refine lv_iload_n hx hb dX0_perform_321 rfl (lv_at hl 3 rfl) ?_
    refine lv_i2l hx hb dX0_perform_322 rfl ?_
    refine w_go (rv := rv_i) (As := [.int 296, .int ac, .long ((e0 : Int32).toInt64)]) (rest := []) ⟨hx, hb, hml, hown, hts⟩ (kX0_combine l D h a cA (u.1, u.2.1, u.2.2.1, u.2.2.2.1, u.2.2.2.2) ⟨hI.1, hI.2⟩ 296 ac ((e0 : Int32).toInt64) hac) (cwV 3 hts gX0_perform_X0_combine rfl rfl rfl (by decide +kernel) ⟨by decide, by decide⟩) hK hP hD hS rfl hl.1 rfl (Nat.le_of_ble_eq_true rfl) dX0_perform_323 ⟨Nat.zero_le _, Nat.zero_le _⟩ (fun r_323 u_323 H locs q_323 hP hD hS => ?_)
    refine W.eq (g2 := F0 m 326 ls (.int r_323 :: [])) rfl ?_
    exact mm_iret (mw := wW h a cA) (u1 := (u_323.1, u_323.2.1, u_323.2.2.1, u_323.2.2.2.1, u_323.2.2.2.2)) hx hb hr hlocks hP hK hD hS dX0_perform_326 ⟨q_323.1, q_323.2⟩
  by_cases k_320 : op = 320
  · subst k_320
    refine lv_lookup (tgt := 354) hx hb dX0_perform_1 (by decide) rfl (by decide) ?_
    refine lv_iload_n hx hb dX0_perform_354 rfl (lv_at hl 3 rfl) ?_
    refine lv_sipush (v := 4096) hx hb dX0_perform_355 (by decide) ?_
    refine lv_icmp_lt (tgt := 365) hx hb dX0_perform_358 (by decide) (fun c_358 => ?_) (fun c_358 => ?_)
    · refine lv_aload_n hx hb dX0_perform_365 rfl (lv_at hl 0 rfl) ?_
      refine lv_iload_n hx hb dX0_perform_366 rfl (lv_at hl 1 rfl) ?_
      refine lv_iload_n hx hb dX0_perform_367 rfl (lv_at hl 2 rfl) ?_
      refine lv_iload_n hx hb dX0_perform_368 rfl (lv_at hl 3 rfl) ?_
      refine w_go (rv := rv_i) (As := [.int 320, .int ac, .int e0]) (rest := []) ⟨hx, hb, hml, hown, hts⟩ (kX0_performOnMemory l D h a cA (u.1, u.2.1, u.2.2.1, u.2.2.2.1, u.2.2.2.2) ⟨hI.1, hI.2⟩ 320 ac e0 hac (vp_below he c_358 (by decide))) (cwV 3 hts gX0_perform_X0_performOnMemory rfl rfl rfl (by decide +kernel) ⟨by decide, by decide⟩) hK hP hD hS rfl hl.1 rfl (Nat.le_of_ble_eq_true rfl) dX0_perform_369 ⟨Nat.zero_le _, Nat.zero_le _⟩ (fun r_369 u_369 H locs q_369 hP hD hS => ?_)
      refine W.eq (g2 := F0 m 372 ls (.int r_369 :: [])) rfl ?_
      exact mm_iret (mw := wW h a cA) (u1 := (u_369.1, u_369.2.1, u_369.2.2.1, u_369.2.2.2.1, u_369.2.2.2.2)) hx hb hr hlocks hP hK hD hS dX0_perform_372 ⟨q_369.1, q_369.2⟩
    · refine lv_iconst (v := 2) hx hb dX0_perform_361 (by decide) ?_
      refine lv_goto (tgt := 372) hx hb dX0_perform_362 (by decide) ?_
      exact mm_iret (mw := wW h a cA) (u1 := (u.1, u.2.1, u.2.2.1, u.2.2.2.1, u.2.2.2.2)) hx hb hr hlocks hP hK hD hS dX0_perform_372 ⟨hI.1, hI.2⟩
  by_cases k_324 : op = 324
  · subst k_324
    refine lv_lookup (tgt := 354) hx hb dX0_perform_1 (by decide) rfl (by decide) ?_
    refine lv_iload_n hx hb dX0_perform_354 rfl (lv_at hl 3 rfl) ?_
    refine lv_sipush (v := 4096) hx hb dX0_perform_355 (by decide) ?_
    refine lv_icmp_lt (tgt := 365) hx hb dX0_perform_358 (by decide) (fun c_358 => ?_) (fun c_358 => ?_)
    · refine lv_aload_n hx hb dX0_perform_365 rfl (lv_at hl 0 rfl) ?_
      refine lv_iload_n hx hb dX0_perform_366 rfl (lv_at hl 1 rfl) ?_
      refine lv_iload_n hx hb dX0_perform_367 rfl (lv_at hl 2 rfl) ?_
      refine lv_iload_n hx hb dX0_perform_368 rfl (lv_at hl 3 rfl) ?_
      refine w_go (rv := rv_i) (As := [.int 324, .int ac, .int e0]) (rest := []) ⟨hx, hb, hml, hown, hts⟩ (kX0_performOnMemory l D h a cA (u.1, u.2.1, u.2.2.1, u.2.2.2.1, u.2.2.2.2) ⟨hI.1, hI.2⟩ 324 ac e0 hac (vp_below he c_358 (by decide))) (cwV 3 hts gX0_perform_X0_performOnMemory rfl rfl rfl (by decide +kernel) ⟨by decide, by decide⟩) hK hP hD hS rfl hl.1 rfl (Nat.le_of_ble_eq_true rfl) dX0_perform_369 ⟨Nat.zero_le _, Nat.zero_le _⟩ (fun r_369 u_369 H locs q_369 hP hD hS => ?_)
      refine W.eq (g2 := F0 m 372 ls (.int r_369 :: [])) rfl ?_
      exact mm_iret (mw := wW h a cA) (u1 := (u_369.1, u_369.2.1, u_369.2.2.1, u_369.2.2.2.1, u_369.2.2.2.2)) hx hb hr hlocks hP hK hD hS dX0_perform_372 ⟨q_369.1, q_369.2⟩
    · refine lv_iconst (v := 2) hx hb dX0_perform_361 (by decide) ?_
      refine lv_goto (tgt := 372) hx hb dX0_perform_362 (by decide) ?_
      exact mm_iret (mw := wW h a cA) (u1 := (u.1, u.2.1, u.2.2.1, u.2.2.2.1, u.2.2.2.2)) hx hb hr hlocks hP hK hD hS dX0_perform_372 ⟨hI.1, hI.2⟩
  by_cases k_352 : op = 352
  · subst k_352
    refine lv_lookup (tgt := 354) hx hb dX0_perform_1 (by decide) rfl (by decide) ?_
    refine lv_iload_n hx hb dX0_perform_354 rfl (lv_at hl 3 rfl) ?_
    refine lv_sipush (v := 4096) hx hb dX0_perform_355 (by decide) ?_
    refine lv_icmp_lt (tgt := 365) hx hb dX0_perform_358 (by decide) (fun c_358 => ?_) (fun c_358 => ?_)
    · refine lv_aload_n hx hb dX0_perform_365 rfl (lv_at hl 0 rfl) ?_
      refine lv_iload_n hx hb dX0_perform_366 rfl (lv_at hl 1 rfl) ?_
      refine lv_iload_n hx hb dX0_perform_367 rfl (lv_at hl 2 rfl) ?_
      refine lv_iload_n hx hb dX0_perform_368 rfl (lv_at hl 3 rfl) ?_
      refine w_go (rv := rv_i) (As := [.int 352, .int ac, .int e0]) (rest := []) ⟨hx, hb, hml, hown, hts⟩ (kX0_performOnMemory l D h a cA (u.1, u.2.1, u.2.2.1, u.2.2.2.1, u.2.2.2.2) ⟨hI.1, hI.2⟩ 352 ac e0 hac (vp_below he c_358 (by decide))) (cwV 3 hts gX0_perform_X0_performOnMemory rfl rfl rfl (by decide +kernel) ⟨by decide, by decide⟩) hK hP hD hS rfl hl.1 rfl (Nat.le_of_ble_eq_true rfl) dX0_perform_369 ⟨Nat.zero_le _, Nat.zero_le _⟩ (fun r_369 u_369 H locs q_369 hP hD hS => ?_)
      refine W.eq (g2 := F0 m 372 ls (.int r_369 :: [])) rfl ?_
      exact mm_iret (mw := wW h a cA) (u1 := (u_369.1, u_369.2.1, u_369.2.2.1, u_369.2.2.2.1, u_369.2.2.2.2)) hx hb hr hlocks hP hK hD hS dX0_perform_372 ⟨q_369.1, q_369.2⟩
    · refine lv_iconst (v := 2) hx hb dX0_perform_361 (by decide) ?_
      refine lv_goto (tgt := 372) hx hb dX0_perform_362 (by decide) ?_
      exact mm_iret (mw := wW h a cA) (u1 := (u.1, u.2.1, u.2.2.1, u.2.2.2.1, u.2.2.2.2)) hx hb hr hlocks hP hK hD hS dX0_perform_372 ⟨hI.1, hI.2⟩
  by_cases k_356 : op = 356
  · subst k_356
    refine lv_lookup (tgt := 354) hx hb dX0_perform_1 (by decide) rfl (by decide) ?_
    refine lv_iload_n hx hb dX0_perform_354 rfl (lv_at hl 3 rfl) ?_
    refine lv_sipush (v := 4096) hx hb dX0_perform_355 (by decide) ?_
    refine lv_icmp_lt (tgt := 365) hx hb dX0_perform_358 (by decide) (fun c_358 => ?_) (fun c_358 => ?_)
    · refine lv_aload_n hx hb dX0_perform_365 rfl (lv_at hl 0 rfl) ?_
      refine lv_iload_n hx hb dX0_perform_366 rfl (lv_at hl 1 rfl) ?_
      refine lv_iload_n hx hb dX0_perform_367 rfl (lv_at hl 2 rfl) ?_
      refine lv_iload_n hx hb dX0_perform_368 rfl (lv_at hl 3 rfl) ?_
      refine w_go (rv := rv_i) (As := [.int 356, .int ac, .int e0]) (rest := []) ⟨hx, hb, hml, hown, hts⟩ (kX0_performOnMemory l D h a cA (u.1, u.2.1, u.2.2.1, u.2.2.2.1, u.2.2.2.2) ⟨hI.1, hI.2⟩ 356 ac e0 hac (vp_below he c_358 (by decide))) (cwV 3 hts gX0_perform_X0_performOnMemory rfl rfl rfl (by decide +kernel) ⟨by decide, by decide⟩) hK hP hD hS rfl hl.1 rfl (Nat.le_of_ble_eq_true rfl) dX0_perform_369 ⟨Nat.zero_le _, Nat.zero_le _⟩ (fun r_369 u_369 H locs q_369 hP hD hS => ?_)
      refine W.eq (g2 := F0 m 372 ls (.int r_369 :: [])) rfl ?_
      exact mm_iret (mw := wW h a cA) (u1 := (u_369.1, u_369.2.1, u_369.2.2.1, u_369.2.2.2.1, u_369.2.2.2.2)) hx hb hr hlocks hP hK hD hS dX0_perform_372 ⟨q_369.1, q_369.2⟩
    · refine lv_iconst (v := 2) hx hb dX0_perform_361 (by decide) ?_
      refine lv_goto (tgt := 372) hx hb dX0_perform_362 (by decide) ?_
      exact mm_iret (mw := wW h a cA) (u1 := (u.1, u.2.1, u.2.2.1, u.2.2.2.1, u.2.2.2.2)) hx hb hr hlocks hP hK hD hS dX0_perform_372 ⟨hI.1, hI.2⟩
  by_cases k_360 : op = 360
  · subst k_360
    refine lv_lookup (tgt := 354) hx hb dX0_perform_1 (by decide) rfl (by decide) ?_
    refine lv_iload_n hx hb dX0_perform_354 rfl (lv_at hl 3 rfl) ?_
    refine lv_sipush (v := 4096) hx hb dX0_perform_355 (by decide) ?_
    refine lv_icmp_lt (tgt := 365) hx hb dX0_perform_358 (by decide) (fun c_358 => ?_) (fun c_358 => ?_)
    · refine lv_aload_n hx hb dX0_perform_365 rfl (lv_at hl 0 rfl) ?_
      refine lv_iload_n hx hb dX0_perform_366 rfl (lv_at hl 1 rfl) ?_
      refine lv_iload_n hx hb dX0_perform_367 rfl (lv_at hl 2 rfl) ?_
      refine lv_iload_n hx hb dX0_perform_368 rfl (lv_at hl 3 rfl) ?_
      refine w_go (rv := rv_i) (As := [.int 360, .int ac, .int e0]) (rest := []) ⟨hx, hb, hml, hown, hts⟩ (kX0_performOnMemory l D h a cA (u.1, u.2.1, u.2.2.1, u.2.2.2.1, u.2.2.2.2) ⟨hI.1, hI.2⟩ 360 ac e0 hac (vp_below he c_358 (by decide))) (cwV 3 hts gX0_perform_X0_performOnMemory rfl rfl rfl (by decide +kernel) ⟨by decide, by decide⟩) hK hP hD hS rfl hl.1 rfl (Nat.le_of_ble_eq_true rfl) dX0_perform_369 ⟨Nat.zero_le _, Nat.zero_le _⟩ (fun r_369 u_369 H locs q_369 hP hD hS => ?_)
      refine W.eq (g2 := F0 m 372 ls (.int r_369 :: [])) rfl ?_
      exact mm_iret (mw := wW h a cA) (u1 := (u_369.1, u_369.2.1, u_369.2.2.1, u_369.2.2.2.1, u_369.2.2.2.2)) hx hb hr hlocks hP hK hD hS dX0_perform_372 ⟨q_369.1, q_369.2⟩
    · refine lv_iconst (v := 2) hx hb dX0_perform_361 (by decide) ?_
      refine lv_goto (tgt := 372) hx hb dX0_perform_362 (by decide) ?_
      exact mm_iret (mw := wW h a cA) (u1 := (u.1, u.2.1, u.2.2.1, u.2.2.2.1, u.2.2.2.2)) hx hb hr hlocks hP hK hD hS dX0_perform_372 ⟨hI.1, hI.2⟩
  by_cases k_364 : op = 364
  · subst k_364
    refine lv_lookup (tgt := 354) hx hb dX0_perform_1 (by decide) rfl (by decide) ?_
    refine lv_iload_n hx hb dX0_perform_354 rfl (lv_at hl 3 rfl) ?_
    refine lv_sipush (v := 4096) hx hb dX0_perform_355 (by decide) ?_
    refine lv_icmp_lt (tgt := 365) hx hb dX0_perform_358 (by decide) (fun c_358 => ?_) (fun c_358 => ?_)
    · refine lv_aload_n hx hb dX0_perform_365 rfl (lv_at hl 0 rfl) ?_
      refine lv_iload_n hx hb dX0_perform_366 rfl (lv_at hl 1 rfl) ?_
      refine lv_iload_n hx hb dX0_perform_367 rfl (lv_at hl 2 rfl) ?_
      refine lv_iload_n hx hb dX0_perform_368 rfl (lv_at hl 3 rfl) ?_
      refine w_go (rv := rv_i) (As := [.int 364, .int ac, .int e0]) (rest := []) ⟨hx, hb, hml, hown, hts⟩ (kX0_performOnMemory l D h a cA (u.1, u.2.1, u.2.2.1, u.2.2.2.1, u.2.2.2.2) ⟨hI.1, hI.2⟩ 364 ac e0 hac (vp_below he c_358 (by decide))) (cwV 3 hts gX0_perform_X0_performOnMemory rfl rfl rfl (by decide +kernel) ⟨by decide, by decide⟩) hK hP hD hS rfl hl.1 rfl (Nat.le_of_ble_eq_true rfl) dX0_perform_369 ⟨Nat.zero_le _, Nat.zero_le _⟩ (fun r_369 u_369 H locs q_369 hP hD hS => ?_)
      refine W.eq (g2 := F0 m 372 ls (.int r_369 :: [])) rfl ?_
      exact mm_iret (mw := wW h a cA) (u1 := (u_369.1, u_369.2.1, u_369.2.2.1, u_369.2.2.2.1, u_369.2.2.2.2)) hx hb hr hlocks hP hK hD hS dX0_perform_372 ⟨q_369.1, q_369.2⟩
    · refine lv_iconst (v := 2) hx hb dX0_perform_361 (by decide) ?_
      refine lv_goto (tgt := 372) hx hb dX0_perform_362 (by decide) ?_
      exact mm_iret (mw := wW h a cA) (u1 := (u.1, u.2.1, u.2.2.1, u.2.2.2.1, u.2.2.2.2)) hx hb hr hlocks hP hK hD hS dX0_perform_372 ⟨hI.1, hI.2⟩
  refine lv_lookup (off := 372) (tgt := 373) hx hb dX0_perform_1 (by decide) ((lv_osw k_0 (by decide)).trans <| (lv_osw k_128 (by decide)).trans <| (lv_osw k_129 (by decide)).trans <| (lv_osw k_130 (by decide)).trans <| (lv_osw k_132 (by decide)).trans <| (lv_osw k_136 (by decide)).trans <| (lv_osw k_140 (by decide)).trans <| (lv_osw k_144 (by decide)).trans <| (lv_osw k_145 (by decide)).trans <| (lv_osw k_152 (by decide)).trans <| (lv_osw k_153 (by decide)).trans <| (lv_osw k_162 (by decide)).trans <| (lv_osw k_168 (by decide)).trans <| (lv_osw k_172 (by decide)).trans <| (lv_osw k_176 (by decide)).trans <| (lv_osw k_177 (by decide)).trans <| (lv_osw k_178 (by decide)).trans <| (lv_osw k_179 (by decide)).trans <| (lv_osw k_180 (by decide)).trans <| (lv_osw k_184 (by decide)).trans <| (lv_osw k_185 (by decide)).trans <| (lv_osw k_188 (by decide)).trans <| (lv_osw k_189 (by decide)).trans <| (lv_osw k_256 (by decide)).trans <| (lv_osw k_258 (by decide)).trans <| (lv_osw k_260 (by decide)).trans <| (lv_osw k_261 (by decide)).trans <| (lv_osw k_280 (by decide)).trans <| (lv_osw k_281 (by decide)).trans <| (lv_osw k_284 (by decide)).trans <| (lv_osw k_285 (by decide)).trans <| (lv_osw k_296 (by decide)).trans <| (lv_osw k_320 (by decide)).trans <| (lv_osw k_324 (by decide)).trans <| (lv_osw k_352 (by decide)).trans <| (lv_osw k_356 (by decide)).trans <| (lv_osw k_360 (by decide)).trans <| (lv_osw k_364 (by decide)).trans <| rfl) (by decide) ?_
  refine lv_iload_n hx hb dX0_perform_373 rfl (lv_at hl 1 rfl) ?_
  refine ps_goi (As := [.int op]) (rest := []) ⟨hx, hb, hml, hown, hts⟩ (kX0_isTest l op) (va_cwS 1 hts gX0_perform_X0_isTest rfl rfl rfl (by decide +kernel) ⟨by decide, by decide⟩) rfl hl.1 rfl (Nat.le_of_ble_eq_true rfl) dX0_perform_374 ⟨Nat.zero_le _, Nat.zero_le _⟩ (fun r_374 q_374 => ?_)
  refine lv_if_eq (tgt := 390) hx hb dX0_perform_377 (by decide) (fun c_377 => ?_) (fun c_377 => ?_)
  · refine lv_iconst (v := 1) hx hb dX0_perform_390 (by decide) ?_
    exact mm_iret (mw := wW h a cA) (u1 := (u.1, u.2.1, u.2.2.1, u.2.2.2.1, u.2.2.2.2)) hx hb hr hlocks hP hK hD hS dX0_perform_391 ⟨hI.1, hI.2⟩
  · refine lv_aload_n hx hb dX0_perform_380 rfl (lv_at hl 0 rfl) ?_
    refine lv_iload_n hx hb dX0_perform_381 rfl (lv_at hl 1 rfl) ?_
    refine lv_iload_n hx hb dX0_perform_382 rfl (lv_at hl 2 rfl) ?_
    refine lv_iload_n hx hb dX0_perform_383 rfl (lv_at hl 3 rfl) ?_
    refine w_go (rv := rv_i) (As := [.int op, .int ac, .int e0]) (rest := []) ⟨hx, hb, hml, hown, hts⟩ (kX0_test l D h a cA (u.1, u.2.1, u.2.2.1, u.2.2.2.1, u.2.2.2.2) ⟨hI.1, hI.2⟩ op ac e0 (Or.resolve_left q_374 c_377) hac he) (cwV 3 hts gX0_perform_X0_test rfl rfl rfl (by decide +kernel) ⟨by decide, by decide⟩) hK hP hD hS rfl hl.1 rfl (Nat.le_of_ble_eq_true rfl) dX0_perform_384 ⟨Nat.zero_le _, Nat.zero_le _⟩ (fun r_384 u_384 H locs q_384 hP hD hS => ?_)
    refine W.eq (g2 := F0 m 387 ls (.int r_384 :: [])) rfl ?_
    refine lv_goto (tgt := 391) hx hb dX0_perform_387 (by decide) ?_
    exact mm_iret (mw := wW h a cA) (u1 := (u_384.1, u_384.2.1, u_384.2.2.1, u_384.2.2.2.1, u_384.2.2.2.2)) hx hb hr hlocks hP hK hD hS dX0_perform_391 ⟨q_384.1, q_384.2⟩
end
section
set_option maxHeartbeats 4000000 in
set_option maxRecDepth 100000 in
theorem kX1_number (l : Launch) (w : Int64)  : PS l yX1_number wsX1_number ({ frames := 0, cells := 0, slots := 0, locals := 0 }) [.long w] rv_l (fun _ => True) := by
  refine ps_of (cc := cX1_number) (maxL := 2) (ret := (some .long)) (by decide) rfl (Nat.le_of_ble_eq_true rfl) ?_
  intro p e s m below meth c ls C hl
  obtain ⟨hx, hb, hr, hml, hown, hts, hlocks⟩ := C
  have hl : lv_has ls 2 [(0, .long w)] := hl
  refine lv_lload_n hx hb dX1_number_0 rfl (lv_at hl 0 rfl) ?_
  refine lv_bipush (v := 28) hx hb dX1_number_1 (by decide) ?_
  refine lv_lshl hx hb dX1_number_3 rfl ?_
  refine lv_bipush (v := 28) hx hb dX1_number_4 (by decide) ?_
  refine lv_lshr hx hb dX1_number_6 rfl ?_
  exact ps_lret hx hb hr hlocks dX1_number_7 trivial
set_option maxHeartbeats 4000000 in
set_option maxRecDepth 100000 in
theorem kX1_half (l : Launch) (w : Int64) (y : Int64)  : PS l yX1_half wsX1_half ({ frames := 0, cells := 0, slots := 0, locals := 0 }) [.long w, .long y] rv_l (fun _ => True) := by
  refine ps_of (cc := cX1_half) (maxL := 4) (ret := (some .long)) (by decide) rfl (Nat.le_of_ble_eq_true rfl) ?_
  intro p e s m below meth c ls C hl
  obtain ⟨hx, hb, hr, hml, hown, hts, hlocks⟩ := C
  have hl : lv_has ls 4 [(0, .long w), (2, .long y)] := hl
  refine lv_lload_n hx hb dX1_half_0 rfl (lv_at hl 0 rfl) ?_
  refine lv_ldc2 (v := -262144) hx hb hown (hts (.constantLong RX1 86 (-262144)) (by decide +kernel)) dX1_half_1 ?_
  refine lv_land hx hb dX1_half_4 ?_
  refine lv_lload_n hx hb dX1_half_5 rfl (lv_at hl 1 rfl) ?_
  refine lv_ldc2 (v := 262143) hx hb hown (hts (.constantLong RX1 31 262143) (by decide +kernel)) dX1_half_6 ?_
  refine lv_land hx hb dX1_half_9 ?_
  refine lv_lor hx hb dX1_half_10 ?_
  exact ps_lret hx hb hr hlocks dX1_half_11 trivial
set_option maxHeartbeats 4000000 in
set_option maxRecDepth 100000 in
theorem kX1_isPlace (l : Launch) (p0 : Int64)  : PS l yX1_isPlace wsX1_isPlace ({ frames := 0, cells := 0, slots := 0, locals := 0 }) [.long p0] rv_i (fun r => (r = 0 ∧ ¬ pl p0) ∨ (r = 1 ∧ pl p0)) := by
  refine ps_of (cc := cX1_isPlace) (maxL := 2) (ret := (some .boolean)) (by decide) rfl (Nat.le_of_ble_eq_true rfl) ?_
  intro p e s m below meth c ls C hl
  obtain ⟨hx, hb, hr, hml, hown, hts, hlocks⟩ := C
  have hl : lv_has ls 2 [(0, .long p0)] := hl
  refine lv_lload_n hx hb dX1_isPlace_0 rfl (lv_at hl 0 rfl) ?_
  refine lv_lconst (v := 0) hx hb dX1_isPlace_1 (by decide) ?_
  refine W.lcmp hx hb dX1_isPlace_2 ?_
  refine lv_if_lt (tgt := 18) hx hb dX1_isPlace_3 (by decide) (fun c_3 => ?_) (fun c_3 => ?_)
  · refine lv_iconst (v := 0) hx hb dX1_isPlace_18 (by decide) ?_
    exact ps_zret hx hb hr hlocks dX1_isPlace_19 rfl (Or.inl ⟨rfl, pl_no0 c_3⟩)
  · refine lv_lload_n hx hb dX1_isPlace_6 rfl (lv_at hl 0 rfl) ?_
    refine lv_ldc2 (v := 4096) hx hb hown (hts (.constantLong RX1 17 4096) (by decide +kernel)) dX1_isPlace_7 ?_
    refine W.lcmp hx hb dX1_isPlace_10 ?_
    refine lv_if_ge (tgt := 18) hx hb dX1_isPlace_11 (by decide) (fun c_11 => ?_) (fun c_11 => ?_)
    · refine lv_iconst (v := 0) hx hb dX1_isPlace_18 (by decide) ?_
      exact ps_zret hx hb hr hlocks dX1_isPlace_19 rfl (Or.inl ⟨rfl, pl_no1 c_11⟩)
    · refine lv_iconst (v := 1) hx hb dX1_isPlace_14 (by decide) ?_
      refine lv_goto (tgt := 19) hx hb dX1_isPlace_15 (by decide) ?_
      exact ps_zret hx hb hr hlocks dX1_isPlace_19 rfl (Or.inr ⟨rfl, pl_yes c_3 c_11⟩)
set_option maxHeartbeats 4000000 in
set_option maxRecDepth 100000 in
theorem kX1_is (l : Launch) (op : Int32) (x0 : Int64) (y0 : Int64)  : PS l yX1_is wsX1_is ({ frames := 0, cells := 0, slots := 0, locals := 0 }) [.int op, .long x0, .long y0] rv_i (fun _ => True) := by
  refine ps_of (cc := cX1_is) (maxL := 5) (ret := (some .boolean)) (by decide) rfl (Nat.le_of_ble_eq_true rfl) ?_
  intro p e s m below meth c ls C hl
  obtain ⟨hx, hb, hr, hml, hown, hts, hlocks⟩ := C
  have hl : lv_has ls 5 [(0, .int op), (1, .long x0), (3, .long y0)] := hl
  refine lv_iload_n hx hb dX1_is_0 rfl (lv_at hl 0 rfl) ?_
  refine lv_bipush (v := 7) hx hb dX1_is_1 (by decide) ?_
  refine lv_iand hx hb dX1_is_3 ?_
  refine lv_topi (fun x_4 ex_4 => ?_)
  by_cases k_0 : x_4 = 0
  · subst k_0
    refine lv_tableIn (tgt := 48) hx hb dX1_is_4 (by decide) (by decide) rfl (by decide) ?_
    refine lv_iconst (v := 0) hx hb dX1_is_48 (by decide) ?_
    exact ps_zret hx hb hr hlocks dX1_is_49 rfl trivial
  by_cases k_1 : x_4 = 1
  · subst k_1
    refine lv_tableIn (tgt := 50) hx hb dX1_is_4 (by decide) (by decide) rfl (by decide) ?_
    refine lv_lload_n hx hb dX1_is_50 rfl (lv_at hl 1 rfl) ?_
    refine lv_lload_n hx hb dX1_is_51 rfl (lv_at hl 2 rfl) ?_
    refine W.lcmp hx hb dX1_is_52 ?_
    refine lv_if_ge (tgt := 60) hx hb dX1_is_53 (by decide) (fun c_53 => ?_) (fun c_53 => ?_)
    · refine lv_iconst (v := 0) hx hb dX1_is_60 (by decide) ?_
      exact ps_zret hx hb hr hlocks dX1_is_61 rfl trivial
    · refine lv_iconst (v := 1) hx hb dX1_is_56 (by decide) ?_
      refine lv_goto (tgt := 61) hx hb dX1_is_57 (by decide) ?_
      exact ps_zret hx hb hr hlocks dX1_is_61 rfl trivial
  by_cases k_2 : x_4 = 2
  · subst k_2
    refine lv_tableIn (tgt := 62) hx hb dX1_is_4 (by decide) (by decide) rfl (by decide) ?_
    refine lv_lload_n hx hb dX1_is_62 rfl (lv_at hl 1 rfl) ?_
    refine lv_lload_n hx hb dX1_is_63 rfl (lv_at hl 2 rfl) ?_
    refine W.lcmp hx hb dX1_is_64 ?_
    refine lv_if_ne (tgt := 72) hx hb dX1_is_65 (by decide) (fun c_65 => ?_) (fun c_65 => ?_)
    · refine lv_iconst (v := 0) hx hb dX1_is_72 (by decide) ?_
      exact ps_zret hx hb hr hlocks dX1_is_73 rfl trivial
    · refine lv_iconst (v := 1) hx hb dX1_is_68 (by decide) ?_
      refine lv_goto (tgt := 73) hx hb dX1_is_69 (by decide) ?_
      exact ps_zret hx hb hr hlocks dX1_is_73 rfl trivial
  by_cases k_3 : x_4 = 3
  · subst k_3
    refine lv_tableIn (tgt := 74) hx hb dX1_is_4 (by decide) (by decide) rfl (by decide) ?_
    refine lv_lload_n hx hb dX1_is_74 rfl (lv_at hl 1 rfl) ?_
    refine lv_lload_n hx hb dX1_is_75 rfl (lv_at hl 2 rfl) ?_
    refine W.lcmp hx hb dX1_is_76 ?_
    refine lv_if_gt (tgt := 84) hx hb dX1_is_77 (by decide) (fun c_77 => ?_) (fun c_77 => ?_)
    · refine lv_iconst (v := 0) hx hb dX1_is_84 (by decide) ?_
      exact ps_zret hx hb hr hlocks dX1_is_85 rfl trivial
    · refine lv_iconst (v := 1) hx hb dX1_is_80 (by decide) ?_
      refine lv_goto (tgt := 85) hx hb dX1_is_81 (by decide) ?_
      exact ps_zret hx hb hr hlocks dX1_is_85 rfl trivial
  by_cases k_4 : x_4 = 4
  · subst k_4
    refine lv_tableIn (tgt := 86) hx hb dX1_is_4 (by decide) (by decide) rfl (by decide) ?_
    refine lv_iconst (v := 1) hx hb dX1_is_86 (by decide) ?_
    exact ps_zret hx hb hr hlocks dX1_is_87 rfl trivial
  by_cases k_5 : x_4 = 5
  · subst k_5
    refine lv_tableIn (tgt := 88) hx hb dX1_is_4 (by decide) (by decide) rfl (by decide) ?_
    refine lv_lload_n hx hb dX1_is_88 rfl (lv_at hl 1 rfl) ?_
    refine lv_lload_n hx hb dX1_is_89 rfl (lv_at hl 2 rfl) ?_
    refine W.lcmp hx hb dX1_is_90 ?_
    refine lv_if_lt (tgt := 98) hx hb dX1_is_91 (by decide) (fun c_91 => ?_) (fun c_91 => ?_)
    · refine lv_iconst (v := 0) hx hb dX1_is_98 (by decide) ?_
      exact ps_zret hx hb hr hlocks dX1_is_99 rfl trivial
    · refine lv_iconst (v := 1) hx hb dX1_is_94 (by decide) ?_
      refine lv_goto (tgt := 99) hx hb dX1_is_95 (by decide) ?_
      exact ps_zret hx hb hr hlocks dX1_is_99 rfl trivial
  by_cases k_6 : x_4 = 6
  · subst k_6
    refine lv_tableIn (tgt := 100) hx hb dX1_is_4 (by decide) (by decide) rfl (by decide) ?_
    refine lv_lload_n hx hb dX1_is_100 rfl (lv_at hl 1 rfl) ?_
    refine lv_lload_n hx hb dX1_is_101 rfl (lv_at hl 2 rfl) ?_
    refine W.lcmp hx hb dX1_is_102 ?_
    refine lv_if_eq (tgt := 110) hx hb dX1_is_103 (by decide) (fun c_103 => ?_) (fun c_103 => ?_)
    · refine lv_iconst (v := 0) hx hb dX1_is_110 (by decide) ?_
      exact ps_zret hx hb hr hlocks dX1_is_111 rfl trivial
    · refine lv_iconst (v := 1) hx hb dX1_is_106 (by decide) ?_
      refine lv_goto (tgt := 111) hx hb dX1_is_107 (by decide) ?_
      exact ps_zret hx hb hr hlocks dX1_is_111 rfl trivial
  refine lv_tableOut (tgt := 112) hx hb dX1_is_4 (tb_out_0_7 k_0 k_1 k_2 k_3 k_4 k_5 k_6) (by decide) ?_
  refine lv_lload_n hx hb dX1_is_112 rfl (lv_at hl 1 rfl) ?_
  refine lv_lload_n hx hb dX1_is_113 rfl (lv_at hl 2 rfl) ?_
  refine W.lcmp hx hb dX1_is_114 ?_
  refine lv_if_le (tgt := 122) hx hb dX1_is_115 (by decide) (fun c_115 => ?_) (fun c_115 => ?_)
  · refine lv_iconst (v := 0) hx hb dX1_is_122 (by decide) ?_
    exact ps_zret hx hb hr hlocks dX1_is_123 rfl trivial
  · refine lv_iconst (v := 1) hx hb dX1_is_118 (by decide) ?_
    refine lv_goto (tgt := 123) hx hb dX1_is_119 (by decide) ?_
    exact ps_zret hx hb hr hlocks dX1_is_123 rfl trivial
set_option maxHeartbeats 4000000 in
set_option maxRecDepth 100000 in
theorem kX1_isKnown (l : Launch) (op : Int32)  : PS l yX1_isKnown wsX1_isKnown ({ frames := 0, cells := 0, slots := 0, locals := 0 }) [.int op] rv_i (fun _ => True) := by
  refine ps_of (cc := cX1_isKnown) (maxL := 1) (ret := (some .boolean)) (by decide) rfl (Nat.le_of_ble_eq_true rfl) ?_
  intro p e s m below meth c ls C hl
  obtain ⟨hx, hb, hr, hml, hown, hts, hlocks⟩ := C
  have hl : lv_has ls 1 [(0, .int op)] := hl
  refine lv_iload_n hx hb dX1_isKnown_0 rfl (lv_at hl 0 rfl) ?_
  by_cases k_0 : op = 0
  · subst k_0
    refine lv_lookup (tgt := 316) hx hb dX1_isKnown_1 (by decide) rfl (by decide) ?_
    refine lv_iconst (v := 1) hx hb dX1_isKnown_316 (by decide) ?_
    exact ps_zret hx hb hr hlocks dX1_isKnown_317 rfl trivial
  by_cases k_128 : op = 128
  · subst k_128
    refine lv_lookup (tgt := 316) hx hb dX1_isKnown_1 (by decide) rfl (by decide) ?_
    refine lv_iconst (v := 1) hx hb dX1_isKnown_316 (by decide) ?_
    exact ps_zret hx hb hr hlocks dX1_isKnown_317 rfl trivial
  by_cases k_129 : op = 129
  · subst k_129
    refine lv_lookup (tgt := 316) hx hb dX1_isKnown_1 (by decide) rfl (by decide) ?_
    refine lv_iconst (v := 1) hx hb dX1_isKnown_316 (by decide) ?_
    exact ps_zret hx hb hr hlocks dX1_isKnown_317 rfl trivial
  by_cases k_130 : op = 130
  · subst k_130
    refine lv_lookup (tgt := 316) hx hb dX1_isKnown_1 (by decide) rfl (by decide) ?_
    refine lv_iconst (v := 1) hx hb dX1_isKnown_316 (by decide) ?_
    exact ps_zret hx hb hr hlocks dX1_isKnown_317 rfl trivial
  by_cases k_132 : op = 132
  · subst k_132
    refine lv_lookup (tgt := 316) hx hb dX1_isKnown_1 (by decide) rfl (by decide) ?_
    refine lv_iconst (v := 1) hx hb dX1_isKnown_316 (by decide) ?_
    exact ps_zret hx hb hr hlocks dX1_isKnown_317 rfl trivial
  by_cases k_136 : op = 136
  · subst k_136
    refine lv_lookup (tgt := 316) hx hb dX1_isKnown_1 (by decide) rfl (by decide) ?_
    refine lv_iconst (v := 1) hx hb dX1_isKnown_316 (by decide) ?_
    exact ps_zret hx hb hr hlocks dX1_isKnown_317 rfl trivial
  by_cases k_140 : op = 140
  · subst k_140
    refine lv_lookup (tgt := 316) hx hb dX1_isKnown_1 (by decide) rfl (by decide) ?_
    refine lv_iconst (v := 1) hx hb dX1_isKnown_316 (by decide) ?_
    exact ps_zret hx hb hr hlocks dX1_isKnown_317 rfl trivial
  by_cases k_144 : op = 144
  · subst k_144
    refine lv_lookup (tgt := 316) hx hb dX1_isKnown_1 (by decide) rfl (by decide) ?_
    refine lv_iconst (v := 1) hx hb dX1_isKnown_316 (by decide) ?_
    exact ps_zret hx hb hr hlocks dX1_isKnown_317 rfl trivial
  by_cases k_145 : op = 145
  · subst k_145
    refine lv_lookup (tgt := 316) hx hb dX1_isKnown_1 (by decide) rfl (by decide) ?_
    refine lv_iconst (v := 1) hx hb dX1_isKnown_316 (by decide) ?_
    exact ps_zret hx hb hr hlocks dX1_isKnown_317 rfl trivial
  by_cases k_152 : op = 152
  · subst k_152
    refine lv_lookup (tgt := 316) hx hb dX1_isKnown_1 (by decide) rfl (by decide) ?_
    refine lv_iconst (v := 1) hx hb dX1_isKnown_316 (by decide) ?_
    exact ps_zret hx hb hr hlocks dX1_isKnown_317 rfl trivial
  by_cases k_153 : op = 153
  · subst k_153
    refine lv_lookup (tgt := 316) hx hb dX1_isKnown_1 (by decide) rfl (by decide) ?_
    refine lv_iconst (v := 1) hx hb dX1_isKnown_316 (by decide) ?_
    exact ps_zret hx hb hr hlocks dX1_isKnown_317 rfl trivial
  by_cases k_162 : op = 162
  · subst k_162
    refine lv_lookup (tgt := 316) hx hb dX1_isKnown_1 (by decide) rfl (by decide) ?_
    refine lv_iconst (v := 1) hx hb dX1_isKnown_316 (by decide) ?_
    exact ps_zret hx hb hr hlocks dX1_isKnown_317 rfl trivial
  by_cases k_168 : op = 168
  · subst k_168
    refine lv_lookup (tgt := 316) hx hb dX1_isKnown_1 (by decide) rfl (by decide) ?_
    refine lv_iconst (v := 1) hx hb dX1_isKnown_316 (by decide) ?_
    exact ps_zret hx hb hr hlocks dX1_isKnown_317 rfl trivial
  by_cases k_172 : op = 172
  · subst k_172
    refine lv_lookup (tgt := 316) hx hb dX1_isKnown_1 (by decide) rfl (by decide) ?_
    refine lv_iconst (v := 1) hx hb dX1_isKnown_316 (by decide) ?_
    exact ps_zret hx hb hr hlocks dX1_isKnown_317 rfl trivial
  by_cases k_176 : op = 176
  · subst k_176
    refine lv_lookup (tgt := 316) hx hb dX1_isKnown_1 (by decide) rfl (by decide) ?_
    refine lv_iconst (v := 1) hx hb dX1_isKnown_316 (by decide) ?_
    exact ps_zret hx hb hr hlocks dX1_isKnown_317 rfl trivial
  by_cases k_177 : op = 177
  · subst k_177
    refine lv_lookup (tgt := 316) hx hb dX1_isKnown_1 (by decide) rfl (by decide) ?_
    refine lv_iconst (v := 1) hx hb dX1_isKnown_316 (by decide) ?_
    exact ps_zret hx hb hr hlocks dX1_isKnown_317 rfl trivial
  by_cases k_178 : op = 178
  · subst k_178
    refine lv_lookup (tgt := 316) hx hb dX1_isKnown_1 (by decide) rfl (by decide) ?_
    refine lv_iconst (v := 1) hx hb dX1_isKnown_316 (by decide) ?_
    exact ps_zret hx hb hr hlocks dX1_isKnown_317 rfl trivial
  by_cases k_179 : op = 179
  · subst k_179
    refine lv_lookup (tgt := 316) hx hb dX1_isKnown_1 (by decide) rfl (by decide) ?_
    refine lv_iconst (v := 1) hx hb dX1_isKnown_316 (by decide) ?_
    exact ps_zret hx hb hr hlocks dX1_isKnown_317 rfl trivial
  by_cases k_180 : op = 180
  · subst k_180
    refine lv_lookup (tgt := 316) hx hb dX1_isKnown_1 (by decide) rfl (by decide) ?_
    refine lv_iconst (v := 1) hx hb dX1_isKnown_316 (by decide) ?_
    exact ps_zret hx hb hr hlocks dX1_isKnown_317 rfl trivial
  by_cases k_184 : op = 184
  · subst k_184
    refine lv_lookup (tgt := 316) hx hb dX1_isKnown_1 (by decide) rfl (by decide) ?_
    refine lv_iconst (v := 1) hx hb dX1_isKnown_316 (by decide) ?_
    exact ps_zret hx hb hr hlocks dX1_isKnown_317 rfl trivial
  by_cases k_185 : op = 185
  · subst k_185
    refine lv_lookup (tgt := 316) hx hb dX1_isKnown_1 (by decide) rfl (by decide) ?_
    refine lv_iconst (v := 1) hx hb dX1_isKnown_316 (by decide) ?_
    exact ps_zret hx hb hr hlocks dX1_isKnown_317 rfl trivial
  by_cases k_188 : op = 188
  · subst k_188
    refine lv_lookup (tgt := 316) hx hb dX1_isKnown_1 (by decide) rfl (by decide) ?_
    refine lv_iconst (v := 1) hx hb dX1_isKnown_316 (by decide) ?_
    exact ps_zret hx hb hr hlocks dX1_isKnown_317 rfl trivial
  by_cases k_189 : op = 189
  · subst k_189
    refine lv_lookup (tgt := 316) hx hb dX1_isKnown_1 (by decide) rfl (by decide) ?_
    refine lv_iconst (v := 1) hx hb dX1_isKnown_316 (by decide) ?_
    exact ps_zret hx hb hr hlocks dX1_isKnown_317 rfl trivial
  by_cases k_256 : op = 256
  · subst k_256
    refine lv_lookup (tgt := 316) hx hb dX1_isKnown_1 (by decide) rfl (by decide) ?_
    refine lv_iconst (v := 1) hx hb dX1_isKnown_316 (by decide) ?_
    exact ps_zret hx hb hr hlocks dX1_isKnown_317 rfl trivial
  by_cases k_258 : op = 258
  · subst k_258
    refine lv_lookup (tgt := 316) hx hb dX1_isKnown_1 (by decide) rfl (by decide) ?_
    refine lv_iconst (v := 1) hx hb dX1_isKnown_316 (by decide) ?_
    exact ps_zret hx hb hr hlocks dX1_isKnown_317 rfl trivial
  by_cases k_260 : op = 260
  · subst k_260
    refine lv_lookup (tgt := 316) hx hb dX1_isKnown_1 (by decide) rfl (by decide) ?_
    refine lv_iconst (v := 1) hx hb dX1_isKnown_316 (by decide) ?_
    exact ps_zret hx hb hr hlocks dX1_isKnown_317 rfl trivial
  by_cases k_261 : op = 261
  · subst k_261
    refine lv_lookup (tgt := 316) hx hb dX1_isKnown_1 (by decide) rfl (by decide) ?_
    refine lv_iconst (v := 1) hx hb dX1_isKnown_316 (by decide) ?_
    exact ps_zret hx hb hr hlocks dX1_isKnown_317 rfl trivial
  by_cases k_280 : op = 280
  · subst k_280
    refine lv_lookup (tgt := 316) hx hb dX1_isKnown_1 (by decide) rfl (by decide) ?_
    refine lv_iconst (v := 1) hx hb dX1_isKnown_316 (by decide) ?_
    exact ps_zret hx hb hr hlocks dX1_isKnown_317 rfl trivial
  by_cases k_281 : op = 281
  · subst k_281
    refine lv_lookup (tgt := 316) hx hb dX1_isKnown_1 (by decide) rfl (by decide) ?_
    refine lv_iconst (v := 1) hx hb dX1_isKnown_316 (by decide) ?_
    exact ps_zret hx hb hr hlocks dX1_isKnown_317 rfl trivial
  by_cases k_284 : op = 284
  · subst k_284
    refine lv_lookup (tgt := 316) hx hb dX1_isKnown_1 (by decide) rfl (by decide) ?_
    refine lv_iconst (v := 1) hx hb dX1_isKnown_316 (by decide) ?_
    exact ps_zret hx hb hr hlocks dX1_isKnown_317 rfl trivial
  by_cases k_285 : op = 285
  · subst k_285
    refine lv_lookup (tgt := 316) hx hb dX1_isKnown_1 (by decide) rfl (by decide) ?_
    refine lv_iconst (v := 1) hx hb dX1_isKnown_316 (by decide) ?_
    exact ps_zret hx hb hr hlocks dX1_isKnown_317 rfl trivial
  by_cases k_296 : op = 296
  · subst k_296
    refine lv_lookup (tgt := 316) hx hb dX1_isKnown_1 (by decide) rfl (by decide) ?_
    refine lv_iconst (v := 1) hx hb dX1_isKnown_316 (by decide) ?_
    exact ps_zret hx hb hr hlocks dX1_isKnown_317 rfl trivial
  by_cases k_320 : op = 320
  · subst k_320
    refine lv_lookup (tgt := 316) hx hb dX1_isKnown_1 (by decide) rfl (by decide) ?_
    refine lv_iconst (v := 1) hx hb dX1_isKnown_316 (by decide) ?_
    exact ps_zret hx hb hr hlocks dX1_isKnown_317 rfl trivial
  by_cases k_324 : op = 324
  · subst k_324
    refine lv_lookup (tgt := 316) hx hb dX1_isKnown_1 (by decide) rfl (by decide) ?_
    refine lv_iconst (v := 1) hx hb dX1_isKnown_316 (by decide) ?_
    exact ps_zret hx hb hr hlocks dX1_isKnown_317 rfl trivial
  by_cases k_352 : op = 352
  · subst k_352
    refine lv_lookup (tgt := 316) hx hb dX1_isKnown_1 (by decide) rfl (by decide) ?_
    refine lv_iconst (v := 1) hx hb dX1_isKnown_316 (by decide) ?_
    exact ps_zret hx hb hr hlocks dX1_isKnown_317 rfl trivial
  by_cases k_356 : op = 356
  · subst k_356
    refine lv_lookup (tgt := 316) hx hb dX1_isKnown_1 (by decide) rfl (by decide) ?_
    refine lv_iconst (v := 1) hx hb dX1_isKnown_316 (by decide) ?_
    exact ps_zret hx hb hr hlocks dX1_isKnown_317 rfl trivial
  by_cases k_360 : op = 360
  · subst k_360
    refine lv_lookup (tgt := 316) hx hb dX1_isKnown_1 (by decide) rfl (by decide) ?_
    refine lv_iconst (v := 1) hx hb dX1_isKnown_316 (by decide) ?_
    exact ps_zret hx hb hr hlocks dX1_isKnown_317 rfl trivial
  by_cases k_364 : op = 364
  · subst k_364
    refine lv_lookup (tgt := 316) hx hb dX1_isKnown_1 (by decide) rfl (by decide) ?_
    refine lv_iconst (v := 1) hx hb dX1_isKnown_316 (by decide) ?_
    exact ps_zret hx hb hr hlocks dX1_isKnown_317 rfl trivial
  refine lv_lookup (off := 317) (tgt := 318) hx hb dX1_isKnown_1 (by decide) ((lv_osw k_0 (by decide)).trans <| (lv_osw k_128 (by decide)).trans <| (lv_osw k_129 (by decide)).trans <| (lv_osw k_130 (by decide)).trans <| (lv_osw k_132 (by decide)).trans <| (lv_osw k_136 (by decide)).trans <| (lv_osw k_140 (by decide)).trans <| (lv_osw k_144 (by decide)).trans <| (lv_osw k_145 (by decide)).trans <| (lv_osw k_152 (by decide)).trans <| (lv_osw k_153 (by decide)).trans <| (lv_osw k_162 (by decide)).trans <| (lv_osw k_168 (by decide)).trans <| (lv_osw k_172 (by decide)).trans <| (lv_osw k_176 (by decide)).trans <| (lv_osw k_177 (by decide)).trans <| (lv_osw k_178 (by decide)).trans <| (lv_osw k_179 (by decide)).trans <| (lv_osw k_180 (by decide)).trans <| (lv_osw k_184 (by decide)).trans <| (lv_osw k_185 (by decide)).trans <| (lv_osw k_188 (by decide)).trans <| (lv_osw k_189 (by decide)).trans <| (lv_osw k_256 (by decide)).trans <| (lv_osw k_258 (by decide)).trans <| (lv_osw k_260 (by decide)).trans <| (lv_osw k_261 (by decide)).trans <| (lv_osw k_280 (by decide)).trans <| (lv_osw k_281 (by decide)).trans <| (lv_osw k_284 (by decide)).trans <| (lv_osw k_285 (by decide)).trans <| (lv_osw k_296 (by decide)).trans <| (lv_osw k_320 (by decide)).trans <| (lv_osw k_324 (by decide)).trans <| (lv_osw k_352 (by decide)).trans <| (lv_osw k_356 (by decide)).trans <| (lv_osw k_360 (by decide)).trans <| (lv_osw k_364 (by decide)).trans <| rfl) (by decide) ?_
  refine lv_iload_n hx hb dX1_isKnown_318 rfl (lv_at hl 0 rfl) ?_
  refine lv_sipush (v := 192) hx hb dX1_isKnown_319 (by decide) ?_
  refine lv_icmp_lt (tgt := 336) hx hb dX1_isKnown_322 (by decide) (fun c_322 => ?_) (fun c_322 => ?_)
  · refine lv_iconst (v := 0) hx hb dX1_isKnown_336 (by decide) ?_
    exact ps_zret hx hb hr hlocks dX1_isKnown_337 rfl trivial
  · refine lv_iload_n hx hb dX1_isKnown_325 rfl (lv_at hl 0 rfl) ?_
    refine lv_sipush (v := 255) hx hb dX1_isKnown_326 (by decide) ?_
    refine lv_icmp_gt (tgt := 336) hx hb dX1_isKnown_329 (by decide) (fun c_329 => ?_) (fun c_329 => ?_)
    · refine lv_iconst (v := 0) hx hb dX1_isKnown_336 (by decide) ?_
      exact ps_zret hx hb hr hlocks dX1_isKnown_337 rfl trivial
    · refine lv_iconst (v := 1) hx hb dX1_isKnown_332 (by decide) ?_
      refine lv_goto (tgt := 337) hx hb dX1_isKnown_333 (by decide) ?_
      exact ps_zret hx hb hr hlocks dX1_isKnown_337 rfl trivial
set_option maxHeartbeats 4000000 in
set_option maxRecDepth 100000 in
theorem kX1_needsWord (l : Launch) (op : Int32)  : PS l yX1_needsWord wsX1_needsWord ({ frames := 0, cells := 0, slots := 0, locals := 0 }) [.int op] rv_i (fun r => r = 0 → fr op) := by
  refine ps_of (cc := cX1_needsWord) (maxL := 1) (ret := (some .boolean)) (by decide) rfl (Nat.le_of_ble_eq_true rfl) ?_
  intro p e s m below meth c ls C hl
  obtain ⟨hx, hb, hr, hml, hown, hts, hlocks⟩ := C
  have hl : lv_has ls 1 [(0, .int op)] := hl
  refine lv_iload_n hx hb dX1_needsWord_0 rfl (lv_at hl 0 rfl) ?_
  refine lv_sipush (v := 192) hx hb dX1_needsWord_1 (by decide) ?_
  refine lv_icmp_lt (tgt := 56) hx hb dX1_needsWord_4 (by decide) (fun c_4 => ?_) (fun c_4 => ?_)
  · refine lv_iload_n hx hb dX1_needsWord_56 rfl (lv_at hl 0 rfl) ?_
    by_cases k_129 : op = 129
    · subst k_129
      refine lv_lookup (tgt := 180) hx hb dX1_needsWord_57 (by decide) rfl (by decide) ?_
      refine lv_iconst (v := 0) hx hb dX1_needsWord_180 (by decide) ?_
      exact ps_zret hx hb hr hlocks dX1_needsWord_181 rfl (fun _ => Or.inr (by decide))
    by_cases k_145 : op = 145
    · subst k_145
      refine lv_lookup (tgt := 180) hx hb dX1_needsWord_57 (by decide) rfl (by decide) ?_
      refine lv_iconst (v := 0) hx hb dX1_needsWord_180 (by decide) ?_
      exact ps_zret hx hb hr hlocks dX1_needsWord_181 rfl (fun _ => Or.inr (by decide))
    by_cases k_153 : op = 153
    · subst k_153
      refine lv_lookup (tgt := 180) hx hb dX1_needsWord_57 (by decide) rfl (by decide) ?_
      refine lv_iconst (v := 0) hx hb dX1_needsWord_180 (by decide) ?_
      exact ps_zret hx hb hr hlocks dX1_needsWord_181 rfl (fun _ => Or.inr (by decide))
    by_cases k_162 : op = 162
    · subst k_162
      refine lv_lookup (tgt := 180) hx hb dX1_needsWord_57 (by decide) rfl (by decide) ?_
      refine lv_iconst (v := 0) hx hb dX1_needsWord_180 (by decide) ?_
      exact ps_zret hx hb hr hlocks dX1_needsWord_181 rfl (fun _ => Or.inr (by decide))
    by_cases k_172 : op = 172
    · subst k_172
      refine lv_lookup (tgt := 180) hx hb dX1_needsWord_57 (by decide) rfl (by decide) ?_
      refine lv_iconst (v := 0) hx hb dX1_needsWord_180 (by decide) ?_
      exact ps_zret hx hb hr hlocks dX1_needsWord_181 rfl (fun _ => Or.inr (by decide))
    by_cases k_176 : op = 176
    · subst k_176
      refine lv_lookup (tgt := 180) hx hb dX1_needsWord_57 (by decide) rfl (by decide) ?_
      refine lv_iconst (v := 0) hx hb dX1_needsWord_180 (by decide) ?_
      exact ps_zret hx hb hr hlocks dX1_needsWord_181 rfl (fun _ => Or.inr (by decide))
    by_cases k_179 : op = 179
    · subst k_179
      refine lv_lookup (tgt := 180) hx hb dX1_needsWord_57 (by decide) rfl (by decide) ?_
      refine lv_iconst (v := 0) hx hb dX1_needsWord_180 (by decide) ?_
      exact ps_zret hx hb hr hlocks dX1_needsWord_181 rfl (fun _ => Or.inr (by decide))
    by_cases k_185 : op = 185
    · subst k_185
      refine lv_lookup (tgt := 180) hx hb dX1_needsWord_57 (by decide) rfl (by decide) ?_
      refine lv_iconst (v := 0) hx hb dX1_needsWord_180 (by decide) ?_
      exact ps_zret hx hb hr hlocks dX1_needsWord_181 rfl (fun _ => Or.inr (by decide))
    by_cases k_189 : op = 189
    · subst k_189
      refine lv_lookup (tgt := 180) hx hb dX1_needsWord_57 (by decide) rfl (by decide) ?_
      refine lv_iconst (v := 0) hx hb dX1_needsWord_180 (by decide) ?_
      exact ps_zret hx hb hr hlocks dX1_needsWord_181 rfl (fun _ => Or.inr (by decide))
    by_cases k_256 : op = 256
    · subst k_256
      refine lv_lookup (tgt := 180) hx hb dX1_needsWord_57 (by decide) rfl (by decide) ?_
      refine lv_iconst (v := 0) hx hb dX1_needsWord_180 (by decide) ?_
      exact ps_zret hx hb hr hlocks dX1_needsWord_181 rfl (fun _ => Or.inr (by decide))
    by_cases k_261 : op = 261
    · subst k_261
      refine lv_lookup (tgt := 180) hx hb dX1_needsWord_57 (by decide) rfl (by decide) ?_
      refine lv_iconst (v := 0) hx hb dX1_needsWord_180 (by decide) ?_
      exact ps_zret hx hb hr hlocks dX1_needsWord_181 rfl (fun _ => Or.inr (by decide))
    by_cases k_281 : op = 281
    · subst k_281
      refine lv_lookup (tgt := 180) hx hb dX1_needsWord_57 (by decide) rfl (by decide) ?_
      refine lv_iconst (v := 0) hx hb dX1_needsWord_180 (by decide) ?_
      exact ps_zret hx hb hr hlocks dX1_needsWord_181 rfl (fun _ => Or.inr (by decide))
    by_cases k_285 : op = 285
    · subst k_285
      refine lv_lookup (tgt := 180) hx hb dX1_needsWord_57 (by decide) rfl (by decide) ?_
      refine lv_iconst (v := 0) hx hb dX1_needsWord_180 (by decide) ?_
      exact ps_zret hx hb hr hlocks dX1_needsWord_181 rfl (fun _ => Or.inr (by decide))
    by_cases k_296 : op = 296
    · subst k_296
      refine lv_lookup (tgt := 180) hx hb dX1_needsWord_57 (by decide) rfl (by decide) ?_
      refine lv_iconst (v := 0) hx hb dX1_needsWord_180 (by decide) ?_
      exact ps_zret hx hb hr hlocks dX1_needsWord_181 rfl (fun _ => Or.inr (by decide))
    refine lv_lookup (off := 125) (tgt := 182) hx hb dX1_needsWord_57 (by decide) ((lv_osw k_129 (by decide)).trans <| (lv_osw k_145 (by decide)).trans <| (lv_osw k_153 (by decide)).trans <| (lv_osw k_162 (by decide)).trans <| (lv_osw k_172 (by decide)).trans <| (lv_osw k_176 (by decide)).trans <| (lv_osw k_179 (by decide)).trans <| (lv_osw k_185 (by decide)).trans <| (lv_osw k_189 (by decide)).trans <| (lv_osw k_256 (by decide)).trans <| (lv_osw k_261 (by decide)).trans <| (lv_osw k_281 (by decide)).trans <| (lv_osw k_285 (by decide)).trans <| (lv_osw k_296 (by decide)).trans <| rfl) (by decide) ?_
    refine lv_iconst (v := 1) hx hb dX1_needsWord_182 (by decide) ?_
    exact ps_zret hx hb hr hlocks dX1_needsWord_183 rfl (fun hz => absurd hz (by decide))
  · refine lv_iload_n hx hb dX1_needsWord_7 rfl (lv_at hl 0 rfl) ?_
    refine lv_sipush (v := 255) hx hb dX1_needsWord_8 (by decide) ?_
    refine lv_icmp_gt (tgt := 56) hx hb dX1_needsWord_11 (by decide) (fun c_11 => ?_) (fun c_11 => ?_)
    · refine lv_iload_n hx hb dX1_needsWord_56 rfl (lv_at hl 0 rfl) ?_
      by_cases k_129 : op = 129
      · subst k_129
        refine lv_lookup (tgt := 180) hx hb dX1_needsWord_57 (by decide) rfl (by decide) ?_
        refine lv_iconst (v := 0) hx hb dX1_needsWord_180 (by decide) ?_
        exact ps_zret hx hb hr hlocks dX1_needsWord_181 rfl (fun _ => Or.inr (by decide))
      by_cases k_145 : op = 145
      · subst k_145
        refine lv_lookup (tgt := 180) hx hb dX1_needsWord_57 (by decide) rfl (by decide) ?_
        refine lv_iconst (v := 0) hx hb dX1_needsWord_180 (by decide) ?_
        exact ps_zret hx hb hr hlocks dX1_needsWord_181 rfl (fun _ => Or.inr (by decide))
      by_cases k_153 : op = 153
      · subst k_153
        refine lv_lookup (tgt := 180) hx hb dX1_needsWord_57 (by decide) rfl (by decide) ?_
        refine lv_iconst (v := 0) hx hb dX1_needsWord_180 (by decide) ?_
        exact ps_zret hx hb hr hlocks dX1_needsWord_181 rfl (fun _ => Or.inr (by decide))
      by_cases k_162 : op = 162
      · subst k_162
        refine lv_lookup (tgt := 180) hx hb dX1_needsWord_57 (by decide) rfl (by decide) ?_
        refine lv_iconst (v := 0) hx hb dX1_needsWord_180 (by decide) ?_
        exact ps_zret hx hb hr hlocks dX1_needsWord_181 rfl (fun _ => Or.inr (by decide))
      by_cases k_172 : op = 172
      · subst k_172
        refine lv_lookup (tgt := 180) hx hb dX1_needsWord_57 (by decide) rfl (by decide) ?_
        refine lv_iconst (v := 0) hx hb dX1_needsWord_180 (by decide) ?_
        exact ps_zret hx hb hr hlocks dX1_needsWord_181 rfl (fun _ => Or.inr (by decide))
      by_cases k_176 : op = 176
      · subst k_176
        refine lv_lookup (tgt := 180) hx hb dX1_needsWord_57 (by decide) rfl (by decide) ?_
        refine lv_iconst (v := 0) hx hb dX1_needsWord_180 (by decide) ?_
        exact ps_zret hx hb hr hlocks dX1_needsWord_181 rfl (fun _ => Or.inr (by decide))
      by_cases k_179 : op = 179
      · subst k_179
        refine lv_lookup (tgt := 180) hx hb dX1_needsWord_57 (by decide) rfl (by decide) ?_
        refine lv_iconst (v := 0) hx hb dX1_needsWord_180 (by decide) ?_
        exact ps_zret hx hb hr hlocks dX1_needsWord_181 rfl (fun _ => Or.inr (by decide))
      by_cases k_185 : op = 185
      · subst k_185
        refine lv_lookup (tgt := 180) hx hb dX1_needsWord_57 (by decide) rfl (by decide) ?_
        refine lv_iconst (v := 0) hx hb dX1_needsWord_180 (by decide) ?_
        exact ps_zret hx hb hr hlocks dX1_needsWord_181 rfl (fun _ => Or.inr (by decide))
      by_cases k_189 : op = 189
      · subst k_189
        refine lv_lookup (tgt := 180) hx hb dX1_needsWord_57 (by decide) rfl (by decide) ?_
        refine lv_iconst (v := 0) hx hb dX1_needsWord_180 (by decide) ?_
        exact ps_zret hx hb hr hlocks dX1_needsWord_181 rfl (fun _ => Or.inr (by decide))
      by_cases k_256 : op = 256
      · subst k_256
        refine lv_lookup (tgt := 180) hx hb dX1_needsWord_57 (by decide) rfl (by decide) ?_
        refine lv_iconst (v := 0) hx hb dX1_needsWord_180 (by decide) ?_
        exact ps_zret hx hb hr hlocks dX1_needsWord_181 rfl (fun _ => Or.inr (by decide))
      by_cases k_261 : op = 261
      · subst k_261
        refine lv_lookup (tgt := 180) hx hb dX1_needsWord_57 (by decide) rfl (by decide) ?_
        refine lv_iconst (v := 0) hx hb dX1_needsWord_180 (by decide) ?_
        exact ps_zret hx hb hr hlocks dX1_needsWord_181 rfl (fun _ => Or.inr (by decide))
      by_cases k_281 : op = 281
      · subst k_281
        refine lv_lookup (tgt := 180) hx hb dX1_needsWord_57 (by decide) rfl (by decide) ?_
        refine lv_iconst (v := 0) hx hb dX1_needsWord_180 (by decide) ?_
        exact ps_zret hx hb hr hlocks dX1_needsWord_181 rfl (fun _ => Or.inr (by decide))
      by_cases k_285 : op = 285
      · subst k_285
        refine lv_lookup (tgt := 180) hx hb dX1_needsWord_57 (by decide) rfl (by decide) ?_
        refine lv_iconst (v := 0) hx hb dX1_needsWord_180 (by decide) ?_
        exact ps_zret hx hb hr hlocks dX1_needsWord_181 rfl (fun _ => Or.inr (by decide))
      by_cases k_296 : op = 296
      · subst k_296
        refine lv_lookup (tgt := 180) hx hb dX1_needsWord_57 (by decide) rfl (by decide) ?_
        refine lv_iconst (v := 0) hx hb dX1_needsWord_180 (by decide) ?_
        exact ps_zret hx hb hr hlocks dX1_needsWord_181 rfl (fun _ => Or.inr (by decide))
      refine lv_lookup (off := 125) (tgt := 182) hx hb dX1_needsWord_57 (by decide) ((lv_osw k_129 (by decide)).trans <| (lv_osw k_145 (by decide)).trans <| (lv_osw k_153 (by decide)).trans <| (lv_osw k_162 (by decide)).trans <| (lv_osw k_172 (by decide)).trans <| (lv_osw k_176 (by decide)).trans <| (lv_osw k_179 (by decide)).trans <| (lv_osw k_185 (by decide)).trans <| (lv_osw k_189 (by decide)).trans <| (lv_osw k_256 (by decide)).trans <| (lv_osw k_261 (by decide)).trans <| (lv_osw k_281 (by decide)).trans <| (lv_osw k_285 (by decide)).trans <| (lv_osw k_296 (by decide)).trans <| rfl) (by decide) ?_
      refine lv_iconst (v := 1) hx hb dX1_needsWord_182 (by decide) ?_
      exact ps_zret hx hb hr hlocks dX1_needsWord_183 rfl (fun hz => absurd hz (by decide))
    · refine lv_iload_n hx hb dX1_needsWord_14 rfl (lv_at hl 0 rfl) ?_
      refine lv_bipush (v := 56) hx hb dX1_needsWord_15 (by decide) ?_
      refine lv_iand hx hb dX1_needsWord_17 ?_
      refine lv_bipush (v := 8) hx hb dX1_needsWord_18 (by decide) ?_
      refine lv_icmp_eq (tgt := 50) hx hb dX1_needsWord_20 (by decide) (fun c_20 => ?_) (fun c_20 => ?_)
      · refine lv_iconst (v := 1) hx hb dX1_needsWord_50 (by decide) ?_
        refine lv_goto (tgt := 55) hx hb dX1_needsWord_51 (by decide) ?_
        exact ps_zret hx hb hr hlocks dX1_needsWord_55 rfl (fun hz => absurd hz (by decide))
      · refine lv_iload_n hx hb dX1_needsWord_23 rfl (lv_at hl 0 rfl) ?_
        refine lv_bipush (v := 56) hx hb dX1_needsWord_24 (by decide) ?_
        refine lv_iand hx hb dX1_needsWord_26 ?_
        refine lv_bipush (v := 24) hx hb dX1_needsWord_27 (by decide) ?_
        refine lv_icmp_eq (tgt := 50) hx hb dX1_needsWord_29 (by decide) (fun c_29 => ?_) (fun c_29 => ?_)
        · refine lv_iconst (v := 1) hx hb dX1_needsWord_50 (by decide) ?_
          refine lv_goto (tgt := 55) hx hb dX1_needsWord_51 (by decide) ?_
          exact ps_zret hx hb hr hlocks dX1_needsWord_55 rfl (fun hz => absurd hz (by decide))
        · refine lv_iload_n hx hb dX1_needsWord_32 rfl (lv_at hl 0 rfl) ?_
          refine lv_bipush (v := 56) hx hb dX1_needsWord_33 (by decide) ?_
          refine lv_iand hx hb dX1_needsWord_35 ?_
          refine lv_bipush (v := 40) hx hb dX1_needsWord_36 (by decide) ?_
          refine lv_icmp_eq (tgt := 50) hx hb dX1_needsWord_38 (by decide) (fun c_38 => ?_) (fun c_38 => ?_)
          · refine lv_iconst (v := 1) hx hb dX1_needsWord_50 (by decide) ?_
            refine lv_goto (tgt := 55) hx hb dX1_needsWord_51 (by decide) ?_
            exact ps_zret hx hb hr hlocks dX1_needsWord_55 rfl (fun hz => absurd hz (by decide))
          · refine lv_iload_n hx hb dX1_needsWord_41 rfl (lv_at hl 0 rfl) ?_
            refine lv_bipush (v := 56) hx hb dX1_needsWord_42 (by decide) ?_
            refine lv_iand hx hb dX1_needsWord_44 ?_
            refine lv_bipush (v := 56) hx hb dX1_needsWord_45 (by decide) ?_
            refine lv_icmp_ne (tgt := 54) hx hb dX1_needsWord_47 (by decide) (fun c_47 => ?_) (fun c_47 => ?_)
            · refine lv_iconst (v := 0) hx hb dX1_needsWord_54 (by decide) ?_
              exact ps_zret hx hb hr hlocks dX1_needsWord_55 rfl (fun _ => Or.inl ⟨c_4, c_11, c_20, c_29, c_38, c_47⟩)
            · refine lv_iconst (v := 1) hx hb dX1_needsWord_50 (by decide) ?_
              refine lv_goto (tgt := 55) hx hb dX1_needsWord_51 (by decide) ?_
              exact ps_zret hx hb hr hlocks dX1_needsWord_55 rfl (fun hz => absurd hz (by decide))
theorem iw_X1_thrown : ∀ w ∈ u_ws RX1 TX1 6, w ∈ wsX1_thrown := by decide +kernel
set_option maxHeartbeats 4000000 in
set_option maxRecDepth 100000 in
theorem kX1_thrown (l : Launch) (D : va_G) (h a : Nat) (cA : ClassId) (u : rS) (hI : rI u)   : MM l yX1_thrown wsX1_thrown ({ frames := 0, cells := 0, slots := 0, locals := 0 }) D vwCl [(cA, .long)] (rW h a cA) (wA h a) u [.ref h] rv_i (fun r u' => u' = u ∧ r = u.2.1) := by
  refine mm_of (cc := cX1_thrown) (maxL := 1) (ret := (some .int)) (by decide) rfl (Nat.le_of_ble_eq_true rfl) (rA_in h a cA u) ?_
  intro p e s m below meth c ls C hl hP hK hD hS
  obtain ⟨hx, hb, hr, hml, hown, hts, hlocks⟩ := C
  have hl : lv_has ls 1 [(0, .ref h)] := hl
  refine lv_aload_n hx hb dX1_thrown_0 rfl (lv_at hl 0 rfl) ?_
  refine va_get (D := D) (ci := 1) (v := .int u.2.1) (C := RX1) (T := TX1) (N := 6) hx hb hts iw_X1_thrown hown hK hP 0 rfl rfl 0 (by decide) (hts (.fieldLink RX1 13 "WordMillModel" "thrown" "I") (by decide +kernel)) (fun _ h9 => h9) rfl dX1_thrown_1 ?_
  exact mm_iret (mw := rW h a cA) (u1 := (u.1, u.2.1, u.2.2.1, u.2.2.2.1, u.2.2.2.2.1, u.2.2.2.2.2)) hx hb hr hlocks hP hK hD hS dX1_thrown_4 ⟨rfl, rfl⟩
theorem iw_X1_bad : ∀ w ∈ u_ws RX1 TX1 6, w ∈ wsX1_bad := by decide +kernel
set_option maxHeartbeats 4000000 in
set_option maxRecDepth 100000 in
theorem kX1_bad (l : Launch) (D : va_G) (h a : Nat) (cA : ClassId) (u : rS) (hI : rI u) (z0 : Int32) (hz : z0 = 0 ∨ z0 = 1) : MM l yX1_bad wsX1_bad ({ frames := 0, cells := 0, slots := 0, locals := 0 }) D vwCl [(cA, .long)] (rW h a cA) (wA h a) u [.ref h, .int z0] rv_i (fun r u' => u' = (u.1, z0, u.2.2.1, u.2.2.2.1, u.2.2.2.2.1, u.2.2.2.2.2) ∧ r = z0) := by
  refine mm_of (cc := cX1_bad) (maxL := 2) (ret := (some .boolean)) (by decide) rfl (Nat.le_of_ble_eq_true rfl) (rA_in h a cA u) ?_
  intro p e s m below meth c ls C hl hP hK hD hS
  obtain ⟨hx, hb, hr, hml, hown, hts, hlocks⟩ := C
  have hl : lv_has ls 2 [(0, .ref h), (1, .int z0)] := hl
  refine lv_aload_n hx hb dX1_bad_0 rfl (lv_at hl 0 rfl) ?_
  refine lv_iload_n hx hb dX1_bad_1 rfl (lv_at hl 1 rfl) ?_
  refine lv_if_eq (tgt := 9) hx hb dX1_bad_2 (by decide) (fun c_2 => ?_) (fun c_2 => ?_)
  · refine lv_iconst (v := 0) hx hb dX1_bad_9 (by decide) ?_
    refine va_put (D := D) (ci := 1) (v := .int 0) (ty := .int) (C := RX1) (T := TX1) (N := 6) hx hb hts iw_X1_bad tyX1 tyX1_ok nmX1 hown hK hP hD hS 0 rfl rfl 0 (by decide) (hts (.fieldLink RX1 13 "WordMillModel" "thrown" "I") (by decide +kernel)) (fun _ h9 => h9) rfl (by decide +kernel) rfl rfl (Nat.le_of_ble_eq_true rfl) dX1_bad_10 (fun H locs hP hD hS => ?_)
    have hP : va_P D vwCl (rW h a cA (u.1, 0, u.2.2.1, u.2.2.2.1, u.2.2.2.2.1, u.2.2.2.2.2)) H := hP
    have hD : va_D (wA h a) (rW h a cA (u.1, 0, u.2.2.1, u.2.2.2.1, u.2.2.2.2.1, u.2.2.2.2.2)) := hD
    refine lv_iload_n hx hb dX1_bad_13 rfl (lv_at hl 1 rfl) ?_
    exact mm_zret (mw := rW h a cA) (u1 := (u.1, 0, u.2.2.1, u.2.2.2.1, u.2.2.2.2.1, u.2.2.2.2.2)) hx hb hr hlocks hP hK hD hS dX1_bad_14 (bad_n hz) ⟨by rw [bad_0 hz c_2], rfl⟩
  · refine lv_iconst (v := 1) hx hb dX1_bad_5 (by decide) ?_
    refine lv_goto (tgt := 10) hx hb dX1_bad_6 (by decide) ?_
    refine va_put (D := D) (ci := 1) (v := .int 1) (ty := .int) (C := RX1) (T := TX1) (N := 6) hx hb hts iw_X1_bad tyX1 tyX1_ok nmX1 hown hK hP hD hS 0 rfl rfl 0 (by decide) (hts (.fieldLink RX1 13 "WordMillModel" "thrown" "I") (by decide +kernel)) (fun _ h9 => h9) rfl (by decide +kernel) rfl rfl (Nat.le_of_ble_eq_true rfl) dX1_bad_10 (fun H locs hP hD hS => ?_)
    have hP : va_P D vwCl (rW h a cA (u.1, 1, u.2.2.1, u.2.2.2.1, u.2.2.2.2.1, u.2.2.2.2.2)) H := hP
    have hD : va_D (wA h a) (rW h a cA (u.1, 1, u.2.2.1, u.2.2.2.1, u.2.2.2.2.1, u.2.2.2.2.2)) := hD
    refine lv_iload_n hx hb dX1_bad_13 rfl (lv_at hl 1 rfl) ?_
    exact mm_zret (mw := rW h a cA) (u1 := (u.1, 1, u.2.2.1, u.2.2.2.1, u.2.2.2.2.1, u.2.2.2.2.2)) hx hb hr hlocks hP hK hD hS dX1_bad_14 (bad_n hz) ⟨by rw [bad_1 hz c_2], rfl⟩
theorem iw_X1_at : ∀ w ∈ u_ws RX1 TX1 6, w ∈ wsX1_at := by decide +kernel
set_option maxHeartbeats 4000000 in
set_option maxRecDepth 100000 in
theorem kX1_at (l : Launch) (D : va_G) (h a : Nat) (cA : ClassId) (u : rS) (hI : rI u) (p0 : Int64)  : MM l yX1_at wsX1_at ({ frames := 1, cells := 0, slots := 0, locals := 21 }) D vwCl [(cA, .long)] (rW h a cA) (wA h a) u [.ref h, .long p0] rv_l (fun _ u' => rK u u' ∧ (u'.2.2.2.2.1 = 0 → pl p0)) := by
  refine mm_of (cc := cX1_at) (maxL := 3) (ret := (some .long)) (by decide) rfl (Nat.le_of_ble_eq_true rfl) (rA_in h a cA u) ?_
  intro p e s m below meth c ls C hl hP hK hD hS
  obtain ⟨hx, hb, hr, hml, hown, hts, hlocks⟩ := C
  have hl : lv_has ls 3 [(0, .ref h), (1, .long p0)] := hl
  refine lv_lload_n hx hb dX1_at_0 rfl (lv_at hl 1 rfl) ?_
  refine ps_goi (As := [.long p0]) (rest := []) ⟨hx, hb, hml, hown, hts⟩ (kX1_isPlace l p0) (va_cwS 1 hts gX1_at_X1_isPlace rfl rfl rfl (by decide +kernel) ⟨by decide, by decide⟩) rfl hl.1 rfl (Nat.le_of_ble_eq_true rfl) dX1_at_1 ⟨Nat.zero_le _, Nat.zero_le _⟩ (fun r_1 q_1 => ?_)
  refine lv_if_eq (tgt := 15) hx hb dX1_at_4 (by decide) (fun c_4 => ?_) (fun c_4 => ?_)
  · refine lv_aload_n hx hb dX1_at_15 rfl (lv_at hl 0 rfl) ?_
    refine lv_iconst (v := 2) hx hb dX1_at_16 (by decide) ?_
    refine va_put (D := D) (ci := 1) (v := .int 2) (ty := .int) (C := RX1) (T := TX1) (N := 6) hx hb hts iw_X1_at tyX1 tyX1_ok nmX1 hown hK hP hD hS 0 rfl rfl 4 (by decide) (hts (.fieldLink RX1 36 "WordMillModel" "fault" "I") (by decide +kernel)) (fun _ h9 => h9) rfl (by decide +kernel) rfl rfl (Nat.le_of_ble_eq_true rfl) dX1_at_17 (fun H locs hP hD hS => ?_)
    have hP : va_P D vwCl (rW h a cA (u.1, u.2.1, u.2.2.1, u.2.2.2.1, 2, u.2.2.2.2.2)) H := hP
    have hD : va_D (wA h a) (rW h a cA (u.1, u.2.1, u.2.2.1, u.2.2.2.1, 2, u.2.2.2.2.2)) := hD
    refine lv_lconst (v := 0) hx hb dX1_at_20 (by decide) ?_
    exact mm_lret (mw := rW h a cA) (u1 := (u.1, u.2.1, u.2.2.1, u.2.2.2.1, 2, u.2.2.2.2.2)) hx hb hr hlocks hP hK hD hS dX1_at_21 ⟨⟨hI, rfl, rfl⟩, fun hz => absurd hz (show ¬ ((2 : Int32) = 0) by decide)⟩
  · refine lv_aload_n hx hb dX1_at_7 rfl (lv_at hl 0 rfl) ?_
    refine va_get (D := D) (ci := 1) (v := .ref a) (C := RX1) (T := TX1) (N := 6) hx hb hts iw_X1_at hown hK hP 0 rfl rfl 1 (by decide) (hts (.fieldLink RX1 7 "WordMillModel" "memory" "[J") (by decide +kernel)) (fun _ h9 => h9) rfl dX1_at_8 ?_
    refine lv_lload_n hx hb dX1_at_11 rfl (lv_at hl 1 rfl) ?_
    refine lv_l2i hx hb dX1_at_12 rfl ?_
    refine va_lald hx hb hK hP 1 0 rfl rfl (pl_in (by rcases q_1 with q | q; exact absurd q.1 c_4; exact q.2)) dX1_at_13 ?_
    exact mm_lret (mw := rW h a cA) (u1 := (u.1, u.2.1, u.2.2.1, u.2.2.2.1, u.2.2.2.2.1, u.2.2.2.2.2)) hx hb hr hlocks hP hK hD hS dX1_at_14 ⟨⟨hI, rfl, rfl⟩, fun _ => (by rcases q_1 with q | q; exact absurd q.1 c_4; exact q.2)⟩
theorem iw_X1_divided : ∀ w ∈ u_ws RX1 TX1 6, w ∈ wsX1_divided := by decide +kernel
set_option maxHeartbeats 4000000 in
set_option maxRecDepth 100000 in
theorem kX1_divided (l : Launch) (D : va_G) (h a : Nat) (cA : ClassId) (u : rS) (hI : rI u) (ac : Int32) (x0 : Int64) (y0 : Int64) (hac : vp_in ac 4096) : MM l yX1_divided wsX1_divided ({ frames := 0, cells := 0, slots := 0, locals := 0 }) D vwCl [(cA, .long)] (rW h a cA) (wA h a) u [.ref h, .int ac, .long x0, .long y0] rv_v (fun _ u' => rK u u') := by
  refine mm_of (cc := cX1_divided) (maxL := 6) (ret := none) (by decide) rfl (Nat.le_of_ble_eq_true rfl) (rA_in h a cA u) ?_
  intro p e s m below meth c ls C hl hP hK hD hS
  obtain ⟨hx, hb, hr, hml, hown, hts, hlocks⟩ := C
  have hl : lv_has ls 6 [(0, .ref h), (1, .int ac), (2, .long x0), (4, .long y0)] := hl
  refine lv_lload hx hb dX1_divided_0 (lv_at hl 3 rfl) ?_
  refine lv_lconst (v := 0) hx hb dX1_divided_2 (by decide) ?_
  refine W.lcmp hx hb dX1_divided_3 ?_
  refine lv_if_eq (tgt := 24) hx hb dX1_divided_4 (by decide) (fun c_4 => ?_) (fun c_4 => ?_)
  · refine lv_aload_n hx hb dX1_divided_24 rfl (lv_at hl 0 rfl) ?_
    refine lv_iconst (v := 3) hx hb dX1_divided_25 (by decide) ?_
    refine va_put (D := D) (ci := 1) (v := .int 3) (ty := .int) (C := RX1) (T := TX1) (N := 6) hx hb hts iw_X1_divided tyX1 tyX1_ok nmX1 hown hK hP hD hS 0 rfl rfl 4 (by decide) (hts (.fieldLink RX1 36 "WordMillModel" "fault" "I") (by decide +kernel)) (fun _ h9 => h9) rfl (by decide +kernel) rfl rfl (Nat.le_of_ble_eq_true rfl) dX1_divided_26 (fun H locs hP hD hS => ?_)
    have hP : va_P D vwCl (rW h a cA (u.1, u.2.1, u.2.2.1, u.2.2.2.1, 3, u.2.2.2.2.2)) H := hP
    have hD : va_D (wA h a) (rW h a cA (u.1, u.2.1, u.2.2.1, u.2.2.2.1, 3, u.2.2.2.2.2)) := hD
    exact mm_vret (mw := rW h a cA) (u1 := (u.1, u.2.1, u.2.2.1, u.2.2.2.1, 3, u.2.2.2.2.2)) hx hb hr hlocks hP hK hD hS dX1_divided_29 ⟨hI, rfl, rfl⟩
  · refine lv_lload_n hx hb dX1_divided_7 rfl (lv_at hl 2 rfl) ?_
    refine lv_ldc2 (v := -34359738368) hx hb hown (hts (.constantLong RX1 103 (-34359738368)) (by decide +kernel)) dX1_divided_8 ?_
    refine W.lcmp hx hb dX1_divided_11 ?_
    refine lv_if_ne (tgt := 30) hx hb dX1_divided_12 (by decide) (fun c_12 => ?_) (fun c_12 => ?_)
    · refine lv_aload_n hx hb dX1_divided_30 rfl (lv_at hl 0 rfl) ?_
      refine va_get (D := D) (ci := 1) (v := .ref a) (C := RX1) (T := TX1) (N := 6) hx hb hts iw_X1_divided hown hK hP 0 rfl rfl 1 (by decide) (hts (.fieldLink RX1 7 "WordMillModel" "memory" "[J") (by decide +kernel)) (fun _ h9 => h9) rfl dX1_divided_31 ?_
      refine lv_iload_n hx hb dX1_divided_34 rfl (lv_at hl 1 rfl) ?_
      refine lv_lload_n hx hb dX1_divided_35 rfl (lv_at hl 2 rfl) ?_
      refine lv_lload hx hb dX1_divided_36 (lv_at hl 3 rfl) ?_
      refine lv_ldiv hx hb dX1_divided_38 (fun hz => c_4 (by rw [hz]; rfl)) ?_
      refine lv_ldc2 (v := 68719476735) hx hb hown (hts (.constantLong RX1 27 68719476735) (by decide +kernel)) dX1_divided_39 ?_
      refine lv_land hx hb dX1_divided_42 ?_
      refine va_last hx hb hK hP hD hS 1 0 rfl rfl hac dX1_divided_43 (fun H locs hP hD hS => ?_)
      have hP : va_P D vwCl (rW h a cA ((vp_updL u.1 (ac : Int32).toNatClampNeg ((x0 / y0) &&& 68719476735)), u.2.1, u.2.2.1, u.2.2.2.1, u.2.2.2.2.1, u.2.2.2.2.2)) H := hP
      have hD : va_D (wA h a) (rW h a cA ((vp_updL u.1 (ac : Int32).toNatClampNeg ((x0 / y0) &&& 68719476735)), u.2.1, u.2.2.1, u.2.2.2.1, u.2.2.2.2.1, u.2.2.2.2.2)) := hD
      generalize (vp_updL u.1 (ac : Int32).toNatClampNeg ((x0 / y0) &&& 68719476735)) = f_43 at hP hD
      refine lv_aload_n hx hb dX1_divided_44 rfl (lv_at hl 0 rfl) ?_
      refine va_get (D := D) (ci := 1) (v := .ref a) (C := RX1) (T := TX1) (N := 6) hx hb hts iw_X1_divided hown hK hP 0 rfl rfl 1 (by decide) (hts (.fieldLink RX1 7 "WordMillModel" "memory" "[J") (by decide +kernel)) (fun _ h9 => h9) rfl dX1_divided_45 ?_
      refine lv_iload_n hx hb dX1_divided_48 rfl (lv_at hl 1 rfl) ?_
      refine lv_iconst (v := 1) hx hb dX1_divided_49 (by decide) ?_
      refine lv_iadd hx hb dX1_divided_50 ?_
      refine lv_bipush (v := 15) hx hb dX1_divided_51 (by decide) ?_
      refine lv_iand hx hb dX1_divided_53 ?_
      refine lv_lload_n hx hb dX1_divided_54 rfl (lv_at hl 2 rfl) ?_
      refine lv_lload hx hb dX1_divided_55 (lv_at hl 3 rfl) ?_
      refine lv_lrem hx hb dX1_divided_57 (fun hz => c_4 (by rw [hz]; rfl)) ?_
      refine lv_ldc2 (v := 68719476735) hx hb hown (hts (.constantLong RX1 27 68719476735) (by decide +kernel)) dX1_divided_58 ?_
      refine lv_land hx hb dX1_divided_61 ?_
      refine va_last hx hb hK hP hD hS 1 0 rfl rfl (vp_and15 _) dX1_divided_62 (fun H locs hP hD hS => ?_)
      have hP : va_P D vwCl (rW h a cA ((vp_updL f_43 (((ac + 1) &&& 15) : Int32).toNatClampNeg ((x0 - x0 / y0 * y0) &&& 68719476735)), u.2.1, u.2.2.1, u.2.2.2.1, u.2.2.2.2.1, u.2.2.2.2.2)) H := hP
      have hD : va_D (wA h a) (rW h a cA ((vp_updL f_43 (((ac + 1) &&& 15) : Int32).toNatClampNeg ((x0 - x0 / y0 * y0) &&& 68719476735)), u.2.1, u.2.2.1, u.2.2.2.1, u.2.2.2.2.1, u.2.2.2.2.2)) := hD
      generalize (vp_updL f_43 (((ac + 1) &&& 15) : Int32).toNatClampNeg ((x0 - x0 / y0 * y0) &&& 68719476735)) = f_62 at hP hD
      exact mm_vret (mw := rW h a cA) (u1 := (f_62, u.2.1, u.2.2.1, u.2.2.2.1, u.2.2.2.2.1, u.2.2.2.2.2)) hx hb hr hlocks hP hK hD hS dX1_divided_63 ⟨hI, rfl, rfl⟩
    · refine lv_lload hx hb dX1_divided_15 (lv_at hl 3 rfl) ?_
      refine lv_ldc2 (v := -1) hx hb hown (hts (.constantLong RX1 105 (-1)) (by decide +kernel)) dX1_divided_17 ?_
      refine W.lcmp hx hb dX1_divided_20 ?_
      refine lv_if_ne (tgt := 30) hx hb dX1_divided_21 (by decide) (fun c_21 => ?_) (fun c_21 => ?_)
      · refine lv_aload_n hx hb dX1_divided_30 rfl (lv_at hl 0 rfl) ?_
        refine va_get (D := D) (ci := 1) (v := .ref a) (C := RX1) (T := TX1) (N := 6) hx hb hts iw_X1_divided hown hK hP 0 rfl rfl 1 (by decide) (hts (.fieldLink RX1 7 "WordMillModel" "memory" "[J") (by decide +kernel)) (fun _ h9 => h9) rfl dX1_divided_31 ?_
        refine lv_iload_n hx hb dX1_divided_34 rfl (lv_at hl 1 rfl) ?_
        refine lv_lload_n hx hb dX1_divided_35 rfl (lv_at hl 2 rfl) ?_
        refine lv_lload hx hb dX1_divided_36 (lv_at hl 3 rfl) ?_
        refine lv_ldiv hx hb dX1_divided_38 (fun hz => c_4 (by rw [hz]; rfl)) ?_
        refine lv_ldc2 (v := 68719476735) hx hb hown (hts (.constantLong RX1 27 68719476735) (by decide +kernel)) dX1_divided_39 ?_
        refine lv_land hx hb dX1_divided_42 ?_
        refine va_last hx hb hK hP hD hS 1 0 rfl rfl hac dX1_divided_43 (fun H locs hP hD hS => ?_)
        have hP : va_P D vwCl (rW h a cA ((vp_updL u.1 (ac : Int32).toNatClampNeg ((x0 / y0) &&& 68719476735)), u.2.1, u.2.2.1, u.2.2.2.1, u.2.2.2.2.1, u.2.2.2.2.2)) H := hP
        have hD : va_D (wA h a) (rW h a cA ((vp_updL u.1 (ac : Int32).toNatClampNeg ((x0 / y0) &&& 68719476735)), u.2.1, u.2.2.1, u.2.2.2.1, u.2.2.2.2.1, u.2.2.2.2.2)) := hD
        generalize (vp_updL u.1 (ac : Int32).toNatClampNeg ((x0 / y0) &&& 68719476735)) = f_43 at hP hD
        refine lv_aload_n hx hb dX1_divided_44 rfl (lv_at hl 0 rfl) ?_
        refine va_get (D := D) (ci := 1) (v := .ref a) (C := RX1) (T := TX1) (N := 6) hx hb hts iw_X1_divided hown hK hP 0 rfl rfl 1 (by decide) (hts (.fieldLink RX1 7 "WordMillModel" "memory" "[J") (by decide +kernel)) (fun _ h9 => h9) rfl dX1_divided_45 ?_
        refine lv_iload_n hx hb dX1_divided_48 rfl (lv_at hl 1 rfl) ?_
        refine lv_iconst (v := 1) hx hb dX1_divided_49 (by decide) ?_
        refine lv_iadd hx hb dX1_divided_50 ?_
        refine lv_bipush (v := 15) hx hb dX1_divided_51 (by decide) ?_
        refine lv_iand hx hb dX1_divided_53 ?_
        refine lv_lload_n hx hb dX1_divided_54 rfl (lv_at hl 2 rfl) ?_
        refine lv_lload hx hb dX1_divided_55 (lv_at hl 3 rfl) ?_
        refine lv_lrem hx hb dX1_divided_57 (fun hz => c_4 (by rw [hz]; rfl)) ?_
        refine lv_ldc2 (v := 68719476735) hx hb hown (hts (.constantLong RX1 27 68719476735) (by decide +kernel)) dX1_divided_58 ?_
        refine lv_land hx hb dX1_divided_61 ?_
        refine va_last hx hb hK hP hD hS 1 0 rfl rfl (vp_and15 _) dX1_divided_62 (fun H locs hP hD hS => ?_)
        have hP : va_P D vwCl (rW h a cA ((vp_updL f_43 (((ac + 1) &&& 15) : Int32).toNatClampNeg ((x0 - x0 / y0 * y0) &&& 68719476735)), u.2.1, u.2.2.1, u.2.2.2.1, u.2.2.2.2.1, u.2.2.2.2.2)) H := hP
        have hD : va_D (wA h a) (rW h a cA ((vp_updL f_43 (((ac + 1) &&& 15) : Int32).toNatClampNeg ((x0 - x0 / y0 * y0) &&& 68719476735)), u.2.1, u.2.2.1, u.2.2.2.1, u.2.2.2.2.1, u.2.2.2.2.2)) := hD
        generalize (vp_updL f_43 (((ac + 1) &&& 15) : Int32).toNatClampNeg ((x0 - x0 / y0 * y0) &&& 68719476735)) = f_62 at hP hD
        exact mm_vret (mw := rW h a cA) (u1 := (f_62, u.2.1, u.2.2.1, u.2.2.2.1, u.2.2.2.2.1, u.2.2.2.2.2)) hx hb hr hlocks hP hK hD hS dX1_divided_63 ⟨hI, rfl, rfl⟩
      · refine lv_aload_n hx hb dX1_divided_24 rfl (lv_at hl 0 rfl) ?_
        refine lv_iconst (v := 3) hx hb dX1_divided_25 (by decide) ?_
        refine va_put (D := D) (ci := 1) (v := .int 3) (ty := .int) (C := RX1) (T := TX1) (N := 6) hx hb hts iw_X1_divided tyX1 tyX1_ok nmX1 hown hK hP hD hS 0 rfl rfl 4 (by decide) (hts (.fieldLink RX1 36 "WordMillModel" "fault" "I") (by decide +kernel)) (fun _ h9 => h9) rfl (by decide +kernel) rfl rfl (Nat.le_of_ble_eq_true rfl) dX1_divided_26 (fun H locs hP hD hS => ?_)
        have hP : va_P D vwCl (rW h a cA (u.1, u.2.1, u.2.2.1, u.2.2.2.1, 3, u.2.2.2.2.2)) H := hP
        have hD : va_D (wA h a) (rW h a cA (u.1, u.2.1, u.2.2.1, u.2.2.2.1, 3, u.2.2.2.2.2)) := hD
        exact mm_vret (mw := rW h a cA) (u1 := (u.1, u.2.1, u.2.2.1, u.2.2.2.1, 3, u.2.2.2.2.2)) hx hb hr hlocks hP hK hD hS dX1_divided_29 ⟨hI, rfl, rfl⟩
theorem iw_X1_bits : ∀ w ∈ u_ws RX1 TX1 6, w ∈ wsX1_bits := by decide +kernel
set_option maxHeartbeats 4000000 in
set_option maxRecDepth 100000 in
theorem kX1_bits (l : Launch) (D : va_G) (h a : Nat) (cA : ClassId) (u : rS) (hI : rI u) (op : Int32) (ac : Int32) (c0 : Int64) (m0 : Int64) (hac : vp_in ac 4096) : MM l yX1_bits wsX1_bits ({ frames := 1, cells := 0, slots := 0, locals := 23 }) D vwCl [(cA, .long)] (rW h a cA) (wA h a) u [.ref h, .int op, .int ac, .long c0, .long m0] rv_v (fun _ u' => rK u u') := by
  refine mm_of (cc := cX1_bits) (maxL := 7) (ret := none) (by decide) rfl (Nat.le_of_ble_eq_true rfl) (rA_in h a cA u) ?_
  intro p e s m below meth c ls C hl hP hK hD hS
  obtain ⟨hx, hb, hr, hml, hown, hts, hlocks⟩ := C
  have hl : lv_has ls 7 [(0, .ref h), (1, .int op), (2, .int ac), (3, .long c0), (5, .long m0)] := hl
  refine lv_iload_n hx hb dX1_bits_0 rfl (lv_at hl 1 rfl) ?_
  by_cases k_260 : op = 260
  · subst k_260
    refine lv_lookup (tgt := 108) hx hb dX1_bits_1 (by decide) rfl (by decide) ?_
    refine lv_aload_n hx hb dX1_bits_108 rfl (lv_at hl 0 rfl) ?_
    refine va_get (D := D) (ci := 1) (v := .ref a) (C := RX1) (T := TX1) (N := 6) hx hb hts iw_X1_bits hown hK hP 0 rfl rfl 1 (by decide) (hts (.fieldLink RX1 7 "WordMillModel" "memory" "[J") (by decide +kernel)) (fun _ h9 => h9) rfl dX1_bits_109 ?_
    refine lv_iload_n hx hb dX1_bits_112 rfl (lv_at hl 2 rfl) ?_
    refine lv_lload_n hx hb dX1_bits_113 rfl (lv_at hl 3 rfl) ?_
    refine lv_lload hx hb dX1_bits_114 (lv_at hl 4 rfl) ?_
    refine lv_land hx hb dX1_bits_116 ?_
    refine va_last hx hb hK hP hD hS 1 0 rfl rfl hac dX1_bits_117 (fun H locs hP hD hS => ?_)
    have hP : va_P D vwCl (rW h a cA ((vp_updL u.1 (ac : Int32).toNatClampNeg (c0 &&& m0)), u.2.1, u.2.2.1, u.2.2.2.1, u.2.2.2.2.1, u.2.2.2.2.2)) H := hP
    have hD : va_D (wA h a) (rW h a cA ((vp_updL u.1 (ac : Int32).toNatClampNeg (c0 &&& m0)), u.2.1, u.2.2.1, u.2.2.2.1, u.2.2.2.2.1, u.2.2.2.2.2)) := hD
    generalize (vp_updL u.1 (ac : Int32).toNatClampNeg (c0 &&& m0)) = f_117 at hP hD
    refine lv_goto (tgt := 263) hx hb dX1_bits_118 (by decide) ?_
    exact mm_vret (mw := rW h a cA) (u1 := (f_117, u.2.1, u.2.2.1, u.2.2.2.1, u.2.2.2.2.1, u.2.2.2.2.2)) hx hb hr hlocks hP hK hD hS dX1_bits_263 ⟨hI, rfl, rfl⟩
  by_cases k_261 : op = 261
  · subst k_261
    refine lv_lookup (tgt := 108) hx hb dX1_bits_1 (by decide) rfl (by decide) ?_
    refine lv_aload_n hx hb dX1_bits_108 rfl (lv_at hl 0 rfl) ?_
    refine va_get (D := D) (ci := 1) (v := .ref a) (C := RX1) (T := TX1) (N := 6) hx hb hts iw_X1_bits hown hK hP 0 rfl rfl 1 (by decide) (hts (.fieldLink RX1 7 "WordMillModel" "memory" "[J") (by decide +kernel)) (fun _ h9 => h9) rfl dX1_bits_109 ?_
    refine lv_iload_n hx hb dX1_bits_112 rfl (lv_at hl 2 rfl) ?_
    refine lv_lload_n hx hb dX1_bits_113 rfl (lv_at hl 3 rfl) ?_
    refine lv_lload hx hb dX1_bits_114 (lv_at hl 4 rfl) ?_
    refine lv_land hx hb dX1_bits_116 ?_
    refine va_last hx hb hK hP hD hS 1 0 rfl rfl hac dX1_bits_117 (fun H locs hP hD hS => ?_)
    have hP : va_P D vwCl (rW h a cA ((vp_updL u.1 (ac : Int32).toNatClampNeg (c0 &&& m0)), u.2.1, u.2.2.1, u.2.2.2.1, u.2.2.2.2.1, u.2.2.2.2.2)) H := hP
    have hD : va_D (wA h a) (rW h a cA ((vp_updL u.1 (ac : Int32).toNatClampNeg (c0 &&& m0)), u.2.1, u.2.2.1, u.2.2.2.1, u.2.2.2.2.1, u.2.2.2.2.2)) := hD
    generalize (vp_updL u.1 (ac : Int32).toNatClampNeg (c0 &&& m0)) = f_117 at hP hD
    refine lv_goto (tgt := 263) hx hb dX1_bits_118 (by decide) ?_
    exact mm_vret (mw := rW h a cA) (u1 := (f_117, u.2.1, u.2.2.1, u.2.2.2.1, u.2.2.2.2.1, u.2.2.2.2.2)) hx hb hr hlocks hP hK hD hS dX1_bits_263 ⟨hI, rfl, rfl⟩
  by_cases k_280 : op = 280
  · subst k_280
    refine lv_lookup (tgt := 121) hx hb dX1_bits_1 (by decide) rfl (by decide) ?_
    refine lv_aload_n hx hb dX1_bits_121 rfl (lv_at hl 0 rfl) ?_
    refine va_get (D := D) (ci := 1) (v := .ref a) (C := RX1) (T := TX1) (N := 6) hx hb hts iw_X1_bits hown hK hP 0 rfl rfl 1 (by decide) (hts (.fieldLink RX1 7 "WordMillModel" "memory" "[J") (by decide +kernel)) (fun _ h9 => h9) rfl dX1_bits_122 ?_
    refine lv_iload_n hx hb dX1_bits_125 rfl (lv_at hl 2 rfl) ?_
    refine lv_lload_n hx hb dX1_bits_126 rfl (lv_at hl 3 rfl) ?_
    refine lv_lload hx hb dX1_bits_127 (lv_at hl 4 rfl) ?_
    refine lv_lxor hx hb dX1_bits_129 ?_
    refine va_last hx hb hK hP hD hS 1 0 rfl rfl hac dX1_bits_130 (fun H locs hP hD hS => ?_)
    have hP : va_P D vwCl (rW h a cA ((vp_updL u.1 (ac : Int32).toNatClampNeg (c0 ^^^ m0)), u.2.1, u.2.2.1, u.2.2.2.1, u.2.2.2.2.1, u.2.2.2.2.2)) H := hP
    have hD : va_D (wA h a) (rW h a cA ((vp_updL u.1 (ac : Int32).toNatClampNeg (c0 ^^^ m0)), u.2.1, u.2.2.1, u.2.2.2.1, u.2.2.2.2.1, u.2.2.2.2.2)) := hD
    generalize (vp_updL u.1 (ac : Int32).toNatClampNeg (c0 ^^^ m0)) = f_130 at hP hD
    refine lv_goto (tgt := 263) hx hb dX1_bits_131 (by decide) ?_
    exact mm_vret (mw := rW h a cA) (u1 := (f_130, u.2.1, u.2.2.1, u.2.2.2.1, u.2.2.2.2.1, u.2.2.2.2.2)) hx hb hr hlocks hP hK hD hS dX1_bits_263 ⟨hI, rfl, rfl⟩
  by_cases k_281 : op = 281
  · subst k_281
    refine lv_lookup (tgt := 121) hx hb dX1_bits_1 (by decide) rfl (by decide) ?_
    refine lv_aload_n hx hb dX1_bits_121 rfl (lv_at hl 0 rfl) ?_
    refine va_get (D := D) (ci := 1) (v := .ref a) (C := RX1) (T := TX1) (N := 6) hx hb hts iw_X1_bits hown hK hP 0 rfl rfl 1 (by decide) (hts (.fieldLink RX1 7 "WordMillModel" "memory" "[J") (by decide +kernel)) (fun _ h9 => h9) rfl dX1_bits_122 ?_
    refine lv_iload_n hx hb dX1_bits_125 rfl (lv_at hl 2 rfl) ?_
    refine lv_lload_n hx hb dX1_bits_126 rfl (lv_at hl 3 rfl) ?_
    refine lv_lload hx hb dX1_bits_127 (lv_at hl 4 rfl) ?_
    refine lv_lxor hx hb dX1_bits_129 ?_
    refine va_last hx hb hK hP hD hS 1 0 rfl rfl hac dX1_bits_130 (fun H locs hP hD hS => ?_)
    have hP : va_P D vwCl (rW h a cA ((vp_updL u.1 (ac : Int32).toNatClampNeg (c0 ^^^ m0)), u.2.1, u.2.2.1, u.2.2.2.1, u.2.2.2.2.1, u.2.2.2.2.2)) H := hP
    have hD : va_D (wA h a) (rW h a cA ((vp_updL u.1 (ac : Int32).toNatClampNeg (c0 ^^^ m0)), u.2.1, u.2.2.1, u.2.2.2.1, u.2.2.2.2.1, u.2.2.2.2.2)) := hD
    generalize (vp_updL u.1 (ac : Int32).toNatClampNeg (c0 ^^^ m0)) = f_130 at hP hD
    refine lv_goto (tgt := 263) hx hb dX1_bits_131 (by decide) ?_
    exact mm_vret (mw := rW h a cA) (u1 := (f_130, u.2.1, u.2.2.1, u.2.2.2.1, u.2.2.2.2.1, u.2.2.2.2.2)) hx hb hr hlocks hP hK hD hS dX1_bits_263 ⟨hI, rfl, rfl⟩
  by_cases k_284 : op = 284
  · subst k_284
    refine lv_lookup (tgt := 134) hx hb dX1_bits_1 (by decide) rfl (by decide) ?_
    refine lv_aload_n hx hb dX1_bits_134 rfl (lv_at hl 0 rfl) ?_
    refine va_get (D := D) (ci := 1) (v := .ref a) (C := RX1) (T := TX1) (N := 6) hx hb hts iw_X1_bits hown hK hP 0 rfl rfl 1 (by decide) (hts (.fieldLink RX1 7 "WordMillModel" "memory" "[J") (by decide +kernel)) (fun _ h9 => h9) rfl dX1_bits_135 ?_
    refine lv_iload_n hx hb dX1_bits_138 rfl (lv_at hl 2 rfl) ?_
    refine lv_lload_n hx hb dX1_bits_139 rfl (lv_at hl 3 rfl) ?_
    refine lv_lload hx hb dX1_bits_140 (lv_at hl 4 rfl) ?_
    refine lv_lor hx hb dX1_bits_142 ?_
    refine va_last hx hb hK hP hD hS 1 0 rfl rfl hac dX1_bits_143 (fun H locs hP hD hS => ?_)
    have hP : va_P D vwCl (rW h a cA ((vp_updL u.1 (ac : Int32).toNatClampNeg (c0 ||| m0)), u.2.1, u.2.2.1, u.2.2.2.1, u.2.2.2.2.1, u.2.2.2.2.2)) H := hP
    have hD : va_D (wA h a) (rW h a cA ((vp_updL u.1 (ac : Int32).toNatClampNeg (c0 ||| m0)), u.2.1, u.2.2.1, u.2.2.2.1, u.2.2.2.2.1, u.2.2.2.2.2)) := hD
    generalize (vp_updL u.1 (ac : Int32).toNatClampNeg (c0 ||| m0)) = f_143 at hP hD
    refine lv_goto (tgt := 263) hx hb dX1_bits_144 (by decide) ?_
    exact mm_vret (mw := rW h a cA) (u1 := (f_143, u.2.1, u.2.2.1, u.2.2.2.1, u.2.2.2.2.1, u.2.2.2.2.2)) hx hb hr hlocks hP hK hD hS dX1_bits_263 ⟨hI, rfl, rfl⟩
  by_cases k_285 : op = 285
  · subst k_285
    refine lv_lookup (tgt := 134) hx hb dX1_bits_1 (by decide) rfl (by decide) ?_
    refine lv_aload_n hx hb dX1_bits_134 rfl (lv_at hl 0 rfl) ?_
    refine va_get (D := D) (ci := 1) (v := .ref a) (C := RX1) (T := TX1) (N := 6) hx hb hts iw_X1_bits hown hK hP 0 rfl rfl 1 (by decide) (hts (.fieldLink RX1 7 "WordMillModel" "memory" "[J") (by decide +kernel)) (fun _ h9 => h9) rfl dX1_bits_135 ?_
    refine lv_iload_n hx hb dX1_bits_138 rfl (lv_at hl 2 rfl) ?_
    refine lv_lload_n hx hb dX1_bits_139 rfl (lv_at hl 3 rfl) ?_
    refine lv_lload hx hb dX1_bits_140 (lv_at hl 4 rfl) ?_
    refine lv_lor hx hb dX1_bits_142 ?_
    refine va_last hx hb hK hP hD hS 1 0 rfl rfl hac dX1_bits_143 (fun H locs hP hD hS => ?_)
    have hP : va_P D vwCl (rW h a cA ((vp_updL u.1 (ac : Int32).toNatClampNeg (c0 ||| m0)), u.2.1, u.2.2.1, u.2.2.2.1, u.2.2.2.2.1, u.2.2.2.2.2)) H := hP
    have hD : va_D (wA h a) (rW h a cA ((vp_updL u.1 (ac : Int32).toNatClampNeg (c0 ||| m0)), u.2.1, u.2.2.1, u.2.2.2.1, u.2.2.2.2.1, u.2.2.2.2.2)) := hD
    generalize (vp_updL u.1 (ac : Int32).toNatClampNeg (c0 ||| m0)) = f_143 at hP hD
    refine lv_goto (tgt := 263) hx hb dX1_bits_144 (by decide) ?_
    exact mm_vret (mw := rW h a cA) (u1 := (f_143, u.2.1, u.2.2.1, u.2.2.2.1, u.2.2.2.2.1, u.2.2.2.2.2)) hx hb hr hlocks hP hK hD hS dX1_bits_263 ⟨hI, rfl, rfl⟩
  by_cases k_296 : op = 296
  · subst k_296
    refine lv_lookup (tgt := 147) hx hb dX1_bits_1 (by decide) rfl (by decide) ?_
    refine lv_aload_n hx hb dX1_bits_147 rfl (lv_at hl 0 rfl) ?_
    refine va_get (D := D) (ci := 1) (v := .ref a) (C := RX1) (T := TX1) (N := 6) hx hb hts iw_X1_bits hown hK hP 0 rfl rfl 1 (by decide) (hts (.fieldLink RX1 7 "WordMillModel" "memory" "[J") (by decide +kernel)) (fun _ h9 => h9) rfl dX1_bits_148 ?_
    refine lv_iload_n hx hb dX1_bits_151 rfl (lv_at hl 2 rfl) ?_
    refine lv_lload_n hx hb dX1_bits_152 rfl (lv_at hl 3 rfl) ?_
    refine lv_ldc2 (v := -1) hx hb hown (hts (.constantLong RX1 105 (-1)) (by decide +kernel)) dX1_bits_153 ?_
    refine lv_lxor hx hb dX1_bits_156 ?_
    refine lv_ldc2 (v := 68719476735) hx hb hown (hts (.constantLong RX1 27 68719476735) (by decide +kernel)) dX1_bits_157 ?_
    refine lv_land hx hb dX1_bits_160 ?_
    refine va_last hx hb hK hP hD hS 1 0 rfl rfl hac dX1_bits_161 (fun H locs hP hD hS => ?_)
    have hP : va_P D vwCl (rW h a cA ((vp_updL u.1 (ac : Int32).toNatClampNeg ((c0 ^^^ -1) &&& 68719476735)), u.2.1, u.2.2.1, u.2.2.2.1, u.2.2.2.2.1, u.2.2.2.2.2)) H := hP
    have hD : va_D (wA h a) (rW h a cA ((vp_updL u.1 (ac : Int32).toNatClampNeg ((c0 ^^^ -1) &&& 68719476735)), u.2.1, u.2.2.1, u.2.2.2.1, u.2.2.2.2.1, u.2.2.2.2.2)) := hD
    generalize (vp_updL u.1 (ac : Int32).toNatClampNeg ((c0 ^^^ -1) &&& 68719476735)) = f_161 at hP hD
    refine lv_goto (tgt := 263) hx hb dX1_bits_162 (by decide) ?_
    exact mm_vret (mw := rW h a cA) (u1 := (f_161, u.2.1, u.2.2.1, u.2.2.2.1, u.2.2.2.2.1, u.2.2.2.2.2)) hx hb hr hlocks hP hK hD hS dX1_bits_263 ⟨hI, rfl, rfl⟩
  by_cases k_320 : op = 320
  · subst k_320
    refine lv_lookup (tgt := 165) hx hb dX1_bits_1 (by decide) rfl (by decide) ?_
    refine lv_aload_n hx hb dX1_bits_165 rfl (lv_at hl 0 rfl) ?_
    refine va_get (D := D) (ci := 1) (v := .ref a) (C := RX1) (T := TX1) (N := 6) hx hb hts iw_X1_bits hown hK hP 0 rfl rfl 1 (by decide) (hts (.fieldLink RX1 7 "WordMillModel" "memory" "[J") (by decide +kernel)) (fun _ h9 => h9) rfl dX1_bits_166 ?_
    refine lv_iload_n hx hb dX1_bits_169 rfl (lv_at hl 2 rfl) ?_
    refine lv_lload hx hb dX1_bits_170 (lv_at hl 4 rfl) ?_
    refine lv_lload_n hx hb dX1_bits_172 rfl (lv_at hl 3 rfl) ?_
    refine ps_gol (As := [.long m0, .long c0]) (rest := [.int ac, .ref a]) ⟨hx, hb, hml, hown, hts⟩ (kX1_half l m0 c0) (va_cwS 2 hts gX1_bits_X1_half rfl rfl rfl (by decide +kernel) ⟨by decide, by decide⟩) rfl hl.1 rfl (Nat.le_of_ble_eq_true rfl) dX1_bits_173 ⟨Nat.zero_le _, Nat.zero_le _⟩ (fun r_173 q_173 => ?_)
    refine va_last hx hb hK hP hD hS 1 0 rfl rfl hac dX1_bits_176 (fun H locs hP hD hS => ?_)
    have hP : va_P D vwCl (rW h a cA ((vp_updL u.1 (ac : Int32).toNatClampNeg r_173), u.2.1, u.2.2.1, u.2.2.2.1, u.2.2.2.2.1, u.2.2.2.2.2)) H := hP
    have hD : va_D (wA h a) (rW h a cA ((vp_updL u.1 (ac : Int32).toNatClampNeg r_173), u.2.1, u.2.2.1, u.2.2.2.1, u.2.2.2.2.1, u.2.2.2.2.2)) := hD
    generalize (vp_updL u.1 (ac : Int32).toNatClampNeg r_173) = f_176 at hP hD
    refine lv_goto (tgt := 263) hx hb dX1_bits_177 (by decide) ?_
    exact mm_vret (mw := rW h a cA) (u1 := (f_176, u.2.1, u.2.2.1, u.2.2.2.1, u.2.2.2.2.1, u.2.2.2.2.2)) hx hb hr hlocks hP hK hD hS dX1_bits_263 ⟨hI, rfl, rfl⟩
  by_cases k_324 : op = 324
  · subst k_324
    refine lv_lookup (tgt := 180) hx hb dX1_bits_1 (by decide) rfl (by decide) ?_
    refine lv_aload_n hx hb dX1_bits_180 rfl (lv_at hl 0 rfl) ?_
    refine va_get (D := D) (ci := 1) (v := .ref a) (C := RX1) (T := TX1) (N := 6) hx hb hts iw_X1_bits hown hK hP 0 rfl rfl 1 (by decide) (hts (.fieldLink RX1 7 "WordMillModel" "memory" "[J") (by decide +kernel)) (fun _ h9 => h9) rfl dX1_bits_181 ?_
    refine lv_iload_n hx hb dX1_bits_184 rfl (lv_at hl 2 rfl) ?_
    refine lv_lload hx hb dX1_bits_185 (lv_at hl 4 rfl) ?_
    refine lv_ldc2 (v := 262143) hx hb hown (hts (.constantLong RX1 31 262143) (by decide +kernel)) dX1_bits_187 ?_
    refine lv_land hx hb dX1_bits_190 ?_
    refine lv_bipush (v := 18) hx hb dX1_bits_191 (by decide) ?_
    refine lv_lshl hx hb dX1_bits_193 rfl ?_
    refine lv_lload_n hx hb dX1_bits_194 rfl (lv_at hl 3 rfl) ?_
    refine lv_ldc2 (v := 262143) hx hb hown (hts (.constantLong RX1 31 262143) (by decide +kernel)) dX1_bits_195 ?_
    refine lv_land hx hb dX1_bits_198 ?_
    refine lv_lor hx hb dX1_bits_199 ?_
    refine va_last hx hb hK hP hD hS 1 0 rfl rfl hac dX1_bits_200 (fun H locs hP hD hS => ?_)
    have hP : va_P D vwCl (rW h a cA ((vp_updL u.1 (ac : Int32).toNatClampNeg (((m0 &&& 262143) <<< ((18 : Int32).toInt64 &&& 63)) ||| (c0 &&& 262143))), u.2.1, u.2.2.1, u.2.2.2.1, u.2.2.2.2.1, u.2.2.2.2.2)) H := hP
    have hD : va_D (wA h a) (rW h a cA ((vp_updL u.1 (ac : Int32).toNatClampNeg (((m0 &&& 262143) <<< ((18 : Int32).toInt64 &&& 63)) ||| (c0 &&& 262143))), u.2.1, u.2.2.1, u.2.2.2.1, u.2.2.2.2.1, u.2.2.2.2.2)) := hD
    generalize (vp_updL u.1 (ac : Int32).toNatClampNeg (((m0 &&& 262143) <<< ((18 : Int32).toInt64 &&& 63)) ||| (c0 &&& 262143))) = f_200 at hP hD
    refine lv_goto (tgt := 263) hx hb dX1_bits_201 (by decide) ?_
    exact mm_vret (mw := rW h a cA) (u1 := (f_200, u.2.1, u.2.2.1, u.2.2.2.1, u.2.2.2.2.1, u.2.2.2.2.2)) hx hb hr hlocks hP hK hD hS dX1_bits_263 ⟨hI, rfl, rfl⟩
  by_cases k_352 : op = 352
  · subst k_352
    refine lv_lookup (tgt := 204) hx hb dX1_bits_1 (by decide) rfl (by decide) ?_
    refine lv_aload_n hx hb dX1_bits_204 rfl (lv_at hl 0 rfl) ?_
    refine va_get (D := D) (ci := 1) (v := .ref a) (C := RX1) (T := TX1) (N := 6) hx hb hts iw_X1_bits hown hK hP 0 rfl rfl 1 (by decide) (hts (.fieldLink RX1 7 "WordMillModel" "memory" "[J") (by decide +kernel)) (fun _ h9 => h9) rfl dX1_bits_205 ?_
    refine lv_iload_n hx hb dX1_bits_208 rfl (lv_at hl 2 rfl) ?_
    refine lv_lload_n hx hb dX1_bits_209 rfl (lv_at hl 3 rfl) ?_
    refine lv_lload hx hb dX1_bits_210 (lv_at hl 4 rfl) ?_
    refine ps_gol (As := [.long c0, .long m0]) (rest := [.int ac, .ref a]) ⟨hx, hb, hml, hown, hts⟩ (kX1_half l c0 m0) (va_cwS 2 hts gX1_bits_X1_half rfl rfl rfl (by decide +kernel) ⟨by decide, by decide⟩) rfl hl.1 rfl (Nat.le_of_ble_eq_true rfl) dX1_bits_212 ⟨Nat.zero_le _, Nat.zero_le _⟩ (fun r_212 q_212 => ?_)
    refine va_last hx hb hK hP hD hS 1 0 rfl rfl hac dX1_bits_215 (fun H locs hP hD hS => ?_)
    have hP : va_P D vwCl (rW h a cA ((vp_updL u.1 (ac : Int32).toNatClampNeg r_212), u.2.1, u.2.2.1, u.2.2.2.1, u.2.2.2.2.1, u.2.2.2.2.2)) H := hP
    have hD : va_D (wA h a) (rW h a cA ((vp_updL u.1 (ac : Int32).toNatClampNeg r_212), u.2.1, u.2.2.1, u.2.2.2.1, u.2.2.2.2.1, u.2.2.2.2.2)) := hD
    generalize (vp_updL u.1 (ac : Int32).toNatClampNeg r_212) = f_215 at hP hD
    refine lv_goto (tgt := 263) hx hb dX1_bits_216 (by decide) ?_
    exact mm_vret (mw := rW h a cA) (u1 := (f_215, u.2.1, u.2.2.1, u.2.2.2.1, u.2.2.2.2.1, u.2.2.2.2.2)) hx hb hr hlocks hP hK hD hS dX1_bits_263 ⟨hI, rfl, rfl⟩
  by_cases k_356 : op = 356
  · subst k_356
    refine lv_lookup (tgt := 219) hx hb dX1_bits_1 (by decide) rfl (by decide) ?_
    refine lv_aload_n hx hb dX1_bits_219 rfl (lv_at hl 0 rfl) ?_
    refine va_get (D := D) (ci := 1) (v := .ref a) (C := RX1) (T := TX1) (N := 6) hx hb hts iw_X1_bits hown hK hP 0 rfl rfl 1 (by decide) (hts (.fieldLink RX1 7 "WordMillModel" "memory" "[J") (by decide +kernel)) (fun _ h9 => h9) rfl dX1_bits_220 ?_
    refine lv_iload_n hx hb dX1_bits_223 rfl (lv_at hl 2 rfl) ?_
    refine lv_lload_n hx hb dX1_bits_224 rfl (lv_at hl 3 rfl) ?_
    refine lv_lload hx hb dX1_bits_225 (lv_at hl 4 rfl) ?_
    refine lv_bipush (v := 18) hx hb dX1_bits_227 (by decide) ?_
    refine lv_lshr hx hb dX1_bits_229 rfl ?_
    refine ps_gol (As := [.long c0, .long (m0 >>> ((18 : Int32).toInt64 &&& 63))]) (rest := [.int ac, .ref a]) ⟨hx, hb, hml, hown, hts⟩ (kX1_half l c0 (m0 >>> ((18 : Int32).toInt64 &&& 63))) (va_cwS 2 hts gX1_bits_X1_half rfl rfl rfl (by decide +kernel) ⟨by decide, by decide⟩) rfl hl.1 rfl (Nat.le_of_ble_eq_true rfl) dX1_bits_230 ⟨Nat.zero_le _, Nat.zero_le _⟩ (fun r_230 q_230 => ?_)
    refine va_last hx hb hK hP hD hS 1 0 rfl rfl hac dX1_bits_233 (fun H locs hP hD hS => ?_)
    have hP : va_P D vwCl (rW h a cA ((vp_updL u.1 (ac : Int32).toNatClampNeg r_230), u.2.1, u.2.2.1, u.2.2.2.1, u.2.2.2.2.1, u.2.2.2.2.2)) H := hP
    have hD : va_D (wA h a) (rW h a cA ((vp_updL u.1 (ac : Int32).toNatClampNeg r_230), u.2.1, u.2.2.1, u.2.2.2.1, u.2.2.2.2.1, u.2.2.2.2.2)) := hD
    generalize (vp_updL u.1 (ac : Int32).toNatClampNeg r_230) = f_233 at hP hD
    refine lv_goto (tgt := 263) hx hb dX1_bits_234 (by decide) ?_
    exact mm_vret (mw := rW h a cA) (u1 := (f_233, u.2.1, u.2.2.1, u.2.2.2.1, u.2.2.2.2.1, u.2.2.2.2.2)) hx hb hr hlocks hP hK hD hS dX1_bits_263 ⟨hI, rfl, rfl⟩
  by_cases k_360 : op = 360
  · subst k_360
    refine lv_lookup (tgt := 237) hx hb dX1_bits_1 (by decide) rfl (by decide) ?_
    refine lv_aload_n hx hb dX1_bits_237 rfl (lv_at hl 0 rfl) ?_
    refine va_get (D := D) (ci := 1) (v := .ref a) (C := RX1) (T := TX1) (N := 6) hx hb hts iw_X1_bits hown hK hP 0 rfl rfl 1 (by decide) (hts (.fieldLink RX1 7 "WordMillModel" "memory" "[J") (by decide +kernel)) (fun _ h9 => h9) rfl dX1_bits_238 ?_
    refine lv_iload_n hx hb dX1_bits_241 rfl (lv_at hl 2 rfl) ?_
    refine lv_lload hx hb dX1_bits_242 (lv_at hl 4 rfl) ?_
    refine lv_ldc2 (v := 262143) hx hb hown (hts (.constantLong RX1 31 262143) (by decide +kernel)) dX1_bits_244 ?_
    refine lv_land hx hb dX1_bits_247 ?_
    refine va_last hx hb hK hP hD hS 1 0 rfl rfl hac dX1_bits_248 (fun H locs hP hD hS => ?_)
    have hP : va_P D vwCl (rW h a cA ((vp_updL u.1 (ac : Int32).toNatClampNeg (m0 &&& 262143)), u.2.1, u.2.2.1, u.2.2.2.1, u.2.2.2.2.1, u.2.2.2.2.2)) H := hP
    have hD : va_D (wA h a) (rW h a cA ((vp_updL u.1 (ac : Int32).toNatClampNeg (m0 &&& 262143)), u.2.1, u.2.2.1, u.2.2.2.1, u.2.2.2.2.1, u.2.2.2.2.2)) := hD
    generalize (vp_updL u.1 (ac : Int32).toNatClampNeg (m0 &&& 262143)) = f_248 at hP hD
    refine lv_goto (tgt := 263) hx hb dX1_bits_249 (by decide) ?_
    exact mm_vret (mw := rW h a cA) (u1 := (f_248, u.2.1, u.2.2.1, u.2.2.2.1, u.2.2.2.2.1, u.2.2.2.2.2)) hx hb hr hlocks hP hK hD hS dX1_bits_263 ⟨hI, rfl, rfl⟩
  refine lv_lookup (off := 251) (tgt := 252) hx hb dX1_bits_1 (by decide) ((lv_osw k_260 (by decide)).trans <| (lv_osw k_261 (by decide)).trans <| (lv_osw k_280 (by decide)).trans <| (lv_osw k_281 (by decide)).trans <| (lv_osw k_284 (by decide)).trans <| (lv_osw k_285 (by decide)).trans <| (lv_osw k_296 (by decide)).trans <| (lv_osw k_320 (by decide)).trans <| (lv_osw k_324 (by decide)).trans <| (lv_osw k_352 (by decide)).trans <| (lv_osw k_356 (by decide)).trans <| (lv_osw k_360 (by decide)).trans <| rfl) (by decide) ?_
  refine lv_aload_n hx hb dX1_bits_252 rfl (lv_at hl 0 rfl) ?_
  refine va_get (D := D) (ci := 1) (v := .ref a) (C := RX1) (T := TX1) (N := 6) hx hb hts iw_X1_bits hown hK hP 0 rfl rfl 1 (by decide) (hts (.fieldLink RX1 7 "WordMillModel" "memory" "[J") (by decide +kernel)) (fun _ h9 => h9) rfl dX1_bits_253 ?_
  refine lv_iload_n hx hb dX1_bits_256 rfl (lv_at hl 2 rfl) ?_
  refine lv_lload hx hb dX1_bits_257 (lv_at hl 4 rfl) ?_
  refine lv_bipush (v := 18) hx hb dX1_bits_259 (by decide) ?_
  refine lv_lshr hx hb dX1_bits_261 rfl ?_
  refine va_last hx hb hK hP hD hS 1 0 rfl rfl hac dX1_bits_262 (fun H locs hP hD hS => ?_)
  have hP : va_P D vwCl (rW h a cA ((vp_updL u.1 (ac : Int32).toNatClampNeg (m0 >>> ((18 : Int32).toInt64 &&& 63))), u.2.1, u.2.2.1, u.2.2.2.1, u.2.2.2.2.1, u.2.2.2.2.2)) H := hP
  have hD : va_D (wA h a) (rW h a cA ((vp_updL u.1 (ac : Int32).toNatClampNeg (m0 >>> ((18 : Int32).toInt64 &&& 63))), u.2.1, u.2.2.1, u.2.2.2.1, u.2.2.2.2.1, u.2.2.2.2.2)) := hD
  generalize (vp_updL u.1 (ac : Int32).toNatClampNeg (m0 >>> ((18 : Int32).toInt64 &&& 63))) = f_262 at hP hD
  exact mm_vret (mw := rW h a cA) (u1 := (f_262, u.2.1, u.2.2.1, u.2.2.2.1, u.2.2.2.2.1, u.2.2.2.2.2)) hx hb hr hlocks hP hK hD hS dX1_bits_263 ⟨hI, rfl, rfl⟩
theorem iw_X1_moved : ∀ w ∈ u_ws RX1 TX1 6, w ∈ wsX1_moved := by decide +kernel
set_option maxHeartbeats 4000000 in
set_option maxRecDepth 100000 in
theorem kX1_moved (l : Launch) (D : va_G) (h a : Nat) (cA : ClassId) (u : rS) (hI : rI u) (op : Int32) (ac : Int32) (e0 : Int64) (m0 : Int64) (hac : vp_in ac 4096) (hne : fr op ∨ pl e0) : MM l yX1_moved wsX1_moved ({ frames := 2, cells := 0, slots := 0, locals := 49 }) D vwCl [(cA, .long)] (rW h a cA) (wA h a) u [.ref h, .int op, .int ac, .long e0, .long m0] rv_v (fun _ u' => rK u u') := by
  refine mm_of (cc := cX1_moved) (maxL := 11) (ret := none) (by decide) rfl (Nat.le_of_ble_eq_true rfl) (rA_in h a cA u) ?_
  intro p e s m below meth c ls C hl hP hK hD hS
  obtain ⟨hx, hb, hr, hml, hown, hts, hlocks⟩ := C
  have hl : lv_has ls 11 [(0, .ref h), (1, .int op), (2, .int ac), (3, .long e0), (5, .long m0)] := hl
  refine lv_aload_n hx hb dX1_moved_0 rfl (lv_at hl 0 rfl) ?_
  refine va_get (D := D) (ci := 1) (v := .ref a) (C := RX1) (T := TX1) (N := 6) hx hb hts iw_X1_moved hown hK hP 0 rfl rfl 1 (by decide) (hts (.fieldLink RX1 7 "WordMillModel" "memory" "[J") (by decide +kernel)) (fun _ h9 => h9) rfl dX1_moved_1 ?_
  refine lv_iload_n hx hb dX1_moved_4 rfl (lv_at hl 2 rfl) ?_
  refine va_lald hx hb hK hP 1 0 rfl rfl hac dX1_moved_5 ?_
  refine lv_topl (fun x_6 ex_6 => ?_)
  refine lv_lstore (lv' := [(7, .long x_6), (0, .ref h), (1, .int op), (2, .int ac), (3, .long e0), (5, .long m0)]) hx hb dX1_moved_6 hl (by decide) rfl (fun ls hl => ?_)
  refine lv_iload_n hx hb dX1_moved_8 rfl (lv_at hl 2 rfl) ?_
  by_cases k_128 : op = 128
  · subst k_128
    refine lv_lookup (tgt := 164) hx hb dX1_moved_9 (by decide) rfl (by decide) ?_
    refine lv_aload_n hx hb dX1_moved_164 rfl (lv_at hl 1 rfl) ?_
    refine va_get (D := D) (ci := 1) (v := .ref a) (C := RX1) (T := TX1) (N := 6) hx hb hts iw_X1_moved hown hK hP 0 rfl rfl 1 (by decide) (hts (.fieldLink RX1 7 "WordMillModel" "memory" "[J") (by decide +kernel)) (fun _ h9 => h9) rfl dX1_moved_165 ?_
    refine lv_iload_n hx hb dX1_moved_168 rfl (lv_at hl 3 rfl) ?_
    refine lv_lload hx hb dX1_moved_169 (lv_at hl 5 rfl) ?_
    refine va_last hx hb hK hP hD hS 1 0 rfl rfl hac dX1_moved_171 (fun H locs hP hD hS => ?_)
    have hP : va_P D vwCl (rW h a cA ((vp_updL u.1 (ac : Int32).toNatClampNeg m0), u.2.1, u.2.2.1, u.2.2.2.1, u.2.2.2.2.1, u.2.2.2.2.2)) H := hP
    have hD : va_D (wA h a) (rW h a cA ((vp_updL u.1 (ac : Int32).toNatClampNeg m0), u.2.1, u.2.2.1, u.2.2.2.1, u.2.2.2.2.1, u.2.2.2.2.2)) := hD
    generalize (vp_updL u.1 (ac : Int32).toNatClampNeg m0) = f_171 at hP hD
    refine lv_goto (tgt := 533) hx hb dX1_moved_172 (by decide) ?_
    exact mm_vret (mw := rW h a cA) (u1 := (f_171, u.2.1, u.2.2.1, u.2.2.2.1, u.2.2.2.2.1, u.2.2.2.2.2)) hx hb hr hlocks hP hK hD hS dX1_moved_533 ⟨hI, rfl, rfl⟩
  by_cases k_129 : op = 129
  · subst k_129
    refine lv_lookup (tgt := 175) hx hb dX1_moved_9 (by decide) rfl (by decide) ?_
    refine lv_aload_n hx hb dX1_moved_175 rfl (lv_at hl 1 rfl) ?_
    refine va_get (D := D) (ci := 1) (v := .ref a) (C := RX1) (T := TX1) (N := 6) hx hb hts iw_X1_moved hown hK hP 0 rfl rfl 1 (by decide) (hts (.fieldLink RX1 7 "WordMillModel" "memory" "[J") (by decide +kernel)) (fun _ h9 => h9) rfl dX1_moved_176 ?_
    refine lv_iload_n hx hb dX1_moved_179 rfl (lv_at hl 3 rfl) ?_
    refine lv_lload_n hx hb dX1_moved_180 rfl (lv_at hl 4 rfl) ?_
    refine va_last hx hb hK hP hD hS 1 0 rfl rfl hac dX1_moved_181 (fun H locs hP hD hS => ?_)
    have hP : va_P D vwCl (rW h a cA ((vp_updL u.1 (ac : Int32).toNatClampNeg e0), u.2.1, u.2.2.1, u.2.2.2.1, u.2.2.2.2.1, u.2.2.2.2.2)) H := hP
    have hD : va_D (wA h a) (rW h a cA ((vp_updL u.1 (ac : Int32).toNatClampNeg e0), u.2.1, u.2.2.1, u.2.2.2.1, u.2.2.2.2.1, u.2.2.2.2.2)) := hD
    generalize (vp_updL u.1 (ac : Int32).toNatClampNeg e0) = f_181 at hP hD
    refine lv_goto (tgt := 533) hx hb dX1_moved_182 (by decide) ?_
    exact mm_vret (mw := rW h a cA) (u1 := (f_181, u.2.1, u.2.2.1, u.2.2.2.1, u.2.2.2.2.1, u.2.2.2.2.2)) hx hb hr hlocks hP hK hD hS dX1_moved_533 ⟨hI, rfl, rfl⟩
  by_cases k_130 : op = 130
  · subst k_130
    refine lv_lookup (tgt := 185) hx hb dX1_moved_9 (by decide) rfl (by decide) ?_
    refine lv_aload_n hx hb dX1_moved_185 rfl (lv_at hl 1 rfl) ?_
    refine va_get (D := D) (ci := 1) (v := .ref a) (C := RX1) (T := TX1) (N := 6) hx hb hts iw_X1_moved hown hK hP 0 rfl rfl 1 (by decide) (hts (.fieldLink RX1 7 "WordMillModel" "memory" "[J") (by decide +kernel)) (fun _ h9 => h9) rfl dX1_moved_186 ?_
    refine lv_lload_n hx hb dX1_moved_189 rfl (lv_at hl 4 rfl) ?_
    refine lv_l2i hx hb dX1_moved_190 rfl ?_
    refine lv_lload hx hb dX1_moved_191 (lv_at hl 0 rfl) ?_
    refine va_last hx hb hK hP hD hS 1 0 rfl rfl (pl_in (Or.resolve_left hne nfr130)) dX1_moved_193 (fun H locs hP hD hS => ?_)
    have hP : va_P D vwCl (rW h a cA ((vp_updL u.1 ((e0 : Int64).toInt32 : Int32).toNatClampNeg x_6), u.2.1, u.2.2.1, u.2.2.2.1, u.2.2.2.2.1, u.2.2.2.2.2)) H := hP
    have hD : va_D (wA h a) (rW h a cA ((vp_updL u.1 ((e0 : Int64).toInt32 : Int32).toNatClampNeg x_6), u.2.1, u.2.2.1, u.2.2.2.1, u.2.2.2.2.1, u.2.2.2.2.2)) := hD
    generalize (vp_updL u.1 ((e0 : Int64).toInt32 : Int32).toNatClampNeg x_6) = f_193 at hP hD
    refine lv_goto (tgt := 533) hx hb dX1_moved_194 (by decide) ?_
    exact mm_vret (mw := rW h a cA) (u1 := (f_193, u.2.1, u.2.2.1, u.2.2.2.1, u.2.2.2.2.1, u.2.2.2.2.2)) hx hb hr hlocks hP hK hD hS dX1_moved_533 ⟨hI, rfl, rfl⟩
  by_cases k_132 : op = 132
  · subst k_132
    refine lv_lookup (tgt := 197) hx hb dX1_moved_9 (by decide) rfl (by decide) ?_
    refine lv_aload_n hx hb dX1_moved_197 rfl (lv_at hl 1 rfl) ?_
    refine va_get (D := D) (ci := 1) (v := .ref a) (C := RX1) (T := TX1) (N := 6) hx hb hts iw_X1_moved hown hK hP 0 rfl rfl 1 (by decide) (hts (.fieldLink RX1 7 "WordMillModel" "memory" "[J") (by decide +kernel)) (fun _ h9 => h9) rfl dX1_moved_198 ?_
    refine lv_iload_n hx hb dX1_moved_201 rfl (lv_at hl 3 rfl) ?_
    refine lv_lload hx hb dX1_moved_202 (lv_at hl 5 rfl) ?_
    refine lv_ldc2 (v := 262143) hx hb hown (hts (.constantLong RX1 31 262143) (by decide +kernel)) dX1_moved_204 ?_
    refine lv_land hx hb dX1_moved_207 ?_
    refine lv_bipush (v := 18) hx hb dX1_moved_208 (by decide) ?_
    refine lv_lshl hx hb dX1_moved_210 rfl ?_
    refine lv_lload hx hb dX1_moved_211 (lv_at hl 5 rfl) ?_
    refine lv_bipush (v := 18) hx hb dX1_moved_213 (by decide) ?_
    refine lv_lshr hx hb dX1_moved_215 rfl ?_
    refine lv_lor hx hb dX1_moved_216 ?_
    refine va_last hx hb hK hP hD hS 1 0 rfl rfl hac dX1_moved_217 (fun H locs hP hD hS => ?_)
    have hP : va_P D vwCl (rW h a cA ((vp_updL u.1 (ac : Int32).toNatClampNeg (((m0 &&& 262143) <<< ((18 : Int32).toInt64 &&& 63)) ||| (m0 >>> ((18 : Int32).toInt64 &&& 63)))), u.2.1, u.2.2.1, u.2.2.2.1, u.2.2.2.2.1, u.2.2.2.2.2)) H := hP
    have hD : va_D (wA h a) (rW h a cA ((vp_updL u.1 (ac : Int32).toNatClampNeg (((m0 &&& 262143) <<< ((18 : Int32).toInt64 &&& 63)) ||| (m0 >>> ((18 : Int32).toInt64 &&& 63)))), u.2.1, u.2.2.1, u.2.2.2.1, u.2.2.2.2.1, u.2.2.2.2.2)) := hD
    generalize (vp_updL u.1 (ac : Int32).toNatClampNeg (((m0 &&& 262143) <<< ((18 : Int32).toInt64 &&& 63)) ||| (m0 >>> ((18 : Int32).toInt64 &&& 63)))) = f_217 at hP hD
    refine lv_goto (tgt := 533) hx hb dX1_moved_218 (by decide) ?_
    exact mm_vret (mw := rW h a cA) (u1 := (f_217, u.2.1, u.2.2.1, u.2.2.2.1, u.2.2.2.2.1, u.2.2.2.2.2)) hx hb hr hlocks hP hK hD hS dX1_moved_533 ⟨hI, rfl, rfl⟩
  by_cases k_136 : op = 136
  · subst k_136
    refine lv_lookup (tgt := 221) hx hb dX1_moved_9 (by decide) rfl (by decide) ?_
    refine lv_aload_n hx hb dX1_moved_221 rfl (lv_at hl 1 rfl) ?_
    refine va_get (D := D) (ci := 1) (v := .ref a) (C := RX1) (T := TX1) (N := 6) hx hb hts iw_X1_moved hown hK hP 0 rfl rfl 1 (by decide) (hts (.fieldLink RX1 7 "WordMillModel" "memory" "[J") (by decide +kernel)) (fun _ h9 => h9) rfl dX1_moved_222 ?_
    refine lv_iload_n hx hb dX1_moved_225 rfl (lv_at hl 3 rfl) ?_
    refine lv_lload hx hb dX1_moved_226 (lv_at hl 5 rfl) ?_
    refine lv_lneg hx hb dX1_moved_228 ?_
    refine lv_ldc2 (v := 68719476735) hx hb hown (hts (.constantLong RX1 27 68719476735) (by decide +kernel)) dX1_moved_229 ?_
    refine lv_land hx hb dX1_moved_232 ?_
    refine va_last hx hb hK hP hD hS 1 0 rfl rfl hac dX1_moved_233 (fun H locs hP hD hS => ?_)
    have hP : va_P D vwCl (rW h a cA ((vp_updL u.1 (ac : Int32).toNatClampNeg ((-m0) &&& 68719476735)), u.2.1, u.2.2.1, u.2.2.2.1, u.2.2.2.2.1, u.2.2.2.2.2)) H := hP
    have hD : va_D (wA h a) (rW h a cA ((vp_updL u.1 (ac : Int32).toNatClampNeg ((-m0) &&& 68719476735)), u.2.1, u.2.2.1, u.2.2.2.1, u.2.2.2.2.1, u.2.2.2.2.2)) := hD
    generalize (vp_updL u.1 (ac : Int32).toNatClampNeg ((-m0) &&& 68719476735)) = f_233 at hP hD
    refine lv_goto (tgt := 533) hx hb dX1_moved_234 (by decide) ?_
    exact mm_vret (mw := rW h a cA) (u1 := (f_233, u.2.1, u.2.2.1, u.2.2.2.1, u.2.2.2.2.1, u.2.2.2.2.2)) hx hb hr hlocks hP hK hD hS dX1_moved_533 ⟨hI, rfl, rfl⟩
  by_cases k_140 : op = 140
  · subst k_140
    refine lv_lookup (tgt := 237) hx hb dX1_moved_9 (by decide) rfl (by decide) ?_
    refine lv_aload_n hx hb dX1_moved_237 rfl (lv_at hl 1 rfl) ?_
    refine va_get (D := D) (ci := 1) (v := .ref a) (C := RX1) (T := TX1) (N := 6) hx hb hts iw_X1_moved hown hK hP 0 rfl rfl 1 (by decide) (hts (.fieldLink RX1 7 "WordMillModel" "memory" "[J") (by decide +kernel)) (fun _ h9 => h9) rfl dX1_moved_238 ?_
    refine lv_iload_n hx hb dX1_moved_241 rfl (lv_at hl 3 rfl) ?_
    refine lv_lload hx hb dX1_moved_242 (lv_at hl 5 rfl) ?_
    refine ps_gol (As := [.long m0]) (rest := [.int ac, .ref a]) ⟨hx, hb, hml, hown, hts⟩ (kX1_number l m0) (va_cwS 1 hts gX1_moved_X1_number rfl rfl rfl (by decide +kernel) ⟨by decide, by decide⟩) rfl hl.1 rfl (Nat.le_of_ble_eq_true rfl) dX1_moved_244 ⟨Nat.zero_le _, Nat.zero_le _⟩ (fun r_244 q_244 => ?_)
    refine lv_lconst (v := 0) hx hb dX1_moved_247 (by decide) ?_
    refine W.lcmp hx hb dX1_moved_248 ?_
    refine lv_if_ge (tgt := 262) hx hb dX1_moved_249 (by decide) (fun c_249 => ?_) (fun c_249 => ?_)
    · refine lv_lload hx hb dX1_moved_262 (lv_at hl 5 rfl) ?_
      refine va_last hx hb hK hP hD hS 1 0 rfl rfl hac dX1_moved_264 (fun H locs hP hD hS => ?_)
      have hP : va_P D vwCl (rW h a cA ((vp_updL u.1 (ac : Int32).toNatClampNeg m0), u.2.1, u.2.2.1, u.2.2.2.1, u.2.2.2.2.1, u.2.2.2.2.2)) H := hP
      have hD : va_D (wA h a) (rW h a cA ((vp_updL u.1 (ac : Int32).toNatClampNeg m0), u.2.1, u.2.2.1, u.2.2.2.1, u.2.2.2.2.1, u.2.2.2.2.2)) := hD
      generalize (vp_updL u.1 (ac : Int32).toNatClampNeg m0) = f_264 at hP hD
      refine lv_goto (tgt := 533) hx hb dX1_moved_265 (by decide) ?_
      exact mm_vret (mw := rW h a cA) (u1 := (f_264, u.2.1, u.2.2.1, u.2.2.2.1, u.2.2.2.2.1, u.2.2.2.2.2)) hx hb hr hlocks hP hK hD hS dX1_moved_533 ⟨hI, rfl, rfl⟩
    · refine lv_lload hx hb dX1_moved_252 (lv_at hl 5 rfl) ?_
      refine lv_lneg hx hb dX1_moved_254 ?_
      refine lv_ldc2 (v := 68719476735) hx hb hown (hts (.constantLong RX1 27 68719476735) (by decide +kernel)) dX1_moved_255 ?_
      refine lv_land hx hb dX1_moved_258 ?_
      refine lv_goto (tgt := 264) hx hb dX1_moved_259 (by decide) ?_
      refine va_last hx hb hK hP hD hS 1 0 rfl rfl hac dX1_moved_264 (fun H locs hP hD hS => ?_)
      have hP : va_P D vwCl (rW h a cA ((vp_updL u.1 (ac : Int32).toNatClampNeg ((-m0) &&& 68719476735)), u.2.1, u.2.2.1, u.2.2.2.1, u.2.2.2.2.1, u.2.2.2.2.2)) H := hP
      have hD : va_D (wA h a) (rW h a cA ((vp_updL u.1 (ac : Int32).toNatClampNeg ((-m0) &&& 68719476735)), u.2.1, u.2.2.1, u.2.2.2.1, u.2.2.2.2.1, u.2.2.2.2.2)) := hD
      generalize (vp_updL u.1 (ac : Int32).toNatClampNeg ((-m0) &&& 68719476735)) = f_264 at hP hD
      refine lv_goto (tgt := 533) hx hb dX1_moved_265 (by decide) ?_
      exact mm_vret (mw := rW h a cA) (u1 := (f_264, u.2.1, u.2.2.1, u.2.2.2.1, u.2.2.2.2.1, u.2.2.2.2.2)) hx hb hr hlocks hP hK hD hS dX1_moved_533 ⟨hI, rfl, rfl⟩
  by_cases k_144 : op = 144
  · subst k_144
    refine lv_lookup (tgt := 288) hx hb dX1_moved_9 (by decide) rfl (by decide) ?_
    refine lv_aload_n hx hb dX1_moved_288 rfl (lv_at hl 1 rfl) ?_
    refine va_get (D := D) (ci := 1) (v := .ref a) (C := RX1) (T := TX1) (N := 6) hx hb hts iw_X1_moved hown hK hP 0 rfl rfl 1 (by decide) (hts (.fieldLink RX1 7 "WordMillModel" "memory" "[J") (by decide +kernel)) (fun _ h9 => h9) rfl dX1_moved_289 ?_
    refine lv_iload_n hx hb dX1_moved_292 rfl (lv_at hl 3 rfl) ?_
    refine lv_lload hx hb dX1_moved_293 (lv_at hl 0 rfl) ?_
    refine ps_gol (As := [.long x_6]) (rest := [.int ac, .ref a]) ⟨hx, hb, hml, hown, hts⟩ (kX1_number l x_6) (va_cwS 1 hts gX1_moved_X1_number rfl rfl rfl (by decide +kernel) ⟨by decide, by decide⟩) rfl hl.1 rfl (Nat.le_of_ble_eq_true rfl) dX1_moved_295 ⟨Nat.zero_le _, Nat.zero_le _⟩ (fun r_295 q_295 => ?_)
    refine lv_iload_n hx hb dX1_moved_298 rfl (lv_at hl 2 rfl) ?_
    refine lv_sipush (v := 144) hx hb dX1_moved_299 (by decide) ?_
    refine lv_icmp_ne (tgt := 313) hx hb dX1_moved_302 (by decide) (fun c_302 => ?_) (fun c_302 => ?_)
    · exact absurd c_302 (by decide)
    · refine lv_lload hx hb dX1_moved_305 (lv_at hl 5 rfl) ?_
      refine ps_gol (As := [.long m0]) (rest := [.long r_295, .int ac, .ref a]) ⟨hx, hb, hml, hown, hts⟩ (kX1_number l m0) (va_cwS 1 hts gX1_moved_X1_number rfl rfl rfl (by decide +kernel) ⟨by decide, by decide⟩) rfl hl.1 rfl (Nat.le_of_ble_eq_true rfl) dX1_moved_307 ⟨Nat.zero_le _, Nat.zero_le _⟩ (fun r_307 q_307 => ?_)
      refine lv_goto (tgt := 314) hx hb dX1_moved_310 (by decide) ?_
      refine lv_lmul hx hb dX1_moved_314 ?_
      refine lv_ldc2 (v := 68719476735) hx hb hown (hts (.constantLong RX1 27 68719476735) (by decide +kernel)) dX1_moved_315 ?_
      refine lv_land hx hb dX1_moved_318 ?_
      refine va_last hx hb hK hP hD hS 1 0 rfl rfl hac dX1_moved_319 (fun H locs hP hD hS => ?_)
      have hP : va_P D vwCl (rW h a cA ((vp_updL u.1 (ac : Int32).toNatClampNeg ((r_295 * r_307) &&& 68719476735)), u.2.1, u.2.2.1, u.2.2.2.1, u.2.2.2.2.1, u.2.2.2.2.2)) H := hP
      have hD : va_D (wA h a) (rW h a cA ((vp_updL u.1 (ac : Int32).toNatClampNeg ((r_295 * r_307) &&& 68719476735)), u.2.1, u.2.2.1, u.2.2.2.1, u.2.2.2.2.1, u.2.2.2.2.2)) := hD
      generalize (vp_updL u.1 (ac : Int32).toNatClampNeg ((r_295 * r_307) &&& 68719476735)) = f_319 at hP hD
      refine lv_goto (tgt := 533) hx hb dX1_moved_320 (by decide) ?_
      exact mm_vret (mw := rW h a cA) (u1 := (f_319, u.2.1, u.2.2.1, u.2.2.2.1, u.2.2.2.2.1, u.2.2.2.2.2)) hx hb hr hlocks hP hK hD hS dX1_moved_533 ⟨hI, rfl, rfl⟩
  by_cases k_145 : op = 145
  · subst k_145
    refine lv_lookup (tgt := 288) hx hb dX1_moved_9 (by decide) rfl (by decide) ?_
    refine lv_aload_n hx hb dX1_moved_288 rfl (lv_at hl 1 rfl) ?_
    refine va_get (D := D) (ci := 1) (v := .ref a) (C := RX1) (T := TX1) (N := 6) hx hb hts iw_X1_moved hown hK hP 0 rfl rfl 1 (by decide) (hts (.fieldLink RX1 7 "WordMillModel" "memory" "[J") (by decide +kernel)) (fun _ h9 => h9) rfl dX1_moved_289 ?_
    refine lv_iload_n hx hb dX1_moved_292 rfl (lv_at hl 3 rfl) ?_
    refine lv_lload hx hb dX1_moved_293 (lv_at hl 0 rfl) ?_
    refine ps_gol (As := [.long x_6]) (rest := [.int ac, .ref a]) ⟨hx, hb, hml, hown, hts⟩ (kX1_number l x_6) (va_cwS 1 hts gX1_moved_X1_number rfl rfl rfl (by decide +kernel) ⟨by decide, by decide⟩) rfl hl.1 rfl (Nat.le_of_ble_eq_true rfl) dX1_moved_295 ⟨Nat.zero_le _, Nat.zero_le _⟩ (fun r_295 q_295 => ?_)
    refine lv_iload_n hx hb dX1_moved_298 rfl (lv_at hl 2 rfl) ?_
    refine lv_sipush (v := 144) hx hb dX1_moved_299 (by decide) ?_
    refine lv_icmp_ne (tgt := 313) hx hb dX1_moved_302 (by decide) (fun c_302 => ?_) (fun c_302 => ?_)
    · refine lv_lload_n hx hb dX1_moved_313 rfl (lv_at hl 4 rfl) ?_
      refine lv_lmul hx hb dX1_moved_314 ?_
      refine lv_ldc2 (v := 68719476735) hx hb hown (hts (.constantLong RX1 27 68719476735) (by decide +kernel)) dX1_moved_315 ?_
      refine lv_land hx hb dX1_moved_318 ?_
      refine va_last hx hb hK hP hD hS 1 0 rfl rfl hac dX1_moved_319 (fun H locs hP hD hS => ?_)
      have hP : va_P D vwCl (rW h a cA ((vp_updL u.1 (ac : Int32).toNatClampNeg ((r_295 * e0) &&& 68719476735)), u.2.1, u.2.2.1, u.2.2.2.1, u.2.2.2.2.1, u.2.2.2.2.2)) H := hP
      have hD : va_D (wA h a) (rW h a cA ((vp_updL u.1 (ac : Int32).toNatClampNeg ((r_295 * e0) &&& 68719476735)), u.2.1, u.2.2.1, u.2.2.2.1, u.2.2.2.2.1, u.2.2.2.2.2)) := hD
      generalize (vp_updL u.1 (ac : Int32).toNatClampNeg ((r_295 * e0) &&& 68719476735)) = f_319 at hP hD
      refine lv_goto (tgt := 533) hx hb dX1_moved_320 (by decide) ?_
      exact mm_vret (mw := rW h a cA) (u1 := (f_319, u.2.1, u.2.2.1, u.2.2.2.1, u.2.2.2.2.1, u.2.2.2.2.2)) hx hb hr hlocks hP hK hD hS dX1_moved_533 ⟨hI, rfl, rfl⟩
    · exact absurd c_302 (by decide)
  by_cases k_152 : op = 152
  · subst k_152
    refine lv_lookup (tgt := 323) hx hb dX1_moved_9 (by decide) rfl (by decide) ?_
    refine lv_aload_n hx hb dX1_moved_323 rfl (lv_at hl 1 rfl) ?_
    refine lv_iload_n hx hb dX1_moved_324 rfl (lv_at hl 3 rfl) ?_
    refine lv_lload hx hb dX1_moved_325 (lv_at hl 0 rfl) ?_
    refine ps_gol (As := [.long x_6]) (rest := [.int ac, .ref h]) ⟨hx, hb, hml, hown, hts⟩ (kX1_number l x_6) (va_cwS 1 hts gX1_moved_X1_number rfl rfl rfl (by decide +kernel) ⟨by decide, by decide⟩) rfl hl.1 rfl (Nat.le_of_ble_eq_true rfl) dX1_moved_327 ⟨Nat.zero_le _, Nat.zero_le _⟩ (fun r_327 q_327 => ?_)
    refine lv_iload_n hx hb dX1_moved_330 rfl (lv_at hl 2 rfl) ?_
    refine lv_sipush (v := 152) hx hb dX1_moved_331 (by decide) ?_
    refine lv_icmp_ne (tgt := 345) hx hb dX1_moved_334 (by decide) (fun c_334 => ?_) (fun c_334 => ?_)
    · exact absurd c_334 (by decide)
    · refine lv_lload hx hb dX1_moved_337 (lv_at hl 5 rfl) ?_
      refine ps_gol (As := [.long m0]) (rest := [.long r_327, .int ac, .ref h]) ⟨hx, hb, hml, hown, hts⟩ (kX1_number l m0) (va_cwS 1 hts gX1_moved_X1_number rfl rfl rfl (by decide +kernel) ⟨by decide, by decide⟩) rfl hl.1 rfl (Nat.le_of_ble_eq_true rfl) dX1_moved_339 ⟨Nat.zero_le _, Nat.zero_le _⟩ (fun r_339 q_339 => ?_)
      refine lv_goto (tgt := 346) hx hb dX1_moved_342 (by decide) ?_
      refine r_go (rv := rv_v) (As := [.int ac, .long r_327, .long r_339]) (rest := []) ⟨hx, hb, hml, hown, hts⟩ (kX1_divided l D h a cA (u.1, u.2.1, u.2.2.1, u.2.2.2.1, u.2.2.2.2.1, u.2.2.2.2.2) hI ac r_327 r_339 hac) (cwV 3 hts gX1_moved_X1_divided rfl rfl rfl (by decide +kernel) ⟨by decide, by decide⟩) hK hP hD hS rfl hl.1 rfl (Nat.le_of_ble_eq_true rfl) dX1_moved_346 ⟨Nat.zero_le _, Nat.zero_le _⟩ (fun _ u_346 H locs q_346 hP hD hS => ?_)
      refine W.eq (g2 := F0 m 349 ls []) rfl ?_
      refine lv_goto (tgt := 533) hx hb dX1_moved_349 (by decide) ?_
      exact mm_vret (mw := rW h a cA) (u1 := (u_346.1, u_346.2.1, u_346.2.2.1, u_346.2.2.2.1, u_346.2.2.2.2.1, u_346.2.2.2.2.2)) hx hb hr hlocks hP hK hD hS dX1_moved_533 ⟨q_346.1, (q_346.2.1.trans rfl), (q_346.2.2.trans rfl)⟩
  by_cases k_153 : op = 153
  · subst k_153
    refine lv_lookup (tgt := 323) hx hb dX1_moved_9 (by decide) rfl (by decide) ?_
    refine lv_aload_n hx hb dX1_moved_323 rfl (lv_at hl 1 rfl) ?_
    refine lv_iload_n hx hb dX1_moved_324 rfl (lv_at hl 3 rfl) ?_
    refine lv_lload hx hb dX1_moved_325 (lv_at hl 0 rfl) ?_
    refine ps_gol (As := [.long x_6]) (rest := [.int ac, .ref h]) ⟨hx, hb, hml, hown, hts⟩ (kX1_number l x_6) (va_cwS 1 hts gX1_moved_X1_number rfl rfl rfl (by decide +kernel) ⟨by decide, by decide⟩) rfl hl.1 rfl (Nat.le_of_ble_eq_true rfl) dX1_moved_327 ⟨Nat.zero_le _, Nat.zero_le _⟩ (fun r_327 q_327 => ?_)
    refine lv_iload_n hx hb dX1_moved_330 rfl (lv_at hl 2 rfl) ?_
    refine lv_sipush (v := 152) hx hb dX1_moved_331 (by decide) ?_
    refine lv_icmp_ne (tgt := 345) hx hb dX1_moved_334 (by decide) (fun c_334 => ?_) (fun c_334 => ?_)
    · refine lv_lload_n hx hb dX1_moved_345 rfl (lv_at hl 4 rfl) ?_
      refine r_go (rv := rv_v) (As := [.int ac, .long r_327, .long e0]) (rest := []) ⟨hx, hb, hml, hown, hts⟩ (kX1_divided l D h a cA (u.1, u.2.1, u.2.2.1, u.2.2.2.1, u.2.2.2.2.1, u.2.2.2.2.2) hI ac r_327 e0 hac) (cwV 3 hts gX1_moved_X1_divided rfl rfl rfl (by decide +kernel) ⟨by decide, by decide⟩) hK hP hD hS rfl hl.1 rfl (Nat.le_of_ble_eq_true rfl) dX1_moved_346 ⟨Nat.zero_le _, Nat.zero_le _⟩ (fun _ u_346 H locs q_346 hP hD hS => ?_)
      refine W.eq (g2 := F0 m 349 ls []) rfl ?_
      refine lv_goto (tgt := 533) hx hb dX1_moved_349 (by decide) ?_
      exact mm_vret (mw := rW h a cA) (u1 := (u_346.1, u_346.2.1, u_346.2.2.1, u_346.2.2.2.1, u_346.2.2.2.2.1, u_346.2.2.2.2.2)) hx hb hr hlocks hP hK hD hS dX1_moved_533 ⟨q_346.1, (q_346.2.1.trans rfl), (q_346.2.2.trans rfl)⟩
    · exact absurd c_334 (by decide)
  by_cases k_162 : op = 162
  · subst k_162
    refine lv_lookup (tgt := 352) hx hb dX1_moved_9 (by decide) rfl (by decide) ?_
    refine lv_lload_n hx hb dX1_moved_352 rfl (lv_at hl 4 rfl) ?_
    refine lv_bipush (v := 46) hx hb dX1_moved_353 (by decide) ?_
    refine lv_lshl hx hb dX1_moved_355 rfl ?_
    refine lv_bipush (v := 46) hx hb dX1_moved_356 (by decide) ?_
    refine lv_lshr hx hb dX1_moved_358 rfl ?_
    refine lv_topl (fun x_359 ex_359 => ?_)
    refine lv_lstore (lv' := [(9, .long x_359), (7, .long x_6), (0, .ref h), (1, .int 162), (2, .int ac), (3, .long e0), (5, .long m0)]) hx hb dX1_moved_359 hl (by decide) rfl (fun ls hl => ?_)
    refine lv_aload_n hx hb dX1_moved_361 rfl (lv_at hl 2 rfl) ?_
    refine va_get (D := D) (ci := 1) (v := .ref a) (C := RX1) (T := TX1) (N := 6) hx hb hts iw_X1_moved hown hK hP 0 rfl rfl 1 (by decide) (hts (.fieldLink RX1 7 "WordMillModel" "memory" "[J") (by decide +kernel)) (fun _ h9 => h9) rfl dX1_moved_362 ?_
    refine lv_iload_n hx hb dX1_moved_365 rfl (lv_at hl 4 rfl) ?_
    refine lv_lload hx hb dX1_moved_366 (lv_at hl 0 rfl) ?_
    refine lv_ldc2 (v := 36) hx hb hown (hts (.constantLong RX1 96 36) (by decide +kernel)) dX1_moved_368 ?_
    refine W.lcmp hx hb dX1_moved_371 ?_
    refine lv_if_ge (tgt := 384) hx hb dX1_moved_372 (by decide) (fun c_372 => ?_) (fun c_372 => ?_)
    · refine lv_lconst (v := 0) hx hb dX1_moved_384 (by decide) ?_
      refine lv_goto (tgt := 415) hx hb dX1_moved_385 (by decide) ?_
      refine va_last hx hb hK hP hD hS 1 0 rfl rfl hac dX1_moved_415 (fun H locs hP hD hS => ?_)
      have hP : va_P D vwCl (rW h a cA ((vp_updL u.1 (ac : Int32).toNatClampNeg 0), u.2.1, u.2.2.1, u.2.2.2.1, u.2.2.2.2.1, u.2.2.2.2.2)) H := hP
      have hD : va_D (wA h a) (rW h a cA ((vp_updL u.1 (ac : Int32).toNatClampNeg 0), u.2.1, u.2.2.1, u.2.2.2.1, u.2.2.2.2.1, u.2.2.2.2.2)) := hD
      generalize (vp_updL u.1 (ac : Int32).toNatClampNeg 0) = f_415 at hP hD
      refine lv_goto (tgt := 533) hx hb dX1_moved_416 (by decide) ?_
      exact mm_vret (mw := rW h a cA) (u1 := (f_415, u.2.1, u.2.2.1, u.2.2.2.1, u.2.2.2.2.1, u.2.2.2.2.2)) hx hb hr hlocks hP hK hD hS dX1_moved_533 ⟨hI, rfl, rfl⟩
    · refine lv_lload hx hb dX1_moved_375 (lv_at hl 0 rfl) ?_
      refine lv_ldc2 (v := -36) hx hb hown (hts (.constantLong RX1 98 (-36)) (by decide +kernel)) dX1_moved_377 ?_
      refine W.lcmp hx hb dX1_moved_380 ?_
      refine lv_if_gt (tgt := 388) hx hb dX1_moved_381 (by decide) (fun c_381 => ?_) (fun c_381 => ?_)
      · refine lv_lload hx hb dX1_moved_388 (lv_at hl 0 rfl) ?_
        refine lv_lconst (v := 0) hx hb dX1_moved_390 (by decide) ?_
        refine W.lcmp hx hb dX1_moved_391 ?_
        refine lv_if_lt (tgt := 408) hx hb dX1_moved_392 (by decide) (fun c_392 => ?_) (fun c_392 => ?_)
        · refine lv_lload hx hb dX1_moved_408 (lv_at hl 1 rfl) ?_
          refine lv_lload hx hb dX1_moved_410 (lv_at hl 0 rfl) ?_
          refine lv_lneg hx hb dX1_moved_412 ?_
          refine lv_l2i hx hb dX1_moved_413 rfl ?_
          refine lv_lshr hx hb dX1_moved_414 rfl ?_
          refine va_last hx hb hK hP hD hS 1 0 rfl rfl hac dX1_moved_415 (fun H locs hP hD hS => ?_)
          have hP : va_P D vwCl (rW h a cA ((vp_updL u.1 (ac : Int32).toNatClampNeg (x_6 >>> ((((-x_359) : Int64).toInt32 : Int32).toInt64 &&& 63))), u.2.1, u.2.2.1, u.2.2.2.1, u.2.2.2.2.1, u.2.2.2.2.2)) H := hP
          have hD : va_D (wA h a) (rW h a cA ((vp_updL u.1 (ac : Int32).toNatClampNeg (x_6 >>> ((((-x_359) : Int64).toInt32 : Int32).toInt64 &&& 63))), u.2.1, u.2.2.1, u.2.2.2.1, u.2.2.2.2.1, u.2.2.2.2.2)) := hD
          generalize (vp_updL u.1 (ac : Int32).toNatClampNeg (x_6 >>> ((((-x_359) : Int64).toInt32 : Int32).toInt64 &&& 63))) = f_415 at hP hD
          refine lv_goto (tgt := 533) hx hb dX1_moved_416 (by decide) ?_
          exact mm_vret (mw := rW h a cA) (u1 := (f_415, u.2.1, u.2.2.1, u.2.2.2.1, u.2.2.2.2.1, u.2.2.2.2.2)) hx hb hr hlocks hP hK hD hS dX1_moved_533 ⟨hI, rfl, rfl⟩
        · refine lv_lload hx hb dX1_moved_395 (lv_at hl 1 rfl) ?_
          refine lv_lload hx hb dX1_moved_397 (lv_at hl 0 rfl) ?_
          refine lv_l2i hx hb dX1_moved_399 rfl ?_
          refine lv_lshl hx hb dX1_moved_400 rfl ?_
          refine lv_ldc2 (v := 68719476735) hx hb hown (hts (.constantLong RX1 27 68719476735) (by decide +kernel)) dX1_moved_401 ?_
          refine lv_land hx hb dX1_moved_404 ?_
          refine lv_goto (tgt := 415) hx hb dX1_moved_405 (by decide) ?_
          refine va_last hx hb hK hP hD hS 1 0 rfl rfl hac dX1_moved_415 (fun H locs hP hD hS => ?_)
          have hP : va_P D vwCl (rW h a cA ((vp_updL u.1 (ac : Int32).toNatClampNeg ((x_6 <<< (((x_359 : Int64).toInt32 : Int32).toInt64 &&& 63)) &&& 68719476735)), u.2.1, u.2.2.1, u.2.2.2.1, u.2.2.2.2.1, u.2.2.2.2.2)) H := hP
          have hD : va_D (wA h a) (rW h a cA ((vp_updL u.1 (ac : Int32).toNatClampNeg ((x_6 <<< (((x_359 : Int64).toInt32 : Int32).toInt64 &&& 63)) &&& 68719476735)), u.2.1, u.2.2.1, u.2.2.2.1, u.2.2.2.2.1, u.2.2.2.2.2)) := hD
          generalize (vp_updL u.1 (ac : Int32).toNatClampNeg ((x_6 <<< (((x_359 : Int64).toInt32 : Int32).toInt64 &&& 63)) &&& 68719476735)) = f_415 at hP hD
          refine lv_goto (tgt := 533) hx hb dX1_moved_416 (by decide) ?_
          exact mm_vret (mw := rW h a cA) (u1 := (f_415, u.2.1, u.2.2.1, u.2.2.2.1, u.2.2.2.2.1, u.2.2.2.2.2)) hx hb hr hlocks hP hK hD hS dX1_moved_533 ⟨hI, rfl, rfl⟩
      · refine lv_lconst (v := 0) hx hb dX1_moved_384 (by decide) ?_
        refine lv_goto (tgt := 415) hx hb dX1_moved_385 (by decide) ?_
        refine va_last hx hb hK hP hD hS 1 0 rfl rfl hac dX1_moved_415 (fun H locs hP hD hS => ?_)
        have hP : va_P D vwCl (rW h a cA ((vp_updL u.1 (ac : Int32).toNatClampNeg 0), u.2.1, u.2.2.1, u.2.2.2.1, u.2.2.2.2.1, u.2.2.2.2.2)) H := hP
        have hD : va_D (wA h a) (rW h a cA ((vp_updL u.1 (ac : Int32).toNatClampNeg 0), u.2.1, u.2.2.1, u.2.2.2.1, u.2.2.2.2.1, u.2.2.2.2.2)) := hD
        generalize (vp_updL u.1 (ac : Int32).toNatClampNeg 0) = f_415 at hP hD
        refine lv_goto (tgt := 533) hx hb dX1_moved_416 (by decide) ?_
        exact mm_vret (mw := rW h a cA) (u1 := (f_415, u.2.1, u.2.2.1, u.2.2.2.1, u.2.2.2.2.1, u.2.2.2.2.2)) hx hb hr hlocks hP hK hD hS dX1_moved_533 ⟨hI, rfl, rfl⟩
  by_cases k_168 : op = 168
  · subst k_168
    refine lv_lookup (tgt := 268) hx hb dX1_moved_9 (by decide) rfl (by decide) ?_
    refine lv_aload_n hx hb dX1_moved_268 rfl (lv_at hl 1 rfl) ?_
    refine va_get (D := D) (ci := 1) (v := .ref a) (C := RX1) (T := TX1) (N := 6) hx hb hts iw_X1_moved hown hK hP 0 rfl rfl 1 (by decide) (hts (.fieldLink RX1 7 "WordMillModel" "memory" "[J") (by decide +kernel)) (fun _ h9 => h9) rfl dX1_moved_269 ?_
    refine lv_iload_n hx hb dX1_moved_272 rfl (lv_at hl 3 rfl) ?_
    refine lv_lload hx hb dX1_moved_273 (lv_at hl 5 rfl) ?_
    refine va_last hx hb hK hP hD hS 1 0 rfl rfl hac dX1_moved_275 (fun H locs hP hD hS => ?_)
    have hP : va_P D vwCl (rW h a cA ((vp_updL u.1 (ac : Int32).toNatClampNeg m0), u.2.1, u.2.2.1, u.2.2.2.1, u.2.2.2.2.1, u.2.2.2.2.2)) H := hP
    have hD : va_D (wA h a) (rW h a cA ((vp_updL u.1 (ac : Int32).toNatClampNeg m0), u.2.1, u.2.2.1, u.2.2.2.1, u.2.2.2.2.1, u.2.2.2.2.2)) := hD
    generalize (vp_updL u.1 (ac : Int32).toNatClampNeg m0) = f_275 at hP hD
    refine lv_aload_n hx hb dX1_moved_276 rfl (lv_at hl 1 rfl) ?_
    refine va_get (D := D) (ci := 1) (v := .ref a) (C := RX1) (T := TX1) (N := 6) hx hb hts iw_X1_moved hown hK hP 0 rfl rfl 1 (by decide) (hts (.fieldLink RX1 7 "WordMillModel" "memory" "[J") (by decide +kernel)) (fun _ h9 => h9) rfl dX1_moved_277 ?_
    refine lv_lload_n hx hb dX1_moved_280 rfl (lv_at hl 4 rfl) ?_
    refine lv_l2i hx hb dX1_moved_281 rfl ?_
    refine lv_lload hx hb dX1_moved_282 (lv_at hl 0 rfl) ?_
    refine va_last hx hb hK hP hD hS 1 0 rfl rfl (pl_in (Or.resolve_left hne nfr168)) dX1_moved_284 (fun H locs hP hD hS => ?_)
    have hP : va_P D vwCl (rW h a cA ((vp_updL f_275 ((e0 : Int64).toInt32 : Int32).toNatClampNeg x_6), u.2.1, u.2.2.1, u.2.2.2.1, u.2.2.2.2.1, u.2.2.2.2.2)) H := hP
    have hD : va_D (wA h a) (rW h a cA ((vp_updL f_275 ((e0 : Int64).toInt32 : Int32).toNatClampNeg x_6), u.2.1, u.2.2.1, u.2.2.2.1, u.2.2.2.2.1, u.2.2.2.2.2)) := hD
    generalize (vp_updL f_275 ((e0 : Int64).toInt32 : Int32).toNatClampNeg x_6) = f_284 at hP hD
    refine lv_goto (tgt := 533) hx hb dX1_moved_285 (by decide) ?_
    exact mm_vret (mw := rW h a cA) (u1 := (f_284, u.2.1, u.2.2.1, u.2.2.2.1, u.2.2.2.2.1, u.2.2.2.2.2)) hx hb hr hlocks hP hK hD hS dX1_moved_533 ⟨hI, rfl, rfl⟩
  by_cases k_184 : op = 184
  · subst k_184
    refine lv_lookup (tgt := 419) hx hb dX1_moved_9 (by decide) rfl (by decide) ?_
    refine lv_aload_n hx hb dX1_moved_419 rfl (lv_at hl 1 rfl) ?_
    refine va_get (D := D) (ci := 1) (v := .ref a) (C := RX1) (T := TX1) (N := 6) hx hb hts iw_X1_moved hown hK hP 0 rfl rfl 1 (by decide) (hts (.fieldLink RX1 7 "WordMillModel" "memory" "[J") (by decide +kernel)) (fun _ h9 => h9) rfl dX1_moved_420 ?_
    refine lv_iload_n hx hb dX1_moved_423 rfl (lv_at hl 3 rfl) ?_
    refine lv_lload hx hb dX1_moved_424 (lv_at hl 0 rfl) ?_
    refine lv_iload_n hx hb dX1_moved_426 rfl (lv_at hl 2 rfl) ?_
    refine lv_sipush (v := 184) hx hb dX1_moved_427 (by decide) ?_
    refine lv_icmp_ne (tgt := 438) hx hb dX1_moved_430 (by decide) (fun c_430 => ?_) (fun c_430 => ?_)
    · exact absurd c_430 (by decide)
    · refine lv_lload hx hb dX1_moved_433 (lv_at hl 5 rfl) ?_
      refine lv_goto (tgt := 439) hx hb dX1_moved_435 (by decide) ?_
      refine lv_ladd hx hb dX1_moved_439 ?_
      refine lv_ldc2 (v := 68719476735) hx hb hown (hts (.constantLong RX1 27 68719476735) (by decide +kernel)) dX1_moved_440 ?_
      refine lv_land hx hb dX1_moved_443 ?_
      refine va_last hx hb hK hP hD hS 1 0 rfl rfl hac dX1_moved_444 (fun H locs hP hD hS => ?_)
      have hP : va_P D vwCl (rW h a cA ((vp_updL u.1 (ac : Int32).toNatClampNeg ((x_6 + m0) &&& 68719476735)), u.2.1, u.2.2.1, u.2.2.2.1, u.2.2.2.2.1, u.2.2.2.2.2)) H := hP
      have hD : va_D (wA h a) (rW h a cA ((vp_updL u.1 (ac : Int32).toNatClampNeg ((x_6 + m0) &&& 68719476735)), u.2.1, u.2.2.1, u.2.2.2.1, u.2.2.2.2.1, u.2.2.2.2.2)) := hD
      generalize (vp_updL u.1 (ac : Int32).toNatClampNeg ((x_6 + m0) &&& 68719476735)) = f_444 at hP hD
      refine lv_goto (tgt := 533) hx hb dX1_moved_445 (by decide) ?_
      exact mm_vret (mw := rW h a cA) (u1 := (f_444, u.2.1, u.2.2.1, u.2.2.2.1, u.2.2.2.2.1, u.2.2.2.2.2)) hx hb hr hlocks hP hK hD hS dX1_moved_533 ⟨hI, rfl, rfl⟩
  by_cases k_185 : op = 185
  · subst k_185
    refine lv_lookup (tgt := 419) hx hb dX1_moved_9 (by decide) rfl (by decide) ?_
    refine lv_aload_n hx hb dX1_moved_419 rfl (lv_at hl 1 rfl) ?_
    refine va_get (D := D) (ci := 1) (v := .ref a) (C := RX1) (T := TX1) (N := 6) hx hb hts iw_X1_moved hown hK hP 0 rfl rfl 1 (by decide) (hts (.fieldLink RX1 7 "WordMillModel" "memory" "[J") (by decide +kernel)) (fun _ h9 => h9) rfl dX1_moved_420 ?_
    refine lv_iload_n hx hb dX1_moved_423 rfl (lv_at hl 3 rfl) ?_
    refine lv_lload hx hb dX1_moved_424 (lv_at hl 0 rfl) ?_
    refine lv_iload_n hx hb dX1_moved_426 rfl (lv_at hl 2 rfl) ?_
    refine lv_sipush (v := 184) hx hb dX1_moved_427 (by decide) ?_
    refine lv_icmp_ne (tgt := 438) hx hb dX1_moved_430 (by decide) (fun c_430 => ?_) (fun c_430 => ?_)
    · refine lv_lload_n hx hb dX1_moved_438 rfl (lv_at hl 4 rfl) ?_
      refine lv_ladd hx hb dX1_moved_439 ?_
      refine lv_ldc2 (v := 68719476735) hx hb hown (hts (.constantLong RX1 27 68719476735) (by decide +kernel)) dX1_moved_440 ?_
      refine lv_land hx hb dX1_moved_443 ?_
      refine va_last hx hb hK hP hD hS 1 0 rfl rfl hac dX1_moved_444 (fun H locs hP hD hS => ?_)
      have hP : va_P D vwCl (rW h a cA ((vp_updL u.1 (ac : Int32).toNatClampNeg ((x_6 + e0) &&& 68719476735)), u.2.1, u.2.2.1, u.2.2.2.1, u.2.2.2.2.1, u.2.2.2.2.2)) H := hP
      have hD : va_D (wA h a) (rW h a cA ((vp_updL u.1 (ac : Int32).toNatClampNeg ((x_6 + e0) &&& 68719476735)), u.2.1, u.2.2.1, u.2.2.2.1, u.2.2.2.2.1, u.2.2.2.2.2)) := hD
      generalize (vp_updL u.1 (ac : Int32).toNatClampNeg ((x_6 + e0) &&& 68719476735)) = f_444 at hP hD
      refine lv_goto (tgt := 533) hx hb dX1_moved_445 (by decide) ?_
      exact mm_vret (mw := rW h a cA) (u1 := (f_444, u.2.1, u.2.2.1, u.2.2.2.1, u.2.2.2.2.1, u.2.2.2.2.2)) hx hb hr hlocks hP hK hD hS dX1_moved_533 ⟨hI, rfl, rfl⟩
    · exact absurd c_430 (by decide)
  by_cases k_188 : op = 188
  · subst k_188
    refine lv_lookup (tgt := 448) hx hb dX1_moved_9 (by decide) rfl (by decide) ?_
    refine lv_aload_n hx hb dX1_moved_448 rfl (lv_at hl 1 rfl) ?_
    refine va_get (D := D) (ci := 1) (v := .ref a) (C := RX1) (T := TX1) (N := 6) hx hb hts iw_X1_moved hown hK hP 0 rfl rfl 1 (by decide) (hts (.fieldLink RX1 7 "WordMillModel" "memory" "[J") (by decide +kernel)) (fun _ h9 => h9) rfl dX1_moved_449 ?_
    refine lv_iload_n hx hb dX1_moved_452 rfl (lv_at hl 3 rfl) ?_
    refine lv_lload hx hb dX1_moved_453 (lv_at hl 0 rfl) ?_
    refine lv_iload_n hx hb dX1_moved_455 rfl (lv_at hl 2 rfl) ?_
    refine lv_sipush (v := 188) hx hb dX1_moved_456 (by decide) ?_
    refine lv_icmp_ne (tgt := 467) hx hb dX1_moved_459 (by decide) (fun c_459 => ?_) (fun c_459 => ?_)
    · exact absurd c_459 (by decide)
    · refine lv_lload hx hb dX1_moved_462 (lv_at hl 5 rfl) ?_
      refine lv_goto (tgt := 468) hx hb dX1_moved_464 (by decide) ?_
      refine lv_lsub hx hb dX1_moved_468 ?_
      refine lv_ldc2 (v := 68719476735) hx hb hown (hts (.constantLong RX1 27 68719476735) (by decide +kernel)) dX1_moved_469 ?_
      refine lv_land hx hb dX1_moved_472 ?_
      refine va_last hx hb hK hP hD hS 1 0 rfl rfl hac dX1_moved_473 (fun H locs hP hD hS => ?_)
      have hP : va_P D vwCl (rW h a cA ((vp_updL u.1 (ac : Int32).toNatClampNeg ((x_6 - m0) &&& 68719476735)), u.2.1, u.2.2.1, u.2.2.2.1, u.2.2.2.2.1, u.2.2.2.2.2)) H := hP
      have hD : va_D (wA h a) (rW h a cA ((vp_updL u.1 (ac : Int32).toNatClampNeg ((x_6 - m0) &&& 68719476735)), u.2.1, u.2.2.1, u.2.2.2.1, u.2.2.2.2.1, u.2.2.2.2.2)) := hD
      generalize (vp_updL u.1 (ac : Int32).toNatClampNeg ((x_6 - m0) &&& 68719476735)) = f_473 at hP hD
      refine lv_goto (tgt := 533) hx hb dX1_moved_474 (by decide) ?_
      exact mm_vret (mw := rW h a cA) (u1 := (f_473, u.2.1, u.2.2.1, u.2.2.2.1, u.2.2.2.2.1, u.2.2.2.2.2)) hx hb hr hlocks hP hK hD hS dX1_moved_533 ⟨hI, rfl, rfl⟩
  by_cases k_189 : op = 189
  · subst k_189
    refine lv_lookup (tgt := 448) hx hb dX1_moved_9 (by decide) rfl (by decide) ?_
    refine lv_aload_n hx hb dX1_moved_448 rfl (lv_at hl 1 rfl) ?_
    refine va_get (D := D) (ci := 1) (v := .ref a) (C := RX1) (T := TX1) (N := 6) hx hb hts iw_X1_moved hown hK hP 0 rfl rfl 1 (by decide) (hts (.fieldLink RX1 7 "WordMillModel" "memory" "[J") (by decide +kernel)) (fun _ h9 => h9) rfl dX1_moved_449 ?_
    refine lv_iload_n hx hb dX1_moved_452 rfl (lv_at hl 3 rfl) ?_
    refine lv_lload hx hb dX1_moved_453 (lv_at hl 0 rfl) ?_
    refine lv_iload_n hx hb dX1_moved_455 rfl (lv_at hl 2 rfl) ?_
    refine lv_sipush (v := 188) hx hb dX1_moved_456 (by decide) ?_
    refine lv_icmp_ne (tgt := 467) hx hb dX1_moved_459 (by decide) (fun c_459 => ?_) (fun c_459 => ?_)
    · refine lv_lload_n hx hb dX1_moved_467 rfl (lv_at hl 4 rfl) ?_
      refine lv_lsub hx hb dX1_moved_468 ?_
      refine lv_ldc2 (v := 68719476735) hx hb hown (hts (.constantLong RX1 27 68719476735) (by decide +kernel)) dX1_moved_469 ?_
      refine lv_land hx hb dX1_moved_472 ?_
      refine va_last hx hb hK hP hD hS 1 0 rfl rfl hac dX1_moved_473 (fun H locs hP hD hS => ?_)
      have hP : va_P D vwCl (rW h a cA ((vp_updL u.1 (ac : Int32).toNatClampNeg ((x_6 - e0) &&& 68719476735)), u.2.1, u.2.2.1, u.2.2.2.1, u.2.2.2.2.1, u.2.2.2.2.2)) H := hP
      have hD : va_D (wA h a) (rW h a cA ((vp_updL u.1 (ac : Int32).toNatClampNeg ((x_6 - e0) &&& 68719476735)), u.2.1, u.2.2.1, u.2.2.2.1, u.2.2.2.2.1, u.2.2.2.2.2)) := hD
      generalize (vp_updL u.1 (ac : Int32).toNatClampNeg ((x_6 - e0) &&& 68719476735)) = f_473 at hP hD
      refine lv_goto (tgt := 533) hx hb dX1_moved_474 (by decide) ?_
      exact mm_vret (mw := rW h a cA) (u1 := (f_473, u.2.1, u.2.2.1, u.2.2.2.1, u.2.2.2.2.1, u.2.2.2.2.2)) hx hb hr hlocks hP hK hD hS dX1_moved_533 ⟨hI, rfl, rfl⟩
    · exact absurd c_459 (by decide)
  by_cases k_256 : op = 256
  · subst k_256
    refine lv_lookup (tgt := 477) hx hb dX1_moved_9 (by decide) rfl (by decide) ?_
    refine lv_aload_n hx hb dX1_moved_477 rfl (lv_at hl 1 rfl) ?_
    refine va_get (D := D) (ci := 1) (v := .ref a) (C := RX1) (T := TX1) (N := 6) hx hb hts iw_X1_moved hown hK hP 0 rfl rfl 1 (by decide) (hts (.fieldLink RX1 7 "WordMillModel" "memory" "[J") (by decide +kernel)) (fun _ h9 => h9) rfl dX1_moved_478 ?_
    refine lv_iload_n hx hb dX1_moved_481 rfl (lv_at hl 3 rfl) ?_
    refine lv_lconst (v := 0) hx hb dX1_moved_482 (by decide) ?_
    refine va_last hx hb hK hP hD hS 1 0 rfl rfl hac dX1_moved_483 (fun H locs hP hD hS => ?_)
    have hP : va_P D vwCl (rW h a cA ((vp_updL u.1 (ac : Int32).toNatClampNeg 0), u.2.1, u.2.2.1, u.2.2.2.1, u.2.2.2.2.1, u.2.2.2.2.2)) H := hP
    have hD : va_D (wA h a) (rW h a cA ((vp_updL u.1 (ac : Int32).toNatClampNeg 0), u.2.1, u.2.2.1, u.2.2.2.1, u.2.2.2.2.1, u.2.2.2.2.2)) := hD
    generalize (vp_updL u.1 (ac : Int32).toNatClampNeg 0) = f_483 at hP hD
    refine lv_goto (tgt := 533) hx hb dX1_moved_484 (by decide) ?_
    exact mm_vret (mw := rW h a cA) (u1 := (f_483, u.2.1, u.2.2.1, u.2.2.2.1, u.2.2.2.2.1, u.2.2.2.2.2)) hx hb hr hlocks hP hK hD hS dX1_moved_533 ⟨hI, rfl, rfl⟩
  by_cases k_258 : op = 258
  · subst k_258
    refine lv_lookup (tgt := 487) hx hb dX1_moved_9 (by decide) rfl (by decide) ?_
    refine lv_aload_n hx hb dX1_moved_487 rfl (lv_at hl 1 rfl) ?_
    refine va_get (D := D) (ci := 1) (v := .ref a) (C := RX1) (T := TX1) (N := 6) hx hb hts iw_X1_moved hown hK hP 0 rfl rfl 1 (by decide) (hts (.fieldLink RX1 7 "WordMillModel" "memory" "[J") (by decide +kernel)) (fun _ h9 => h9) rfl dX1_moved_488 ?_
    refine lv_lload_n hx hb dX1_moved_491 rfl (lv_at hl 4 rfl) ?_
    refine lv_l2i hx hb dX1_moved_492 rfl ?_
    refine lv_lconst (v := 0) hx hb dX1_moved_493 (by decide) ?_
    refine va_last hx hb hK hP hD hS 1 0 rfl rfl (pl_in (Or.resolve_left hne nfr258)) dX1_moved_494 (fun H locs hP hD hS => ?_)
    have hP : va_P D vwCl (rW h a cA ((vp_updL u.1 ((e0 : Int64).toInt32 : Int32).toNatClampNeg 0), u.2.1, u.2.2.1, u.2.2.2.1, u.2.2.2.2.1, u.2.2.2.2.2)) H := hP
    have hD : va_D (wA h a) (rW h a cA ((vp_updL u.1 ((e0 : Int64).toInt32 : Int32).toNatClampNeg 0), u.2.1, u.2.2.1, u.2.2.2.1, u.2.2.2.2.1, u.2.2.2.2.2)) := hD
    generalize (vp_updL u.1 ((e0 : Int64).toInt32 : Int32).toNatClampNeg 0) = f_494 at hP hD
    refine lv_goto (tgt := 533) hx hb dX1_moved_495 (by decide) ?_
    exact mm_vret (mw := rW h a cA) (u1 := (f_494, u.2.1, u.2.2.1, u.2.2.2.1, u.2.2.2.2.1, u.2.2.2.2.2)) hx hb hr hlocks hP hK hD hS dX1_moved_533 ⟨hI, rfl, rfl⟩
  refine lv_lookup (off := 489) (tgt := 498) hx hb dX1_moved_9 (by decide) ((lv_osw k_128 (by decide)).trans <| (lv_osw k_129 (by decide)).trans <| (lv_osw k_130 (by decide)).trans <| (lv_osw k_132 (by decide)).trans <| (lv_osw k_136 (by decide)).trans <| (lv_osw k_140 (by decide)).trans <| (lv_osw k_144 (by decide)).trans <| (lv_osw k_145 (by decide)).trans <| (lv_osw k_152 (by decide)).trans <| (lv_osw k_153 (by decide)).trans <| (lv_osw k_162 (by decide)).trans <| (lv_osw k_168 (by decide)).trans <| (lv_osw k_184 (by decide)).trans <| (lv_osw k_185 (by decide)).trans <| (lv_osw k_188 (by decide)).trans <| (lv_osw k_189 (by decide)).trans <| (lv_osw k_256 (by decide)).trans <| (lv_osw k_258 (by decide)).trans <| rfl) (by decide) ?_
  refine lv_aload_n hx hb dX1_moved_498 rfl (lv_at hl 1 rfl) ?_
  refine lv_iload_n hx hb dX1_moved_499 rfl (lv_at hl 2 rfl) ?_
  refine lv_iload_n hx hb dX1_moved_500 rfl (lv_at hl 3 rfl) ?_
  refine lv_lload hx hb dX1_moved_501 (lv_at hl 0 rfl) ?_
  refine lv_iload_n hx hb dX1_moved_503 rfl (lv_at hl 2 rfl) ?_
  refine lv_sipush (v := 261) hx hb dX1_moved_504 (by decide) ?_
  refine lv_icmp_eq (tgt := 524) hx hb dX1_moved_507 (by decide) (fun c_507 => ?_) (fun c_507 => ?_)
  · refine lv_lload_n hx hb dX1_moved_524 rfl (lv_at hl 4 rfl) ?_
    refine lv_goto (tgt := 530) hx hb dX1_moved_525 (by decide) ?_
    refine r_go (rv := rv_v) (As := [.int op, .int ac, .long x_6, .long e0]) (rest := []) ⟨hx, hb, hml, hown, hts⟩ (kX1_bits l D h a cA (u.1, u.2.1, u.2.2.1, u.2.2.2.1, u.2.2.2.2.1, u.2.2.2.2.2) hI op ac x_6 e0 hac) (cwV 4 hts gX1_moved_X1_bits rfl rfl rfl (by decide +kernel) ⟨by decide, by decide⟩) hK hP hD hS rfl hl.1 rfl (Nat.le_of_ble_eq_true rfl) dX1_moved_530 ⟨Nat.zero_le _, Nat.zero_le _⟩ (fun _ u_530 H locs q_530 hP hD hS => ?_)
    refine W.eq (g2 := F0 m 533 ls []) rfl ?_
    exact mm_vret (mw := rW h a cA) (u1 := (u_530.1, u_530.2.1, u_530.2.2.1, u_530.2.2.2.1, u_530.2.2.2.2.1, u_530.2.2.2.2.2)) hx hb hr hlocks hP hK hD hS dX1_moved_533 ⟨q_530.1, (q_530.2.1.trans rfl), (q_530.2.2.trans rfl)⟩
  · refine lv_iload_n hx hb dX1_moved_510 rfl (lv_at hl 2 rfl) ?_
    refine lv_sipush (v := 281) hx hb dX1_moved_511 (by decide) ?_
    refine lv_icmp_eq (tgt := 524) hx hb dX1_moved_514 (by decide) (fun c_514 => ?_) (fun c_514 => ?_)
    · refine lv_lload_n hx hb dX1_moved_524 rfl (lv_at hl 4 rfl) ?_
      refine lv_goto (tgt := 530) hx hb dX1_moved_525 (by decide) ?_
      refine r_go (rv := rv_v) (As := [.int op, .int ac, .long x_6, .long e0]) (rest := []) ⟨hx, hb, hml, hown, hts⟩ (kX1_bits l D h a cA (u.1, u.2.1, u.2.2.1, u.2.2.2.1, u.2.2.2.2.1, u.2.2.2.2.2) hI op ac x_6 e0 hac) (cwV 4 hts gX1_moved_X1_bits rfl rfl rfl (by decide +kernel) ⟨by decide, by decide⟩) hK hP hD hS rfl hl.1 rfl (Nat.le_of_ble_eq_true rfl) dX1_moved_530 ⟨Nat.zero_le _, Nat.zero_le _⟩ (fun _ u_530 H locs q_530 hP hD hS => ?_)
      refine W.eq (g2 := F0 m 533 ls []) rfl ?_
      exact mm_vret (mw := rW h a cA) (u1 := (u_530.1, u_530.2.1, u_530.2.2.1, u_530.2.2.2.1, u_530.2.2.2.2.1, u_530.2.2.2.2.2)) hx hb hr hlocks hP hK hD hS dX1_moved_533 ⟨q_530.1, (q_530.2.1.trans rfl), (q_530.2.2.trans rfl)⟩
    · refine lv_iload_n hx hb dX1_moved_517 rfl (lv_at hl 2 rfl) ?_
      refine lv_sipush (v := 285) hx hb dX1_moved_518 (by decide) ?_
      refine lv_icmp_ne (tgt := 528) hx hb dX1_moved_521 (by decide) (fun c_521 => ?_) (fun c_521 => ?_)
      · refine lv_lload hx hb dX1_moved_528 (lv_at hl 5 rfl) ?_
        refine r_go (rv := rv_v) (As := [.int op, .int ac, .long x_6, .long m0]) (rest := []) ⟨hx, hb, hml, hown, hts⟩ (kX1_bits l D h a cA (u.1, u.2.1, u.2.2.1, u.2.2.2.1, u.2.2.2.2.1, u.2.2.2.2.2) hI op ac x_6 m0 hac) (cwV 4 hts gX1_moved_X1_bits rfl rfl rfl (by decide +kernel) ⟨by decide, by decide⟩) hK hP hD hS rfl hl.1 rfl (Nat.le_of_ble_eq_true rfl) dX1_moved_530 ⟨Nat.zero_le _, Nat.zero_le _⟩ (fun _ u_530 H locs q_530 hP hD hS => ?_)
        refine W.eq (g2 := F0 m 533 ls []) rfl ?_
        exact mm_vret (mw := rW h a cA) (u1 := (u_530.1, u_530.2.1, u_530.2.2.1, u_530.2.2.2.1, u_530.2.2.2.2.1, u_530.2.2.2.2.2)) hx hb hr hlocks hP hK hD hS dX1_moved_533 ⟨q_530.1, (q_530.2.1.trans rfl), (q_530.2.2.trans rfl)⟩
      · refine lv_lload_n hx hb dX1_moved_524 rfl (lv_at hl 4 rfl) ?_
        refine lv_goto (tgt := 530) hx hb dX1_moved_525 (by decide) ?_
        refine r_go (rv := rv_v) (As := [.int op, .int ac, .long x_6, .long e0]) (rest := []) ⟨hx, hb, hml, hown, hts⟩ (kX1_bits l D h a cA (u.1, u.2.1, u.2.2.1, u.2.2.2.1, u.2.2.2.2.1, u.2.2.2.2.2) hI op ac x_6 e0 hac) (cwV 4 hts gX1_moved_X1_bits rfl rfl rfl (by decide +kernel) ⟨by decide, by decide⟩) hK hP hD hS rfl hl.1 rfl (Nat.le_of_ble_eq_true rfl) dX1_moved_530 ⟨Nat.zero_le _, Nat.zero_le _⟩ (fun _ u_530 H locs q_530 hP hD hS => ?_)
        refine W.eq (g2 := F0 m 533 ls []) rfl ?_
        exact mm_vret (mw := rW h a cA) (u1 := (u_530.1, u_530.2.1, u_530.2.2.1, u_530.2.2.2.1, u_530.2.2.2.2.1, u_530.2.2.2.2.2)) hx hb hr hlocks hP hK hD hS dX1_moved_533 ⟨q_530.1, (q_530.2.1.trans rfl), (q_530.2.2.trans rfl)⟩
theorem iw_X1_piled : ∀ w ∈ u_ws RX1 TX1 6, w ∈ wsX1_piled := by decide +kernel
set_option maxHeartbeats 4000000 in
set_option maxRecDepth 100000 in
theorem kX1_piled (l : Launch) (D : va_G) (h a : Nat) (cA : ClassId) (u : rS) (hI : rI u) (op : Int32) (ac : Int32) (e0 : Int64) (m0 : Int64) (nx : Int32) (hop : ¬ op < 172 ∧ ¬ 180 < op) (hac : vp_in ac 4096) (hne : fr op ∨ pl e0) (hnx : vp_in nx 4096) : MM l yX1_piled wsX1_piled ({ frames := 2, cells := 0, slots := 0, locals := 43 }) D vwCl [(cA, .long)] (rW h a cA) (wA h a) u [.ref h, .int op, .int ac, .long e0, .long m0, .int nx] rv_i (fun r u' => rK u u' ∧ vp_in r 4096) := by
  refine mm_of (cc := cX1_piled) (maxL := 14) (ret := (some .int)) (by decide) rfl (Nat.le_of_ble_eq_true rfl) (rA_in h a cA u) ?_
  intro p e s m below meth c ls C hl hP hK hD hS
  obtain ⟨hx, hb, hr, hml, hown, hts, hlocks⟩ := C
  have hl : lv_has ls 14 [(0, .ref h), (1, .int op), (2, .int ac), (3, .long e0), (5, .long m0), (7, .int nx)] := hl
  refine lv_aload_n hx hb dX1_piled_0 rfl (lv_at hl 0 rfl) ?_
  refine va_get (D := D) (ci := 1) (v := .ref a) (C := RX1) (T := TX1) (N := 6) hx hb hts iw_X1_piled hown hK hP 0 rfl rfl 1 (by decide) (hts (.fieldLink RX1 7 "WordMillModel" "memory" "[J") (by decide +kernel)) (fun _ h9 => h9) rfl dX1_piled_1 ?_
  refine lv_iload_n hx hb dX1_piled_4 rfl (lv_at hl 2 rfl) ?_
  refine va_lald hx hb hK hP 1 0 rfl rfl hac dX1_piled_5 ?_
  refine lv_topl (fun x_6 ex_6 => ?_)
  refine lv_lstore (lv' := [(8, .long x_6), (0, .ref h), (1, .int op), (2, .int ac), (3, .long e0), (5, .long m0), (7, .int nx)]) hx hb dX1_piled_6 hl (by decide) rfl (fun ls hl => ?_)
  refine lv_iload_n hx hb dX1_piled_8 rfl (lv_at hl 2 rfl) ?_
  by_cases k_172 : op = 172
  · subst k_172
    refine lv_tableIn (tgt := 56) hx hb dX1_piled_9 (by decide) (by decide) rfl (by decide) ?_
    refine lv_lload_n hx hb dX1_piled_56 rfl (lv_at hl 4 rfl) ?_
    refine lv_ldc2 (v := 4095) hx hb hown (hts (.constantLong RX1 77 4095) (by decide +kernel)) dX1_piled_57 ?_
    refine lv_land hx hb dX1_piled_60 ?_
    refine lv_l2i hx hb dX1_piled_61 rfl ?_
    exact mm_iret (mw := rW h a cA) (u1 := (u.1, u.2.1, u.2.2.1, u.2.2.2.1, u.2.2.2.2.1, u.2.2.2.2.2)) hx hb hr hlocks hP hK hD hS dX1_piled_62 ⟨⟨hI, rfl, rfl⟩, (la4095 _)⟩
  by_cases k_173 : op = 173
  · subst k_173
    refine lv_tableIn (tgt := 245) hx hb dX1_piled_9 (by decide) (by decide) rfl (by decide) ?_
    refine lv_aload_n hx hb dX1_piled_245 rfl (lv_at hl 1 rfl) ?_
    refine va_get (D := D) (ci := 1) (v := .ref a) (C := RX1) (T := TX1) (N := 6) hx hb hts iw_X1_piled hown hK hP 0 rfl rfl 1 (by decide) (hts (.fieldLink RX1 7 "WordMillModel" "memory" "[J") (by decide +kernel)) (fun _ h9 => h9) rfl dX1_piled_246 ?_
    refine lv_lload_n hx hb dX1_piled_249 rfl (lv_at hl 4 rfl) ?_
    refine lv_l2i hx hb dX1_piled_250 rfl ?_
    refine lv_iload hx hb dX1_piled_251 (lv_at hl 6 rfl) ?_
    refine lv_i2l hx hb dX1_piled_253 rfl ?_
    refine va_last hx hb hK hP hD hS 1 0 rfl rfl (pl_in (Or.resolve_left hne nfr173)) dX1_piled_254 (fun H locs hP hD hS => ?_)
    have hP : va_P D vwCl (rW h a cA ((vp_updL u.1 ((e0 : Int64).toInt32 : Int32).toNatClampNeg ((nx : Int32).toInt64)), u.2.1, u.2.2.1, u.2.2.2.1, u.2.2.2.2.1, u.2.2.2.2.2)) H := hP
    have hD : va_D (wA h a) (rW h a cA ((vp_updL u.1 ((e0 : Int64).toInt32 : Int32).toNatClampNeg ((nx : Int32).toInt64)), u.2.1, u.2.2.1, u.2.2.2.1, u.2.2.2.2.1, u.2.2.2.2.2)) := hD
    generalize (vp_updL u.1 ((e0 : Int64).toInt32 : Int32).toNatClampNeg ((nx : Int32).toInt64)) = f_254 at hP hD
    refine lv_lload_n hx hb dX1_piled_255 rfl (lv_at hl 4 rfl) ?_
    refine lv_lconst (v := 1) hx hb dX1_piled_256 (by decide) ?_
    refine lv_ladd hx hb dX1_piled_257 ?_
    refine lv_ldc2 (v := 4095) hx hb hown (hts (.constantLong RX1 77 4095) (by decide +kernel)) dX1_piled_258 ?_
    refine lv_land hx hb dX1_piled_261 ?_
    refine lv_l2i hx hb dX1_piled_262 rfl ?_
    exact mm_iret (mw := rW h a cA) (u1 := (f_254, u.2.1, u.2.2.1, u.2.2.2.1, u.2.2.2.2.1, u.2.2.2.2.2)) hx hb hr hlocks hP hK hD hS dX1_piled_263 ⟨⟨hI, rfl, rfl⟩, (la4095 _)⟩
  by_cases k_174 : op = 174
  · subst k_174
    refine lv_tableIn (tgt := 245) hx hb dX1_piled_9 (by decide) (by decide) rfl (by decide) ?_
    refine lv_aload_n hx hb dX1_piled_245 rfl (lv_at hl 1 rfl) ?_
    refine va_get (D := D) (ci := 1) (v := .ref a) (C := RX1) (T := TX1) (N := 6) hx hb hts iw_X1_piled hown hK hP 0 rfl rfl 1 (by decide) (hts (.fieldLink RX1 7 "WordMillModel" "memory" "[J") (by decide +kernel)) (fun _ h9 => h9) rfl dX1_piled_246 ?_
    refine lv_lload_n hx hb dX1_piled_249 rfl (lv_at hl 4 rfl) ?_
    refine lv_l2i hx hb dX1_piled_250 rfl ?_
    refine lv_iload hx hb dX1_piled_251 (lv_at hl 6 rfl) ?_
    refine lv_i2l hx hb dX1_piled_253 rfl ?_
    refine va_last hx hb hK hP hD hS 1 0 rfl rfl (pl_in (Or.resolve_left hne nfr174)) dX1_piled_254 (fun H locs hP hD hS => ?_)
    have hP : va_P D vwCl (rW h a cA ((vp_updL u.1 ((e0 : Int64).toInt32 : Int32).toNatClampNeg ((nx : Int32).toInt64)), u.2.1, u.2.2.1, u.2.2.2.1, u.2.2.2.2.1, u.2.2.2.2.2)) H := hP
    have hD : va_D (wA h a) (rW h a cA ((vp_updL u.1 ((e0 : Int64).toInt32 : Int32).toNatClampNeg ((nx : Int32).toInt64)), u.2.1, u.2.2.1, u.2.2.2.1, u.2.2.2.2.1, u.2.2.2.2.2)) := hD
    generalize (vp_updL u.1 ((e0 : Int64).toInt32 : Int32).toNatClampNeg ((nx : Int32).toInt64)) = f_254 at hP hD
    refine lv_lload_n hx hb dX1_piled_255 rfl (lv_at hl 4 rfl) ?_
    refine lv_lconst (v := 1) hx hb dX1_piled_256 (by decide) ?_
    refine lv_ladd hx hb dX1_piled_257 ?_
    refine lv_ldc2 (v := 4095) hx hb hown (hts (.constantLong RX1 77 4095) (by decide +kernel)) dX1_piled_258 ?_
    refine lv_land hx hb dX1_piled_261 ?_
    refine lv_l2i hx hb dX1_piled_262 rfl ?_
    exact mm_iret (mw := rW h a cA) (u1 := (f_254, u.2.1, u.2.2.1, u.2.2.2.1, u.2.2.2.2.1, u.2.2.2.2.2)) hx hb hr hlocks hP hK hD hS dX1_piled_263 ⟨⟨hI, rfl, rfl⟩, (la4095 _)⟩
  by_cases k_175 : op = 175
  · subst k_175
    refine lv_tableIn (tgt := 245) hx hb dX1_piled_9 (by decide) (by decide) rfl (by decide) ?_
    refine lv_aload_n hx hb dX1_piled_245 rfl (lv_at hl 1 rfl) ?_
    refine va_get (D := D) (ci := 1) (v := .ref a) (C := RX1) (T := TX1) (N := 6) hx hb hts iw_X1_piled hown hK hP 0 rfl rfl 1 (by decide) (hts (.fieldLink RX1 7 "WordMillModel" "memory" "[J") (by decide +kernel)) (fun _ h9 => h9) rfl dX1_piled_246 ?_
    refine lv_lload_n hx hb dX1_piled_249 rfl (lv_at hl 4 rfl) ?_
    refine lv_l2i hx hb dX1_piled_250 rfl ?_
    refine lv_iload hx hb dX1_piled_251 (lv_at hl 6 rfl) ?_
    refine lv_i2l hx hb dX1_piled_253 rfl ?_
    refine va_last hx hb hK hP hD hS 1 0 rfl rfl (pl_in (Or.resolve_left hne nfr175)) dX1_piled_254 (fun H locs hP hD hS => ?_)
    have hP : va_P D vwCl (rW h a cA ((vp_updL u.1 ((e0 : Int64).toInt32 : Int32).toNatClampNeg ((nx : Int32).toInt64)), u.2.1, u.2.2.1, u.2.2.2.1, u.2.2.2.2.1, u.2.2.2.2.2)) H := hP
    have hD : va_D (wA h a) (rW h a cA ((vp_updL u.1 ((e0 : Int64).toInt32 : Int32).toNatClampNeg ((nx : Int32).toInt64)), u.2.1, u.2.2.1, u.2.2.2.1, u.2.2.2.2.1, u.2.2.2.2.2)) := hD
    generalize (vp_updL u.1 ((e0 : Int64).toInt32 : Int32).toNatClampNeg ((nx : Int32).toInt64)) = f_254 at hP hD
    refine lv_lload_n hx hb dX1_piled_255 rfl (lv_at hl 4 rfl) ?_
    refine lv_lconst (v := 1) hx hb dX1_piled_256 (by decide) ?_
    refine lv_ladd hx hb dX1_piled_257 ?_
    refine lv_ldc2 (v := 4095) hx hb hown (hts (.constantLong RX1 77 4095) (by decide +kernel)) dX1_piled_258 ?_
    refine lv_land hx hb dX1_piled_261 ?_
    refine lv_l2i hx hb dX1_piled_262 rfl ?_
    exact mm_iret (mw := rW h a cA) (u1 := (f_254, u.2.1, u.2.2.1, u.2.2.2.1, u.2.2.2.2.1, u.2.2.2.2.2)) hx hb hr hlocks hP hK hD hS dX1_piled_263 ⟨⟨hI, rfl, rfl⟩, (la4095 _)⟩
  by_cases k_176 : op = 176
  · subst k_176
    refine lv_tableIn (tgt := 63) hx hb dX1_piled_9 (by decide) (by decide) rfl (by decide) ?_
    refine lv_lload hx hb dX1_piled_63 (lv_at hl 0 rfl) ?_
    refine lv_lconst (v := 1) hx hb dX1_piled_65 (by decide) ?_
    refine lv_ladd hx hb dX1_piled_66 ?_
    refine lv_ldc2 (v := 262143) hx hb hown (hts (.constantLong RX1 31 262143) (by decide +kernel)) dX1_piled_67 ?_
    refine lv_land hx hb dX1_piled_70 ?_
    refine lv_topl (fun x_71 ex_71 => ?_)
    refine lv_lstore (lv' := [(10, .long x_71), (8, .long x_6), (0, .ref h), (1, .int 176), (2, .int ac), (3, .long e0), (5, .long m0), (7, .int nx)]) hx hb dX1_piled_71 hl (by decide) rfl (fun ls hl => ?_)
    refine lv_aload_n hx hb dX1_piled_73 rfl (lv_at hl 2 rfl) ?_
    refine lv_lload hx hb dX1_piled_74 (lv_at hl 0 rfl) ?_
    refine r_go (rv := rv_l) (As := [.long x_71]) (rest := []) ⟨hx, hb, hml, hown, hts⟩ (kX1_at l D h a cA (u.1, u.2.1, u.2.2.1, u.2.2.2.1, u.2.2.2.2.1, u.2.2.2.2.2) hI x_71 ) (cwV 1 hts gX1_piled_X1_at rfl rfl rfl (by decide +kernel) ⟨by decide, by decide⟩) hK hP hD hS rfl hl.1 rfl (Nat.le_of_ble_eq_true rfl) dX1_piled_76 ⟨Nat.zero_le _, Nat.zero_le _⟩ (fun r_76 u_76 H locs q_76 hP hD hS => ?_)
    refine W.eq (g2 := F0 m 79 ls (.long r_76 :: [])) rfl ?_
    refine lv_lstore (lv' := [(12, .long r_76), (10, .long x_71), (8, .long x_6), (0, .ref h), (1, .int 176), (2, .int ac), (3, .long e0), (5, .long m0), (7, .int nx)]) hx hb dX1_piled_79 hl (by decide) rfl (fun ls hl => ?_)
    refine lv_aload_n hx hb dX1_piled_81 rfl (lv_at hl 3 rfl) ?_
    refine va_get (D := D) (ci := 1) (v := .int u_76.2.2.2.2.1) (C := RX1) (T := TX1) (N := 6) hx hb hts iw_X1_piled hown hK hP 0 rfl rfl 4 (by decide) (hts (.fieldLink RX1 36 "WordMillModel" "fault" "I") (by decide +kernel)) (fun _ h9 => h9) rfl dX1_piled_82 ?_
    refine lv_if_eq (tgt := 90) hx hb dX1_piled_85 (by decide) (fun c_85 => ?_) (fun c_85 => ?_)
    · refine lv_aload_n hx hb dX1_piled_90 rfl (lv_at hl 3 rfl) ?_
      refine va_get (D := D) (ci := 1) (v := .ref a) (C := RX1) (T := TX1) (N := 6) hx hb hts iw_X1_piled hown hK hP 0 rfl rfl 1 (by decide) (hts (.fieldLink RX1 7 "WordMillModel" "memory" "[J") (by decide +kernel)) (fun _ h9 => h9) rfl dX1_piled_91 ?_
      refine lv_iload_n hx hb dX1_piled_94 rfl (lv_at hl 5 rfl) ?_
      refine lv_lload hx hb dX1_piled_95 (lv_at hl 2 rfl) ?_
      refine lv_lload hx hb dX1_piled_97 (lv_at hl 1 rfl) ?_
      refine ps_gol (As := [.long x_6, .long x_71]) (rest := [.int ac, .ref a]) ⟨hx, hb, hml, hown, hts⟩ (kX1_half l x_6 x_71) (va_cwS 2 hts gX1_piled_X1_half rfl rfl rfl (by decide +kernel) ⟨by decide, by decide⟩) rfl hl.1 rfl (Nat.le_of_ble_eq_true rfl) dX1_piled_99 ⟨Nat.zero_le _, Nat.zero_le _⟩ (fun r_99 q_99 => ?_)
      refine va_last hx hb hK hP hD hS 1 0 rfl rfl hac dX1_piled_102 (fun H locs hP hD hS => ?_)
      have hP : va_P D vwCl (rW h a cA ((vp_updL u_76.1 (ac : Int32).toNatClampNeg r_99), u_76.2.1, u_76.2.2.1, u_76.2.2.2.1, u_76.2.2.2.2.1, u_76.2.2.2.2.2)) H := hP
      have hD : va_D (wA h a) (rW h a cA ((vp_updL u_76.1 (ac : Int32).toNatClampNeg r_99), u_76.2.1, u_76.2.2.1, u_76.2.2.2.1, u_76.2.2.2.2.1, u_76.2.2.2.2.2)) := hD
      generalize (vp_updL u_76.1 (ac : Int32).toNatClampNeg r_99) = f_102 at hP hD
      refine lv_aload_n hx hb dX1_piled_103 rfl (lv_at hl 3 rfl) ?_
      refine va_get (D := D) (ci := 1) (v := .ref a) (C := RX1) (T := TX1) (N := 6) hx hb hts iw_X1_piled hown hK hP 0 rfl rfl 1 (by decide) (hts (.fieldLink RX1 7 "WordMillModel" "memory" "[J") (by decide +kernel)) (fun _ h9 => h9) rfl dX1_piled_104 ?_
      refine lv_lload hx hb dX1_piled_107 (lv_at hl 1 rfl) ?_
      refine lv_l2i hx hb dX1_piled_109 rfl ?_
      refine lv_iload_n hx hb dX1_piled_110 rfl (lv_at hl 4 rfl) ?_
      refine lv_sipush (v := 176) hx hb dX1_piled_111 (by decide) ?_
      refine lv_icmp_ne (tgt := 123) hx hb dX1_piled_114 (by decide) (fun c_114 => ?_) (fun c_114 => ?_)
      · exact absurd c_114 (by decide)
      · refine lv_iload hx hb dX1_piled_117 (lv_at hl 8 rfl) ?_
        refine lv_i2l hx hb dX1_piled_119 rfl ?_
        refine lv_goto (tgt := 125) hx hb dX1_piled_120 (by decide) ?_
        refine va_last hx hb hK hP hD hS 1 0 rfl rfl (pl_in (q_76.2 c_85)) dX1_piled_125 (fun H locs hP hD hS => ?_)
        have hP : va_P D vwCl (rW h a cA ((vp_updL f_102 ((x_71 : Int64).toInt32 : Int32).toNatClampNeg ((nx : Int32).toInt64)), u_76.2.1, u_76.2.2.1, u_76.2.2.2.1, u_76.2.2.2.2.1, u_76.2.2.2.2.2)) H := hP
        have hD : va_D (wA h a) (rW h a cA ((vp_updL f_102 ((x_71 : Int64).toInt32 : Int32).toNatClampNeg ((nx : Int32).toInt64)), u_76.2.1, u_76.2.2.1, u_76.2.2.2.1, u_76.2.2.2.2.1, u_76.2.2.2.2.2)) := hD
        generalize (vp_updL f_102 ((x_71 : Int64).toInt32 : Int32).toNatClampNeg ((nx : Int32).toInt64)) = f_125 at hP hD
        refine lv_iload_n hx hb dX1_piled_126 rfl (lv_at hl 4 rfl) ?_
        refine lv_sipush (v := 176) hx hb dX1_piled_127 (by decide) ?_
        refine lv_icmp_ne (tgt := 142) hx hb dX1_piled_130 (by decide) (fun c_130 => ?_) (fun c_130 => ?_)
        · exact absurd c_130 (by decide)
        · refine lv_lload_n hx hb dX1_piled_133 rfl (lv_at hl 6 rfl) ?_
          refine lv_ldc2 (v := 4095) hx hb hown (hts (.constantLong RX1 77 4095) (by decide +kernel)) dX1_piled_134 ?_
          refine lv_land hx hb dX1_piled_137 ?_
          refine lv_l2i hx hb dX1_piled_138 rfl ?_
          refine lv_goto (tgt := 144) hx hb dX1_piled_139 (by decide) ?_
          exact mm_iret (mw := rW h a cA) (u1 := (f_125, u_76.2.1, u_76.2.2.1, u_76.2.2.2.1, u_76.2.2.2.2.1, u_76.2.2.2.2.2)) hx hb hr hlocks hP hK hD hS dX1_piled_144 ⟨⟨q_76.1.1, (q_76.1.2.1.trans rfl), (q_76.1.2.2.trans rfl)⟩, (la4095 _)⟩
    · refine lv_iconst (v := 0) hx hb dX1_piled_88 (by decide) ?_
      exact mm_iret (mw := rW h a cA) (u1 := (u_76.1, u_76.2.1, u_76.2.2.1, u_76.2.2.2.1, u_76.2.2.2.2.1, u_76.2.2.2.2.2)) hx hb hr hlocks hP hK hD hS dX1_piled_89 ⟨⟨q_76.1.1, (q_76.1.2.1.trans rfl), (q_76.1.2.2.trans rfl)⟩, (vp_0 (by decide))⟩
  by_cases k_177 : op = 177
  · subst k_177
    refine lv_tableIn (tgt := 63) hx hb dX1_piled_9 (by decide) (by decide) rfl (by decide) ?_
    refine lv_lload hx hb dX1_piled_63 (lv_at hl 0 rfl) ?_
    refine lv_lconst (v := 1) hx hb dX1_piled_65 (by decide) ?_
    refine lv_ladd hx hb dX1_piled_66 ?_
    refine lv_ldc2 (v := 262143) hx hb hown (hts (.constantLong RX1 31 262143) (by decide +kernel)) dX1_piled_67 ?_
    refine lv_land hx hb dX1_piled_70 ?_
    refine lv_topl (fun x_71 ex_71 => ?_)
    refine lv_lstore (lv' := [(10, .long x_71), (8, .long x_6), (0, .ref h), (1, .int 177), (2, .int ac), (3, .long e0), (5, .long m0), (7, .int nx)]) hx hb dX1_piled_71 hl (by decide) rfl (fun ls hl => ?_)
    refine lv_aload_n hx hb dX1_piled_73 rfl (lv_at hl 2 rfl) ?_
    refine lv_lload hx hb dX1_piled_74 (lv_at hl 0 rfl) ?_
    refine r_go (rv := rv_l) (As := [.long x_71]) (rest := []) ⟨hx, hb, hml, hown, hts⟩ (kX1_at l D h a cA (u.1, u.2.1, u.2.2.1, u.2.2.2.1, u.2.2.2.2.1, u.2.2.2.2.2) hI x_71 ) (cwV 1 hts gX1_piled_X1_at rfl rfl rfl (by decide +kernel) ⟨by decide, by decide⟩) hK hP hD hS rfl hl.1 rfl (Nat.le_of_ble_eq_true rfl) dX1_piled_76 ⟨Nat.zero_le _, Nat.zero_le _⟩ (fun r_76 u_76 H locs q_76 hP hD hS => ?_)
    refine W.eq (g2 := F0 m 79 ls (.long r_76 :: [])) rfl ?_
    refine lv_lstore (lv' := [(12, .long r_76), (10, .long x_71), (8, .long x_6), (0, .ref h), (1, .int 177), (2, .int ac), (3, .long e0), (5, .long m0), (7, .int nx)]) hx hb dX1_piled_79 hl (by decide) rfl (fun ls hl => ?_)
    refine lv_aload_n hx hb dX1_piled_81 rfl (lv_at hl 3 rfl) ?_
    refine va_get (D := D) (ci := 1) (v := .int u_76.2.2.2.2.1) (C := RX1) (T := TX1) (N := 6) hx hb hts iw_X1_piled hown hK hP 0 rfl rfl 4 (by decide) (hts (.fieldLink RX1 36 "WordMillModel" "fault" "I") (by decide +kernel)) (fun _ h9 => h9) rfl dX1_piled_82 ?_
    refine lv_if_eq (tgt := 90) hx hb dX1_piled_85 (by decide) (fun c_85 => ?_) (fun c_85 => ?_)
    · refine lv_aload_n hx hb dX1_piled_90 rfl (lv_at hl 3 rfl) ?_
      refine va_get (D := D) (ci := 1) (v := .ref a) (C := RX1) (T := TX1) (N := 6) hx hb hts iw_X1_piled hown hK hP 0 rfl rfl 1 (by decide) (hts (.fieldLink RX1 7 "WordMillModel" "memory" "[J") (by decide +kernel)) (fun _ h9 => h9) rfl dX1_piled_91 ?_
      refine lv_iload_n hx hb dX1_piled_94 rfl (lv_at hl 5 rfl) ?_
      refine lv_lload hx hb dX1_piled_95 (lv_at hl 2 rfl) ?_
      refine lv_lload hx hb dX1_piled_97 (lv_at hl 1 rfl) ?_
      refine ps_gol (As := [.long x_6, .long x_71]) (rest := [.int ac, .ref a]) ⟨hx, hb, hml, hown, hts⟩ (kX1_half l x_6 x_71) (va_cwS 2 hts gX1_piled_X1_half rfl rfl rfl (by decide +kernel) ⟨by decide, by decide⟩) rfl hl.1 rfl (Nat.le_of_ble_eq_true rfl) dX1_piled_99 ⟨Nat.zero_le _, Nat.zero_le _⟩ (fun r_99 q_99 => ?_)
      refine va_last hx hb hK hP hD hS 1 0 rfl rfl hac dX1_piled_102 (fun H locs hP hD hS => ?_)
      have hP : va_P D vwCl (rW h a cA ((vp_updL u_76.1 (ac : Int32).toNatClampNeg r_99), u_76.2.1, u_76.2.2.1, u_76.2.2.2.1, u_76.2.2.2.2.1, u_76.2.2.2.2.2)) H := hP
      have hD : va_D (wA h a) (rW h a cA ((vp_updL u_76.1 (ac : Int32).toNatClampNeg r_99), u_76.2.1, u_76.2.2.1, u_76.2.2.2.1, u_76.2.2.2.2.1, u_76.2.2.2.2.2)) := hD
      generalize (vp_updL u_76.1 (ac : Int32).toNatClampNeg r_99) = f_102 at hP hD
      refine lv_aload_n hx hb dX1_piled_103 rfl (lv_at hl 3 rfl) ?_
      refine va_get (D := D) (ci := 1) (v := .ref a) (C := RX1) (T := TX1) (N := 6) hx hb hts iw_X1_piled hown hK hP 0 rfl rfl 1 (by decide) (hts (.fieldLink RX1 7 "WordMillModel" "memory" "[J") (by decide +kernel)) (fun _ h9 => h9) rfl dX1_piled_104 ?_
      refine lv_lload hx hb dX1_piled_107 (lv_at hl 1 rfl) ?_
      refine lv_l2i hx hb dX1_piled_109 rfl ?_
      refine lv_iload_n hx hb dX1_piled_110 rfl (lv_at hl 4 rfl) ?_
      refine lv_sipush (v := 176) hx hb dX1_piled_111 (by decide) ?_
      refine lv_icmp_ne (tgt := 123) hx hb dX1_piled_114 (by decide) (fun c_114 => ?_) (fun c_114 => ?_)
      · refine lv_lload hx hb dX1_piled_123 (lv_at hl 7 rfl) ?_
        refine va_last hx hb hK hP hD hS 1 0 rfl rfl (pl_in (q_76.2 c_85)) dX1_piled_125 (fun H locs hP hD hS => ?_)
        have hP : va_P D vwCl (rW h a cA ((vp_updL f_102 ((x_71 : Int64).toInt32 : Int32).toNatClampNeg m0), u_76.2.1, u_76.2.2.1, u_76.2.2.2.1, u_76.2.2.2.2.1, u_76.2.2.2.2.2)) H := hP
        have hD : va_D (wA h a) (rW h a cA ((vp_updL f_102 ((x_71 : Int64).toInt32 : Int32).toNatClampNeg m0), u_76.2.1, u_76.2.2.1, u_76.2.2.2.1, u_76.2.2.2.2.1, u_76.2.2.2.2.2)) := hD
        generalize (vp_updL f_102 ((x_71 : Int64).toInt32 : Int32).toNatClampNeg m0) = f_125 at hP hD
        refine lv_iload_n hx hb dX1_piled_126 rfl (lv_at hl 4 rfl) ?_
        refine lv_sipush (v := 176) hx hb dX1_piled_127 (by decide) ?_
        refine lv_icmp_ne (tgt := 142) hx hb dX1_piled_130 (by decide) (fun c_130 => ?_) (fun c_130 => ?_)
        · refine lv_iload hx hb dX1_piled_142 (lv_at hl 8 rfl) ?_
          exact mm_iret (mw := rW h a cA) (u1 := (f_125, u_76.2.1, u_76.2.2.1, u_76.2.2.2.1, u_76.2.2.2.2.1, u_76.2.2.2.2.2)) hx hb hr hlocks hP hK hD hS dX1_piled_144 ⟨⟨q_76.1.1, (q_76.1.2.1.trans rfl), (q_76.1.2.2.trans rfl)⟩, hnx⟩
        · exact absurd c_130 (by decide)
      · exact absurd c_114 (by decide)
    · refine lv_iconst (v := 0) hx hb dX1_piled_88 (by decide) ?_
      exact mm_iret (mw := rW h a cA) (u1 := (u_76.1, u_76.2.1, u_76.2.2.1, u_76.2.2.2.1, u_76.2.2.2.2.1, u_76.2.2.2.2.2)) hx hb hr hlocks hP hK hD hS dX1_piled_89 ⟨⟨q_76.1.1, (q_76.1.2.1.trans rfl), (q_76.1.2.2.trans rfl)⟩, (vp_0 (by decide))⟩
  by_cases k_178 : op = 178
  · subst k_178
    refine lv_tableIn (tgt := 145) hx hb dX1_piled_9 (by decide) (by decide) rfl (by decide) ?_
    refine lv_aload_n hx hb dX1_piled_145 rfl (lv_at hl 1 rfl) ?_
    refine lv_lload hx hb dX1_piled_146 (lv_at hl 0 rfl) ?_
    refine lv_ldc2 (v := 262143) hx hb hown (hts (.constantLong RX1 31 262143) (by decide +kernel)) dX1_piled_148 ?_
    refine lv_land hx hb dX1_piled_151 ?_
    refine r_go (rv := rv_l) (As := [.long (x_6 &&& 262143)]) (rest := []) ⟨hx, hb, hml, hown, hts⟩ (kX1_at l D h a cA (u.1, u.2.1, u.2.2.1, u.2.2.2.1, u.2.2.2.2.1, u.2.2.2.2.2) hI (x_6 &&& 262143) ) (cwV 1 hts gX1_piled_X1_at rfl rfl rfl (by decide +kernel) ⟨by decide, by decide⟩) hK hP hD hS rfl hl.1 rfl (Nat.le_of_ble_eq_true rfl) dX1_piled_152 ⟨Nat.zero_le _, Nat.zero_le _⟩ (fun r_152 u_152 H locs q_152 hP hD hS => ?_)
    refine W.eq (g2 := F0 m 155 ls (.long r_152 :: [])) rfl ?_
    refine lv_lstore (lv' := [(10, .long r_152), (8, .long x_6), (0, .ref h), (1, .int 178), (2, .int ac), (3, .long e0), (5, .long m0), (7, .int nx)]) hx hb dX1_piled_155 hl (by decide) rfl (fun ls hl => ?_)
    refine lv_aload_n hx hb dX1_piled_157 rfl (lv_at hl 2 rfl) ?_
    refine va_get (D := D) (ci := 1) (v := .int u_152.2.2.2.2.1) (C := RX1) (T := TX1) (N := 6) hx hb hts iw_X1_piled hown hK hP 0 rfl rfl 4 (by decide) (hts (.fieldLink RX1 36 "WordMillModel" "fault" "I") (by decide +kernel)) (fun _ h9 => h9) rfl dX1_piled_158 ?_
    refine lv_if_eq (tgt := 166) hx hb dX1_piled_161 (by decide) (fun c_161 => ?_) (fun c_161 => ?_)
    · refine lv_aload_n hx hb dX1_piled_166 rfl (lv_at hl 2 rfl) ?_
      refine va_get (D := D) (ci := 1) (v := .ref a) (C := RX1) (T := TX1) (N := 6) hx hb hts iw_X1_piled hown hK hP 0 rfl rfl 1 (by decide) (hts (.fieldLink RX1 7 "WordMillModel" "memory" "[J") (by decide +kernel)) (fun _ h9 => h9) rfl dX1_piled_167 ?_
      refine lv_lload_n hx hb dX1_piled_170 rfl (lv_at hl 5 rfl) ?_
      refine lv_l2i hx hb dX1_piled_171 rfl ?_
      refine lv_lload hx hb dX1_piled_172 (lv_at hl 0 rfl) ?_
      refine va_last hx hb hK hP hD hS 1 0 rfl rfl (pl_in (Or.resolve_left hne nfr178)) dX1_piled_174 (fun H locs hP hD hS => ?_)
      have hP : va_P D vwCl (rW h a cA ((vp_updL u_152.1 ((e0 : Int64).toInt32 : Int32).toNatClampNeg r_152), u_152.2.1, u_152.2.2.1, u_152.2.2.2.1, u_152.2.2.2.2.1, u_152.2.2.2.2.2)) H := hP
      have hD : va_D (wA h a) (rW h a cA ((vp_updL u_152.1 ((e0 : Int64).toInt32 : Int32).toNatClampNeg r_152), u_152.2.1, u_152.2.2.1, u_152.2.2.2.1, u_152.2.2.2.2.1, u_152.2.2.2.2.2)) := hD
      generalize (vp_updL u_152.1 ((e0 : Int64).toInt32 : Int32).toNatClampNeg r_152) = f_174 at hP hD
      refine lv_aload_n hx hb dX1_piled_175 rfl (lv_at hl 2 rfl) ?_
      refine va_get (D := D) (ci := 1) (v := .ref a) (C := RX1) (T := TX1) (N := 6) hx hb hts iw_X1_piled hown hK hP 0 rfl rfl 1 (by decide) (hts (.fieldLink RX1 7 "WordMillModel" "memory" "[J") (by decide +kernel)) (fun _ h9 => h9) rfl dX1_piled_176 ?_
      refine lv_iload_n hx hb dX1_piled_179 rfl (lv_at hl 4 rfl) ?_
      refine lv_aload_n hx hb dX1_piled_180 rfl (lv_at hl 2 rfl) ?_
      refine va_get (D := D) (ci := 1) (v := .ref a) (C := RX1) (T := TX1) (N := 6) hx hb hts iw_X1_piled hown hK hP 0 rfl rfl 1 (by decide) (hts (.fieldLink RX1 7 "WordMillModel" "memory" "[J") (by decide +kernel)) (fun _ h9 => h9) rfl dX1_piled_181 ?_
      refine lv_iload_n hx hb dX1_piled_184 rfl (lv_at hl 4 rfl) ?_
      refine va_lald hx hb hK hP 1 0 rfl rfl hac dX1_piled_185 ?_
      refine lv_aload_n hx hb dX1_piled_186 rfl (lv_at hl 2 rfl) ?_
      refine va_get (D := D) (ci := 1) (v := .ref a) (C := RX1) (T := TX1) (N := 6) hx hb hts iw_X1_piled hown hK hP 0 rfl rfl 1 (by decide) (hts (.fieldLink RX1 7 "WordMillModel" "memory" "[J") (by decide +kernel)) (fun _ h9 => h9) rfl dX1_piled_187 ?_
      refine lv_iload_n hx hb dX1_piled_190 rfl (lv_at hl 4 rfl) ?_
      refine va_lald hx hb hK hP 1 0 rfl rfl hac dX1_piled_191 ?_
      refine lv_lconst (v := 1) hx hb dX1_piled_192 (by decide) ?_
      refine lv_lsub hx hb dX1_piled_193 ?_
      refine ps_gol (As := [.long (f_174 (ac : Int32).toNatClampNeg), .long ((f_174 (ac : Int32).toNatClampNeg) - 1)]) (rest := [.int ac, .ref a]) ⟨hx, hb, hml, hown, hts⟩ (kX1_half l (f_174 (ac : Int32).toNatClampNeg) ((f_174 (ac : Int32).toNatClampNeg) - 1)) (va_cwS 2 hts gX1_piled_X1_half rfl rfl rfl (by decide +kernel) ⟨by decide, by decide⟩) rfl hl.1 rfl (Nat.le_of_ble_eq_true rfl) dX1_piled_194 ⟨Nat.zero_le _, Nat.zero_le _⟩ (fun r_194 q_194 => ?_)
      refine va_last hx hb hK hP hD hS 1 0 rfl rfl hac dX1_piled_197 (fun H locs hP hD hS => ?_)
      have hP : va_P D vwCl (rW h a cA ((vp_updL f_174 (ac : Int32).toNatClampNeg r_194), u_152.2.1, u_152.2.2.1, u_152.2.2.2.1, u_152.2.2.2.2.1, u_152.2.2.2.2.2)) H := hP
      have hD : va_D (wA h a) (rW h a cA ((vp_updL f_174 (ac : Int32).toNatClampNeg r_194), u_152.2.1, u_152.2.2.1, u_152.2.2.2.1, u_152.2.2.2.2.1, u_152.2.2.2.2.2)) := hD
      generalize (vp_updL f_174 (ac : Int32).toNatClampNeg r_194) = f_197 at hP hD
      refine lv_iload hx hb dX1_piled_198 (lv_at hl 7 rfl) ?_
      exact mm_iret (mw := rW h a cA) (u1 := (f_197, u_152.2.1, u_152.2.2.1, u_152.2.2.2.1, u_152.2.2.2.2.1, u_152.2.2.2.2.2)) hx hb hr hlocks hP hK hD hS dX1_piled_200 ⟨⟨q_152.1.1, (q_152.1.2.1.trans rfl), (q_152.1.2.2.trans rfl)⟩, hnx⟩
    · refine lv_iconst (v := 0) hx hb dX1_piled_164 (by decide) ?_
      exact mm_iret (mw := rW h a cA) (u1 := (u_152.1, u_152.2.1, u_152.2.2.1, u_152.2.2.2.1, u_152.2.2.2.2.1, u_152.2.2.2.2.2)) hx hb hr hlocks hP hK hD hS dX1_piled_165 ⟨⟨q_152.1.1, (q_152.1.2.1.trans rfl), (q_152.1.2.2.trans rfl)⟩, (vp_0 (by decide))⟩
  by_cases k_179 : op = 179
  · subst k_179
    refine lv_tableIn (tgt := 201) hx hb dX1_piled_9 (by decide) (by decide) rfl (by decide) ?_
    refine lv_aload_n hx hb dX1_piled_201 rfl (lv_at hl 1 rfl) ?_
    refine lv_lload hx hb dX1_piled_202 (lv_at hl 0 rfl) ?_
    refine lv_ldc2 (v := 262143) hx hb hown (hts (.constantLong RX1 31 262143) (by decide +kernel)) dX1_piled_204 ?_
    refine lv_land hx hb dX1_piled_207 ?_
    refine r_go (rv := rv_l) (As := [.long (x_6 &&& 262143)]) (rest := []) ⟨hx, hb, hml, hown, hts⟩ (kX1_at l D h a cA (u.1, u.2.1, u.2.2.1, u.2.2.2.1, u.2.2.2.2.1, u.2.2.2.2.2) hI (x_6 &&& 262143) ) (cwV 1 hts gX1_piled_X1_at rfl rfl rfl (by decide +kernel) ⟨by decide, by decide⟩) hK hP hD hS rfl hl.1 rfl (Nat.le_of_ble_eq_true rfl) dX1_piled_208 ⟨Nat.zero_le _, Nat.zero_le _⟩ (fun r_208 u_208 H locs q_208 hP hD hS => ?_)
    refine W.eq (g2 := F0 m 211 ls (.long r_208 :: [])) rfl ?_
    refine lv_lstore (lv' := [(10, .long r_208), (8, .long x_6), (0, .ref h), (1, .int 179), (2, .int ac), (3, .long e0), (5, .long m0), (7, .int nx)]) hx hb dX1_piled_211 hl (by decide) rfl (fun ls hl => ?_)
    refine lv_aload_n hx hb dX1_piled_213 rfl (lv_at hl 2 rfl) ?_
    refine va_get (D := D) (ci := 1) (v := .int u_208.2.2.2.2.1) (C := RX1) (T := TX1) (N := 6) hx hb hts iw_X1_piled hown hK hP 0 rfl rfl 4 (by decide) (hts (.fieldLink RX1 36 "WordMillModel" "fault" "I") (by decide +kernel)) (fun _ h9 => h9) rfl dX1_piled_214 ?_
    refine lv_if_eq (tgt := 222) hx hb dX1_piled_217 (by decide) (fun c_217 => ?_) (fun c_217 => ?_)
    · refine lv_aload_n hx hb dX1_piled_222 rfl (lv_at hl 2 rfl) ?_
      refine va_get (D := D) (ci := 1) (v := .ref a) (C := RX1) (T := TX1) (N := 6) hx hb hts iw_X1_piled hown hK hP 0 rfl rfl 1 (by decide) (hts (.fieldLink RX1 7 "WordMillModel" "memory" "[J") (by decide +kernel)) (fun _ h9 => h9) rfl dX1_piled_223 ?_
      refine lv_iload_n hx hb dX1_piled_226 rfl (lv_at hl 4 rfl) ?_
      refine lv_lload hx hb dX1_piled_227 (lv_at hl 1 rfl) ?_
      refine lv_lload hx hb dX1_piled_229 (lv_at hl 1 rfl) ?_
      refine lv_lconst (v := 1) hx hb dX1_piled_231 (by decide) ?_
      refine lv_lsub hx hb dX1_piled_232 ?_
      refine ps_gol (As := [.long x_6, .long (x_6 - 1)]) (rest := [.int ac, .ref a]) ⟨hx, hb, hml, hown, hts⟩ (kX1_half l x_6 (x_6 - 1)) (va_cwS 2 hts gX1_piled_X1_half rfl rfl rfl (by decide +kernel) ⟨by decide, by decide⟩) rfl hl.1 rfl (Nat.le_of_ble_eq_true rfl) dX1_piled_233 ⟨Nat.zero_le _, Nat.zero_le _⟩ (fun r_233 q_233 => ?_)
      refine va_last hx hb hK hP hD hS 1 0 rfl rfl hac dX1_piled_236 (fun H locs hP hD hS => ?_)
      have hP : va_P D vwCl (rW h a cA ((vp_updL u_208.1 (ac : Int32).toNatClampNeg r_233), u_208.2.1, u_208.2.2.1, u_208.2.2.2.1, u_208.2.2.2.2.1, u_208.2.2.2.2.2)) H := hP
      have hD : va_D (wA h a) (rW h a cA ((vp_updL u_208.1 (ac : Int32).toNatClampNeg r_233), u_208.2.1, u_208.2.2.1, u_208.2.2.2.1, u_208.2.2.2.2.1, u_208.2.2.2.2.2)) := hD
      generalize (vp_updL u_208.1 (ac : Int32).toNatClampNeg r_233) = f_236 at hP hD
      refine lv_lload hx hb dX1_piled_237 (lv_at hl 0 rfl) ?_
      refine lv_ldc2 (v := 4095) hx hb hown (hts (.constantLong RX1 77 4095) (by decide +kernel)) dX1_piled_239 ?_
      refine lv_land hx hb dX1_piled_242 ?_
      refine lv_l2i hx hb dX1_piled_243 rfl ?_
      exact mm_iret (mw := rW h a cA) (u1 := (f_236, u_208.2.1, u_208.2.2.1, u_208.2.2.2.1, u_208.2.2.2.2.1, u_208.2.2.2.2.2)) hx hb hr hlocks hP hK hD hS dX1_piled_244 ⟨⟨q_208.1.1, (q_208.1.2.1.trans rfl), (q_208.1.2.2.trans rfl)⟩, (la4095 _)⟩
    · refine lv_iconst (v := 0) hx hb dX1_piled_220 (by decide) ?_
      exact mm_iret (mw := rW h a cA) (u1 := (u_208.1, u_208.2.1, u_208.2.2.1, u_208.2.2.2.1, u_208.2.2.2.2.1, u_208.2.2.2.2.2)) hx hb hr hlocks hP hK hD hS dX1_piled_221 ⟨⟨q_208.1.1, (q_208.1.2.1.trans rfl), (q_208.1.2.2.trans rfl)⟩, (vp_0 (by decide))⟩
  refine lv_tableOut (tgt := 245) hx hb dX1_piled_9 (tb_out_172_8 k_172 k_173 k_174 k_175 k_176 k_177 k_178 k_179) (by decide) ?_
  refine lv_aload_n hx hb dX1_piled_245 rfl (lv_at hl 1 rfl) ?_
  refine va_get (D := D) (ci := 1) (v := .ref a) (C := RX1) (T := TX1) (N := 6) hx hb hts iw_X1_piled hown hK hP 0 rfl rfl 1 (by decide) (hts (.fieldLink RX1 7 "WordMillModel" "memory" "[J") (by decide +kernel)) (fun _ h9 => h9) rfl dX1_piled_246 ?_
  refine lv_lload_n hx hb dX1_piled_249 rfl (lv_at hl 4 rfl) ?_
  refine lv_l2i hx hb dX1_piled_250 rfl ?_
  refine lv_iload hx hb dX1_piled_251 (lv_at hl 6 rfl) ?_
  refine lv_i2l hx hb dX1_piled_253 rfl ?_
  refine va_last hx hb hK hP hD hS 1 0 rfl rfl (pl_in (Or.resolve_left hne (pil_d hop.1 hop.2 k_172 k_173 k_174 k_175 k_176 k_177 k_178 k_179))) dX1_piled_254 (fun H locs hP hD hS => ?_)
  have hP : va_P D vwCl (rW h a cA ((vp_updL u.1 ((e0 : Int64).toInt32 : Int32).toNatClampNeg ((nx : Int32).toInt64)), u.2.1, u.2.2.1, u.2.2.2.1, u.2.2.2.2.1, u.2.2.2.2.2)) H := hP
  have hD : va_D (wA h a) (rW h a cA ((vp_updL u.1 ((e0 : Int64).toInt32 : Int32).toNatClampNeg ((nx : Int32).toInt64)), u.2.1, u.2.2.1, u.2.2.2.1, u.2.2.2.2.1, u.2.2.2.2.2)) := hD
  generalize (vp_updL u.1 ((e0 : Int64).toInt32 : Int32).toNatClampNeg ((nx : Int32).toInt64)) = f_254 at hP hD
  refine lv_lload_n hx hb dX1_piled_255 rfl (lv_at hl 4 rfl) ?_
  refine lv_lconst (v := 1) hx hb dX1_piled_256 (by decide) ?_
  refine lv_ladd hx hb dX1_piled_257 ?_
  refine lv_ldc2 (v := 4095) hx hb hown (hts (.constantLong RX1 77 4095) (by decide +kernel)) dX1_piled_258 ?_
  refine lv_land hx hb dX1_piled_261 ?_
  refine lv_l2i hx hb dX1_piled_262 rfl ?_
  exact mm_iret (mw := rW h a cA) (u1 := (f_254, u.2.1, u.2.2.1, u.2.2.2.1, u.2.2.2.2.1, u.2.2.2.2.2)) hx hb hr hlocks hP hK hD hS dX1_piled_263 ⟨⟨hI, rfl, rfl⟩, (la4095 _)⟩
theorem iw_X1_tested : ∀ w ∈ u_ws RX1 TX1 6, w ∈ wsX1_tested := by decide +kernel
set_option maxHeartbeats 4000000 in
set_option maxRecDepth 100000 in
theorem kX1_tested (l : Launch) (D : va_G) (h a : Nat) (cA : ClassId) (u : rS) (hI : rI u) (op : Int32) (ac : Int32) (e0 : Int64) (m0 : Int64) (nx : Int32) (hop : ¬ op < 192 ∧ ¬ 255 < op) (hac : vp_in ac 4096) (hne : fr op ∨ pl e0) (hnx : vp_in nx 4096) : MM l yX1_tested wsX1_tested ({ frames := 1, cells := 0, slots := 0, locals := 24 }) D vwCl [(cA, .long)] (rW h a cA) (wA h a) u [.ref h, .int op, .int ac, .long e0, .long m0, .int nx] rv_i (fun r u' => rK u u' ∧ vp_in r 4096) := by
  refine mm_of (cc := cX1_tested) (maxL := 14) (ret := (some .int)) (by decide) rfl (Nat.le_of_ble_eq_true rfl) (rA_in h a cA u) ?_
  intro p e s m below meth c ls C hl hP hK hD hS
  obtain ⟨hx, hb, hr, hml, hown, hts, hlocks⟩ := C
  have hl : lv_has ls 14 [(0, .ref h), (1, .int op), (2, .int ac), (3, .long e0), (5, .long m0), (7, .int nx)] := hl
  refine lv_aload_n hx hb dX1_tested_0 rfl (lv_at hl 0 rfl) ?_
  refine va_get (D := D) (ci := 1) (v := .ref a) (C := RX1) (T := TX1) (N := 6) hx hb hts iw_X1_tested hown hK hP 0 rfl rfl 1 (by decide) (hts (.fieldLink RX1 7 "WordMillModel" "memory" "[J") (by decide +kernel)) (fun _ h9 => h9) rfl dX1_tested_1 ?_
  refine lv_iload_n hx hb dX1_tested_4 rfl (lv_at hl 2 rfl) ?_
  refine va_lald hx hb hK hP 1 0 rfl rfl hac dX1_tested_5 ?_
  refine lv_topl (fun x_6 ex_6 => ?_)
  refine lv_lstore (lv' := [(8, .long x_6), (0, .ref h), (1, .int op), (2, .int ac), (3, .long e0), (5, .long m0), (7, .int nx)]) hx hb dX1_tested_6 hl (by decide) rfl (fun ls hl => ?_)
  refine lv_iload hx hb dX1_tested_8 (lv_at hl 6 rfl) ?_
  refine lv_iconst (v := 1) hx hb dX1_tested_10 (by decide) ?_
  refine lv_iadd hx hb dX1_tested_11 ?_
  refine lv_sipush (v := 4095) hx hb dX1_tested_12 (by decide) ?_
  refine lv_iand hx hb dX1_tested_15 ?_
  refine lv_topi (fun x_16 ex_16 => ?_)
  refine lv_istore (lv' := [(10, .int x_16), (8, .long x_6), (0, .ref h), (1, .int op), (2, .int ac), (3, .long e0), (5, .long m0), (7, .int nx)]) hx hb dX1_tested_16 hl (by decide) rfl (fun ls hl => ?_)
  refine lv_lload_n hx hb dX1_tested_18 rfl (lv_at hl 5 rfl) ?_
  refine lv_ldc2 (v := 4095) hx hb hown (hts (.constantLong RX1 77 4095) (by decide +kernel)) dX1_tested_19 ?_
  refine lv_land hx hb dX1_tested_22 ?_
  refine lv_l2i hx hb dX1_tested_23 rfl ?_
  refine lv_topi (fun x_24 ex_24 => ?_)
  refine lv_istore (lv' := [(11, .int x_24), (10, .int x_16), (8, .long x_6), (0, .ref h), (1, .int op), (2, .int ac), (3, .long e0), (5, .long m0), (7, .int nx)]) hx hb dX1_tested_24 hl (by decide) rfl (fun ls hl => ?_)
  refine lv_iload_n hx hb dX1_tested_26 rfl (lv_at hl 4 rfl) ?_
  refine lv_iconst (v := 3) hx hb dX1_tested_27 (by decide) ?_
  refine lv_ishr hx hb dX1_tested_28 ?_
  refine lv_bipush (v := 7) hx hb dX1_tested_29 (by decide) ?_
  refine lv_iand hx hb dX1_tested_31 ?_
  refine lv_topi (fun x_32 ex_32 => ?_)
  by_cases k_0 : x_32 = 0
  · subst k_0
    refine lv_tableIn (tgt := 80) hx hb dX1_tested_32 (by decide) (by decide) rfl (by decide) ?_
    refine lv_iload_n hx hb dX1_tested_80 rfl (lv_at hl 4 rfl) ?_
    refine lv_lload hx hb dX1_tested_81 (lv_at hl 2 rfl) ?_
    refine ps_gol (As := [.long x_6]) (rest := [.int op]) ⟨hx, hb, hml, hown, hts⟩ (kX1_number l x_6) (va_cwS 1 hts gX1_tested_X1_number rfl rfl rfl (by decide +kernel) ⟨by decide, by decide⟩) rfl hl.1 rfl (Nat.le_of_ble_eq_true rfl) dX1_tested_83 ⟨Nat.zero_le _, Nat.zero_le _⟩ (fun r_83 q_83 => ?_)
    refine lv_lload_n hx hb dX1_tested_86 rfl (lv_at hl 6 rfl) ?_
    refine ps_goi (As := [.int op, .long r_83, .long e0]) (rest := []) ⟨hx, hb, hml, hown, hts⟩ (kX1_is l op r_83 e0) (va_cwS 3 hts gX1_tested_X1_is rfl rfl rfl (by decide +kernel) ⟨by decide, by decide⟩) rfl hl.1 rfl (Nat.le_of_ble_eq_true rfl) dX1_tested_87 ⟨Nat.zero_le _, Nat.zero_le _⟩ (fun r_87 q_87 => ?_)
    refine lv_if_eq (tgt := 98) hx hb dX1_tested_90 (by decide) (fun c_90 => ?_) (fun c_90 => ?_)
    · refine lv_iload hx hb dX1_tested_98 (lv_at hl 8 rfl) ?_
      exact mm_iret (mw := rW h a cA) (u1 := (u.1, u.2.1, u.2.2.1, u.2.2.2.1, u.2.2.2.2.1, u.2.2.2.2.2)) hx hb hr hlocks hP hK hD hS dX1_tested_100 ⟨⟨hI, rfl, rfl⟩, hnx⟩
    · refine lv_iload hx hb dX1_tested_93 (lv_at hl 1 rfl) ?_
      refine lv_goto (tgt := 100) hx hb dX1_tested_95 (by decide) ?_
      exact mm_iret (mw := rW h a cA) (u1 := (u.1, u.2.1, u.2.2.1, u.2.2.2.1, u.2.2.2.2.1, u.2.2.2.2.2)) hx hb hr hlocks hP hK hD hS dX1_tested_100 ⟨⟨hI, rfl, rfl⟩, (by rw [ex_16]; exact vp_and4095 _)⟩
  by_cases k_1 : x_32 = 1
  · subst k_1
    refine lv_tableIn (tgt := 101) hx hb dX1_tested_32 (by decide) (by decide) rfl (by decide) ?_
    refine lv_iload_n hx hb dX1_tested_101 rfl (lv_at hl 4 rfl) ?_
    refine lv_lload hx hb dX1_tested_102 (lv_at hl 2 rfl) ?_
    refine ps_gol (As := [.long x_6]) (rest := [.int op]) ⟨hx, hb, hml, hown, hts⟩ (kX1_number l x_6) (va_cwS 1 hts gX1_tested_X1_number rfl rfl rfl (by decide +kernel) ⟨by decide, by decide⟩) rfl hl.1 rfl (Nat.le_of_ble_eq_true rfl) dX1_tested_104 ⟨Nat.zero_le _, Nat.zero_le _⟩ (fun r_104 q_104 => ?_)
    refine lv_lload hx hb dX1_tested_107 (lv_at hl 7 rfl) ?_
    refine ps_gol (As := [.long m0]) (rest := [.long r_104, .int op]) ⟨hx, hb, hml, hown, hts⟩ (kX1_number l m0) (va_cwS 1 hts gX1_tested_X1_number rfl rfl rfl (by decide +kernel) ⟨by decide, by decide⟩) rfl hl.1 rfl (Nat.le_of_ble_eq_true rfl) dX1_tested_109 ⟨Nat.zero_le _, Nat.zero_le _⟩ (fun r_109 q_109 => ?_)
    refine ps_goi (As := [.int op, .long r_104, .long r_109]) (rest := []) ⟨hx, hb, hml, hown, hts⟩ (kX1_is l op r_104 r_109) (va_cwS 3 hts gX1_tested_X1_is rfl rfl rfl (by decide +kernel) ⟨by decide, by decide⟩) rfl hl.1 rfl (Nat.le_of_ble_eq_true rfl) dX1_tested_112 ⟨Nat.zero_le _, Nat.zero_le _⟩ (fun r_112 q_112 => ?_)
    refine lv_if_eq (tgt := 123) hx hb dX1_tested_115 (by decide) (fun c_115 => ?_) (fun c_115 => ?_)
    · refine lv_iload hx hb dX1_tested_123 (lv_at hl 8 rfl) ?_
      exact mm_iret (mw := rW h a cA) (u1 := (u.1, u.2.1, u.2.2.1, u.2.2.2.1, u.2.2.2.2.1, u.2.2.2.2.2)) hx hb hr hlocks hP hK hD hS dX1_tested_125 ⟨⟨hI, rfl, rfl⟩, hnx⟩
    · refine lv_iload hx hb dX1_tested_118 (lv_at hl 1 rfl) ?_
      refine lv_goto (tgt := 125) hx hb dX1_tested_120 (by decide) ?_
      exact mm_iret (mw := rW h a cA) (u1 := (u.1, u.2.1, u.2.2.1, u.2.2.2.1, u.2.2.2.2.1, u.2.2.2.2.2)) hx hb hr hlocks hP hK hD hS dX1_tested_125 ⟨⟨hI, rfl, rfl⟩, (by rw [ex_16]; exact vp_and4095 _)⟩
  by_cases k_2 : x_32 = 2
  · subst k_2
    refine lv_tableIn (tgt := 126) hx hb dX1_tested_32 (by decide) (by decide) rfl (by decide) ?_
    refine lv_iload_n hx hb dX1_tested_126 rfl (lv_at hl 4 rfl) ?_
    refine lv_lload hx hb dX1_tested_127 (lv_at hl 2 rfl) ?_
    refine ps_gol (As := [.long x_6]) (rest := [.int op]) ⟨hx, hb, hml, hown, hts⟩ (kX1_number l x_6) (va_cwS 1 hts gX1_tested_X1_number rfl rfl rfl (by decide +kernel) ⟨by decide, by decide⟩) rfl hl.1 rfl (Nat.le_of_ble_eq_true rfl) dX1_tested_129 ⟨Nat.zero_le _, Nat.zero_le _⟩ (fun r_129 q_129 => ?_)
    refine lv_lconst (v := 0) hx hb dX1_tested_132 (by decide) ?_
    refine ps_goi (As := [.int op, .long r_129, .long 0]) (rest := []) ⟨hx, hb, hml, hown, hts⟩ (kX1_is l op r_129 0) (va_cwS 3 hts gX1_tested_X1_is rfl rfl rfl (by decide +kernel) ⟨by decide, by decide⟩) rfl hl.1 rfl (Nat.le_of_ble_eq_true rfl) dX1_tested_133 ⟨Nat.zero_le _, Nat.zero_le _⟩ (fun r_133 q_133 => ?_)
    refine lv_if_eq (tgt := 144) hx hb dX1_tested_136 (by decide) (fun c_136 => ?_) (fun c_136 => ?_)
    · refine lv_iload hx hb dX1_tested_144 (lv_at hl 8 rfl) ?_
      exact mm_iret (mw := rW h a cA) (u1 := (u.1, u.2.1, u.2.2.1, u.2.2.2.1, u.2.2.2.2.1, u.2.2.2.2.2)) hx hb hr hlocks hP hK hD hS dX1_tested_146 ⟨⟨hI, rfl, rfl⟩, hnx⟩
    · refine lv_iload hx hb dX1_tested_139 (lv_at hl 0 rfl) ?_
      refine lv_goto (tgt := 146) hx hb dX1_tested_141 (by decide) ?_
      exact mm_iret (mw := rW h a cA) (u1 := (u.1, u.2.1, u.2.2.1, u.2.2.2.1, u.2.2.2.2.1, u.2.2.2.2.2)) hx hb hr hlocks hP hK hD hS dX1_tested_146 ⟨⟨hI, rfl, rfl⟩, (by rw [ex_24]; exact la4095 _)⟩
  by_cases k_3 : x_32 = 3
  · subst k_3
    refine lv_tableIn (tgt := 147) hx hb dX1_tested_32 (by decide) (by decide) rfl (by decide) ?_
    refine lv_lload hx hb dX1_tested_147 (lv_at hl 7 rfl) ?_
    refine lv_iload_n hx hb dX1_tested_149 rfl (lv_at hl 4 rfl) ?_
    refine lv_iconst (v := 3) hx hb dX1_tested_150 (by decide) ?_
    refine lv_ishr hx hb dX1_tested_151 ?_
    refine lv_bipush (v := 29) hx hb dX1_tested_152 (by decide) ?_
    refine lv_icmp_ne (tgt := 161) hx hb dX1_tested_154 (by decide) (fun c_154 => ?_) (fun c_154 => ?_)
    · refine lv_iload_n hx hb dX1_tested_161 rfl (lv_at hl 4 rfl) ?_
      refine lv_iconst (v := 3) hx hb dX1_tested_162 (by decide) ?_
      refine lv_ishr hx hb dX1_tested_163 ?_
      refine lv_bipush (v := 31) hx hb dX1_tested_164 (by decide) ?_
      refine lv_icmp_ne (tgt := 173) hx hb dX1_tested_166 (by decide) (fun c_166 => ?_) (fun c_166 => ?_)
      · refine lv_iconst (v := 0) hx hb dX1_tested_173 (by decide) ?_
        refine lv_i2l hx hb dX1_tested_174 rfl ?_
        refine lv_ladd hx hb dX1_tested_175 ?_
        refine lv_ldc2 (v := 68719476735) hx hb hown (hts (.constantLong RX1 27 68719476735) (by decide +kernel)) dX1_tested_176 ?_
        refine lv_land hx hb dX1_tested_179 ?_
        refine lv_topl (fun x_180 ex_180 => ?_)
        refine lv_lstore (lv' := [(12, .long x_180), (11, .int x_24), (10, .int x_16), (8, .long x_6), (0, .ref h), (1, .int op), (2, .int ac), (3, .long e0), (5, .long m0), (7, .int nx)]) hx hb dX1_tested_180 hl (by decide) rfl (fun ls hl => ?_)
        refine lv_aload_n hx hb dX1_tested_182 rfl (lv_at hl 4 rfl) ?_
        refine va_get (D := D) (ci := 1) (v := .ref a) (C := RX1) (T := TX1) (N := 6) hx hb hts iw_X1_tested hown hK hP 0 rfl rfl 1 (by decide) (hts (.fieldLink RX1 7 "WordMillModel" "memory" "[J") (by decide +kernel)) (fun _ h9 => h9) rfl dX1_tested_183 ?_
        refine lv_lload_n hx hb dX1_tested_186 rfl (lv_at hl 7 rfl) ?_
        refine lv_l2i hx hb dX1_tested_187 rfl ?_
        refine lv_lload hx hb dX1_tested_188 (lv_at hl 0 rfl) ?_
        refine va_last hx hb hK hP hD hS 1 0 rfl rfl (pl_in (tst_e hop.1 hop.2 hne (Or.inl ex_32.symm))) dX1_tested_190 (fun H locs hP hD hS => ?_)
        have hP : va_P D vwCl (rW h a cA ((vp_updL u.1 ((e0 : Int64).toInt32 : Int32).toNatClampNeg x_180), u.2.1, u.2.2.1, u.2.2.2.1, u.2.2.2.2.1, u.2.2.2.2.2)) H := hP
        have hD : va_D (wA h a) (rW h a cA ((vp_updL u.1 ((e0 : Int64).toInt32 : Int32).toNatClampNeg x_180), u.2.1, u.2.2.1, u.2.2.2.1, u.2.2.2.2.1, u.2.2.2.2.2)) := hD
        generalize (vp_updL u.1 ((e0 : Int64).toInt32 : Int32).toNatClampNeg x_180) = f_190 at hP hD
        refine lv_iload_n hx hb dX1_tested_191 rfl (lv_at hl 6 rfl) ?_
        refine lv_if_eq (tgt := 203) hx hb dX1_tested_192 (by decide) (fun c_192 => ?_) (fun c_192 => ?_)
        · refine lv_iload_n hx hb dX1_tested_203 rfl (lv_at hl 5 rfl) ?_
          refine lv_lload hx hb dX1_tested_204 (lv_at hl 0 rfl) ?_
          refine ps_gol (As := [.long x_180]) (rest := [.int op]) ⟨hx, hb, hml, hown, hts⟩ (kX1_number l x_180) (va_cwS 1 hts gX1_tested_X1_number rfl rfl rfl (by decide +kernel) ⟨by decide, by decide⟩) rfl hl.1 rfl (Nat.le_of_ble_eq_true rfl) dX1_tested_206 ⟨Nat.zero_le _, Nat.zero_le _⟩ (fun r_206 q_206 => ?_)
          refine lv_lconst (v := 0) hx hb dX1_tested_209 (by decide) ?_
          refine ps_goi (As := [.int op, .long r_206, .long 0]) (rest := []) ⟨hx, hb, hml, hown, hts⟩ (kX1_is l op r_206 0) (va_cwS 3 hts gX1_tested_X1_is rfl rfl rfl (by decide +kernel) ⟨by decide, by decide⟩) rfl hl.1 rfl (Nat.le_of_ble_eq_true rfl) dX1_tested_210 ⟨Nat.zero_le _, Nat.zero_le _⟩ (fun r_210 q_210 => ?_)
          refine lv_if_eq (tgt := 221) hx hb dX1_tested_213 (by decide) (fun c_213 => ?_) (fun c_213 => ?_)
          · refine lv_iload hx hb dX1_tested_221 (lv_at hl 9 rfl) ?_
            exact mm_iret (mw := rW h a cA) (u1 := (f_190, u.2.1, u.2.2.1, u.2.2.2.1, u.2.2.2.2.1, u.2.2.2.2.2)) hx hb hr hlocks hP hK hD hS dX1_tested_223 ⟨⟨hI, rfl, rfl⟩, hnx⟩
          · refine lv_iload hx hb dX1_tested_216 (lv_at hl 2 rfl) ?_
            refine lv_goto (tgt := 223) hx hb dX1_tested_218 (by decide) ?_
            exact mm_iret (mw := rW h a cA) (u1 := (f_190, u.2.1, u.2.2.1, u.2.2.2.1, u.2.2.2.2.1, u.2.2.2.2.2)) hx hb hr hlocks hP hK hD hS dX1_tested_223 ⟨⟨hI, rfl, rfl⟩, (by rw [ex_16]; exact vp_and4095 _)⟩
        · refine lv_aload_n hx hb dX1_tested_195 rfl (lv_at hl 4 rfl) ?_
          refine va_get (D := D) (ci := 1) (v := .ref a) (C := RX1) (T := TX1) (N := 6) hx hb hts iw_X1_tested hown hK hP 0 rfl rfl 1 (by decide) (hts (.fieldLink RX1 7 "WordMillModel" "memory" "[J") (by decide +kernel)) (fun _ h9 => h9) rfl dX1_tested_196 ?_
          refine lv_iload_n hx hb dX1_tested_199 rfl (lv_at hl 6 rfl) ?_
          refine lv_lload hx hb dX1_tested_200 (lv_at hl 0 rfl) ?_
          refine va_last hx hb hK hP hD hS 1 0 rfl rfl hac dX1_tested_202 (fun H locs hP hD hS => ?_)
          have hP : va_P D vwCl (rW h a cA ((vp_updL f_190 (ac : Int32).toNatClampNeg x_180), u.2.1, u.2.2.1, u.2.2.2.1, u.2.2.2.2.1, u.2.2.2.2.2)) H := hP
          have hD : va_D (wA h a) (rW h a cA ((vp_updL f_190 (ac : Int32).toNatClampNeg x_180), u.2.1, u.2.2.1, u.2.2.2.1, u.2.2.2.2.1, u.2.2.2.2.2)) := hD
          generalize (vp_updL f_190 (ac : Int32).toNatClampNeg x_180) = f_202 at hP hD
          refine lv_iload_n hx hb dX1_tested_203 rfl (lv_at hl 5 rfl) ?_
          refine lv_lload hx hb dX1_tested_204 (lv_at hl 0 rfl) ?_
          refine ps_gol (As := [.long x_180]) (rest := [.int op]) ⟨hx, hb, hml, hown, hts⟩ (kX1_number l x_180) (va_cwS 1 hts gX1_tested_X1_number rfl rfl rfl (by decide +kernel) ⟨by decide, by decide⟩) rfl hl.1 rfl (Nat.le_of_ble_eq_true rfl) dX1_tested_206 ⟨Nat.zero_le _, Nat.zero_le _⟩ (fun r_206 q_206 => ?_)
          refine lv_lconst (v := 0) hx hb dX1_tested_209 (by decide) ?_
          refine ps_goi (As := [.int op, .long r_206, .long 0]) (rest := []) ⟨hx, hb, hml, hown, hts⟩ (kX1_is l op r_206 0) (va_cwS 3 hts gX1_tested_X1_is rfl rfl rfl (by decide +kernel) ⟨by decide, by decide⟩) rfl hl.1 rfl (Nat.le_of_ble_eq_true rfl) dX1_tested_210 ⟨Nat.zero_le _, Nat.zero_le _⟩ (fun r_210 q_210 => ?_)
          refine lv_if_eq (tgt := 221) hx hb dX1_tested_213 (by decide) (fun c_213 => ?_) (fun c_213 => ?_)
          · refine lv_iload hx hb dX1_tested_221 (lv_at hl 9 rfl) ?_
            exact mm_iret (mw := rW h a cA) (u1 := (f_202, u.2.1, u.2.2.1, u.2.2.2.1, u.2.2.2.2.1, u.2.2.2.2.2)) hx hb hr hlocks hP hK hD hS dX1_tested_223 ⟨⟨hI, rfl, rfl⟩, hnx⟩
          · refine lv_iload hx hb dX1_tested_216 (lv_at hl 2 rfl) ?_
            refine lv_goto (tgt := 223) hx hb dX1_tested_218 (by decide) ?_
            exact mm_iret (mw := rW h a cA) (u1 := (f_202, u.2.1, u.2.2.1, u.2.2.2.1, u.2.2.2.2.1, u.2.2.2.2.2)) hx hb hr hlocks hP hK hD hS dX1_tested_223 ⟨⟨hI, rfl, rfl⟩, (by rw [ex_16]; exact vp_and4095 _)⟩
      · refine lv_iconst (v := -1) hx hb dX1_tested_169 (by decide) ?_
        refine lv_goto (tgt := 174) hx hb dX1_tested_170 (by decide) ?_
        refine lv_i2l hx hb dX1_tested_174 rfl ?_
        refine lv_ladd hx hb dX1_tested_175 ?_
        refine lv_ldc2 (v := 68719476735) hx hb hown (hts (.constantLong RX1 27 68719476735) (by decide +kernel)) dX1_tested_176 ?_
        refine lv_land hx hb dX1_tested_179 ?_
        refine lv_topl (fun x_180 ex_180 => ?_)
        refine lv_lstore (lv' := [(12, .long x_180), (11, .int x_24), (10, .int x_16), (8, .long x_6), (0, .ref h), (1, .int op), (2, .int ac), (3, .long e0), (5, .long m0), (7, .int nx)]) hx hb dX1_tested_180 hl (by decide) rfl (fun ls hl => ?_)
        refine lv_aload_n hx hb dX1_tested_182 rfl (lv_at hl 4 rfl) ?_
        refine va_get (D := D) (ci := 1) (v := .ref a) (C := RX1) (T := TX1) (N := 6) hx hb hts iw_X1_tested hown hK hP 0 rfl rfl 1 (by decide) (hts (.fieldLink RX1 7 "WordMillModel" "memory" "[J") (by decide +kernel)) (fun _ h9 => h9) rfl dX1_tested_183 ?_
        refine lv_lload_n hx hb dX1_tested_186 rfl (lv_at hl 7 rfl) ?_
        refine lv_l2i hx hb dX1_tested_187 rfl ?_
        refine lv_lload hx hb dX1_tested_188 (lv_at hl 0 rfl) ?_
        refine va_last hx hb hK hP hD hS 1 0 rfl rfl (pl_in (tst_e hop.1 hop.2 hne (Or.inl ex_32.symm))) dX1_tested_190 (fun H locs hP hD hS => ?_)
        have hP : va_P D vwCl (rW h a cA ((vp_updL u.1 ((e0 : Int64).toInt32 : Int32).toNatClampNeg x_180), u.2.1, u.2.2.1, u.2.2.2.1, u.2.2.2.2.1, u.2.2.2.2.2)) H := hP
        have hD : va_D (wA h a) (rW h a cA ((vp_updL u.1 ((e0 : Int64).toInt32 : Int32).toNatClampNeg x_180), u.2.1, u.2.2.1, u.2.2.2.1, u.2.2.2.2.1, u.2.2.2.2.2)) := hD
        generalize (vp_updL u.1 ((e0 : Int64).toInt32 : Int32).toNatClampNeg x_180) = f_190 at hP hD
        refine lv_iload_n hx hb dX1_tested_191 rfl (lv_at hl 6 rfl) ?_
        refine lv_if_eq (tgt := 203) hx hb dX1_tested_192 (by decide) (fun c_192 => ?_) (fun c_192 => ?_)
        · refine lv_iload_n hx hb dX1_tested_203 rfl (lv_at hl 5 rfl) ?_
          refine lv_lload hx hb dX1_tested_204 (lv_at hl 0 rfl) ?_
          refine ps_gol (As := [.long x_180]) (rest := [.int op]) ⟨hx, hb, hml, hown, hts⟩ (kX1_number l x_180) (va_cwS 1 hts gX1_tested_X1_number rfl rfl rfl (by decide +kernel) ⟨by decide, by decide⟩) rfl hl.1 rfl (Nat.le_of_ble_eq_true rfl) dX1_tested_206 ⟨Nat.zero_le _, Nat.zero_le _⟩ (fun r_206 q_206 => ?_)
          refine lv_lconst (v := 0) hx hb dX1_tested_209 (by decide) ?_
          refine ps_goi (As := [.int op, .long r_206, .long 0]) (rest := []) ⟨hx, hb, hml, hown, hts⟩ (kX1_is l op r_206 0) (va_cwS 3 hts gX1_tested_X1_is rfl rfl rfl (by decide +kernel) ⟨by decide, by decide⟩) rfl hl.1 rfl (Nat.le_of_ble_eq_true rfl) dX1_tested_210 ⟨Nat.zero_le _, Nat.zero_le _⟩ (fun r_210 q_210 => ?_)
          refine lv_if_eq (tgt := 221) hx hb dX1_tested_213 (by decide) (fun c_213 => ?_) (fun c_213 => ?_)
          · refine lv_iload hx hb dX1_tested_221 (lv_at hl 9 rfl) ?_
            exact mm_iret (mw := rW h a cA) (u1 := (f_190, u.2.1, u.2.2.1, u.2.2.2.1, u.2.2.2.2.1, u.2.2.2.2.2)) hx hb hr hlocks hP hK hD hS dX1_tested_223 ⟨⟨hI, rfl, rfl⟩, hnx⟩
          · refine lv_iload hx hb dX1_tested_216 (lv_at hl 2 rfl) ?_
            refine lv_goto (tgt := 223) hx hb dX1_tested_218 (by decide) ?_
            exact mm_iret (mw := rW h a cA) (u1 := (f_190, u.2.1, u.2.2.1, u.2.2.2.1, u.2.2.2.2.1, u.2.2.2.2.2)) hx hb hr hlocks hP hK hD hS dX1_tested_223 ⟨⟨hI, rfl, rfl⟩, (by rw [ex_16]; exact vp_and4095 _)⟩
        · refine lv_aload_n hx hb dX1_tested_195 rfl (lv_at hl 4 rfl) ?_
          refine va_get (D := D) (ci := 1) (v := .ref a) (C := RX1) (T := TX1) (N := 6) hx hb hts iw_X1_tested hown hK hP 0 rfl rfl 1 (by decide) (hts (.fieldLink RX1 7 "WordMillModel" "memory" "[J") (by decide +kernel)) (fun _ h9 => h9) rfl dX1_tested_196 ?_
          refine lv_iload_n hx hb dX1_tested_199 rfl (lv_at hl 6 rfl) ?_
          refine lv_lload hx hb dX1_tested_200 (lv_at hl 0 rfl) ?_
          refine va_last hx hb hK hP hD hS 1 0 rfl rfl hac dX1_tested_202 (fun H locs hP hD hS => ?_)
          have hP : va_P D vwCl (rW h a cA ((vp_updL f_190 (ac : Int32).toNatClampNeg x_180), u.2.1, u.2.2.1, u.2.2.2.1, u.2.2.2.2.1, u.2.2.2.2.2)) H := hP
          have hD : va_D (wA h a) (rW h a cA ((vp_updL f_190 (ac : Int32).toNatClampNeg x_180), u.2.1, u.2.2.1, u.2.2.2.1, u.2.2.2.2.1, u.2.2.2.2.2)) := hD
          generalize (vp_updL f_190 (ac : Int32).toNatClampNeg x_180) = f_202 at hP hD
          refine lv_iload_n hx hb dX1_tested_203 rfl (lv_at hl 5 rfl) ?_
          refine lv_lload hx hb dX1_tested_204 (lv_at hl 0 rfl) ?_
          refine ps_gol (As := [.long x_180]) (rest := [.int op]) ⟨hx, hb, hml, hown, hts⟩ (kX1_number l x_180) (va_cwS 1 hts gX1_tested_X1_number rfl rfl rfl (by decide +kernel) ⟨by decide, by decide⟩) rfl hl.1 rfl (Nat.le_of_ble_eq_true rfl) dX1_tested_206 ⟨Nat.zero_le _, Nat.zero_le _⟩ (fun r_206 q_206 => ?_)
          refine lv_lconst (v := 0) hx hb dX1_tested_209 (by decide) ?_
          refine ps_goi (As := [.int op, .long r_206, .long 0]) (rest := []) ⟨hx, hb, hml, hown, hts⟩ (kX1_is l op r_206 0) (va_cwS 3 hts gX1_tested_X1_is rfl rfl rfl (by decide +kernel) ⟨by decide, by decide⟩) rfl hl.1 rfl (Nat.le_of_ble_eq_true rfl) dX1_tested_210 ⟨Nat.zero_le _, Nat.zero_le _⟩ (fun r_210 q_210 => ?_)
          refine lv_if_eq (tgt := 221) hx hb dX1_tested_213 (by decide) (fun c_213 => ?_) (fun c_213 => ?_)
          · refine lv_iload hx hb dX1_tested_221 (lv_at hl 9 rfl) ?_
            exact mm_iret (mw := rW h a cA) (u1 := (f_202, u.2.1, u.2.2.1, u.2.2.2.1, u.2.2.2.2.1, u.2.2.2.2.2)) hx hb hr hlocks hP hK hD hS dX1_tested_223 ⟨⟨hI, rfl, rfl⟩, hnx⟩
          · refine lv_iload hx hb dX1_tested_216 (lv_at hl 2 rfl) ?_
            refine lv_goto (tgt := 223) hx hb dX1_tested_218 (by decide) ?_
            exact mm_iret (mw := rW h a cA) (u1 := (f_202, u.2.1, u.2.2.1, u.2.2.2.1, u.2.2.2.2.1, u.2.2.2.2.2)) hx hb hr hlocks hP hK hD hS dX1_tested_223 ⟨⟨hI, rfl, rfl⟩, (by rw [ex_16]; exact vp_and4095 _)⟩
    · refine lv_iconst (v := 1) hx hb dX1_tested_157 (by decide) ?_
      refine lv_goto (tgt := 174) hx hb dX1_tested_158 (by decide) ?_
      refine lv_i2l hx hb dX1_tested_174 rfl ?_
      refine lv_ladd hx hb dX1_tested_175 ?_
      refine lv_ldc2 (v := 68719476735) hx hb hown (hts (.constantLong RX1 27 68719476735) (by decide +kernel)) dX1_tested_176 ?_
      refine lv_land hx hb dX1_tested_179 ?_
      refine lv_topl (fun x_180 ex_180 => ?_)
      refine lv_lstore (lv' := [(12, .long x_180), (11, .int x_24), (10, .int x_16), (8, .long x_6), (0, .ref h), (1, .int op), (2, .int ac), (3, .long e0), (5, .long m0), (7, .int nx)]) hx hb dX1_tested_180 hl (by decide) rfl (fun ls hl => ?_)
      refine lv_aload_n hx hb dX1_tested_182 rfl (lv_at hl 4 rfl) ?_
      refine va_get (D := D) (ci := 1) (v := .ref a) (C := RX1) (T := TX1) (N := 6) hx hb hts iw_X1_tested hown hK hP 0 rfl rfl 1 (by decide) (hts (.fieldLink RX1 7 "WordMillModel" "memory" "[J") (by decide +kernel)) (fun _ h9 => h9) rfl dX1_tested_183 ?_
      refine lv_lload_n hx hb dX1_tested_186 rfl (lv_at hl 7 rfl) ?_
      refine lv_l2i hx hb dX1_tested_187 rfl ?_
      refine lv_lload hx hb dX1_tested_188 (lv_at hl 0 rfl) ?_
      refine va_last hx hb hK hP hD hS 1 0 rfl rfl (pl_in (tst_e hop.1 hop.2 hne (Or.inl ex_32.symm))) dX1_tested_190 (fun H locs hP hD hS => ?_)
      have hP : va_P D vwCl (rW h a cA ((vp_updL u.1 ((e0 : Int64).toInt32 : Int32).toNatClampNeg x_180), u.2.1, u.2.2.1, u.2.2.2.1, u.2.2.2.2.1, u.2.2.2.2.2)) H := hP
      have hD : va_D (wA h a) (rW h a cA ((vp_updL u.1 ((e0 : Int64).toInt32 : Int32).toNatClampNeg x_180), u.2.1, u.2.2.1, u.2.2.2.1, u.2.2.2.2.1, u.2.2.2.2.2)) := hD
      generalize (vp_updL u.1 ((e0 : Int64).toInt32 : Int32).toNatClampNeg x_180) = f_190 at hP hD
      refine lv_iload_n hx hb dX1_tested_191 rfl (lv_at hl 6 rfl) ?_
      refine lv_if_eq (tgt := 203) hx hb dX1_tested_192 (by decide) (fun c_192 => ?_) (fun c_192 => ?_)
      · refine lv_iload_n hx hb dX1_tested_203 rfl (lv_at hl 5 rfl) ?_
        refine lv_lload hx hb dX1_tested_204 (lv_at hl 0 rfl) ?_
        refine ps_gol (As := [.long x_180]) (rest := [.int op]) ⟨hx, hb, hml, hown, hts⟩ (kX1_number l x_180) (va_cwS 1 hts gX1_tested_X1_number rfl rfl rfl (by decide +kernel) ⟨by decide, by decide⟩) rfl hl.1 rfl (Nat.le_of_ble_eq_true rfl) dX1_tested_206 ⟨Nat.zero_le _, Nat.zero_le _⟩ (fun r_206 q_206 => ?_)
        refine lv_lconst (v := 0) hx hb dX1_tested_209 (by decide) ?_
        refine ps_goi (As := [.int op, .long r_206, .long 0]) (rest := []) ⟨hx, hb, hml, hown, hts⟩ (kX1_is l op r_206 0) (va_cwS 3 hts gX1_tested_X1_is rfl rfl rfl (by decide +kernel) ⟨by decide, by decide⟩) rfl hl.1 rfl (Nat.le_of_ble_eq_true rfl) dX1_tested_210 ⟨Nat.zero_le _, Nat.zero_le _⟩ (fun r_210 q_210 => ?_)
        refine lv_if_eq (tgt := 221) hx hb dX1_tested_213 (by decide) (fun c_213 => ?_) (fun c_213 => ?_)
        · refine lv_iload hx hb dX1_tested_221 (lv_at hl 9 rfl) ?_
          exact mm_iret (mw := rW h a cA) (u1 := (f_190, u.2.1, u.2.2.1, u.2.2.2.1, u.2.2.2.2.1, u.2.2.2.2.2)) hx hb hr hlocks hP hK hD hS dX1_tested_223 ⟨⟨hI, rfl, rfl⟩, hnx⟩
        · refine lv_iload hx hb dX1_tested_216 (lv_at hl 2 rfl) ?_
          refine lv_goto (tgt := 223) hx hb dX1_tested_218 (by decide) ?_
          exact mm_iret (mw := rW h a cA) (u1 := (f_190, u.2.1, u.2.2.1, u.2.2.2.1, u.2.2.2.2.1, u.2.2.2.2.2)) hx hb hr hlocks hP hK hD hS dX1_tested_223 ⟨⟨hI, rfl, rfl⟩, (by rw [ex_16]; exact vp_and4095 _)⟩
      · refine lv_aload_n hx hb dX1_tested_195 rfl (lv_at hl 4 rfl) ?_
        refine va_get (D := D) (ci := 1) (v := .ref a) (C := RX1) (T := TX1) (N := 6) hx hb hts iw_X1_tested hown hK hP 0 rfl rfl 1 (by decide) (hts (.fieldLink RX1 7 "WordMillModel" "memory" "[J") (by decide +kernel)) (fun _ h9 => h9) rfl dX1_tested_196 ?_
        refine lv_iload_n hx hb dX1_tested_199 rfl (lv_at hl 6 rfl) ?_
        refine lv_lload hx hb dX1_tested_200 (lv_at hl 0 rfl) ?_
        refine va_last hx hb hK hP hD hS 1 0 rfl rfl hac dX1_tested_202 (fun H locs hP hD hS => ?_)
        have hP : va_P D vwCl (rW h a cA ((vp_updL f_190 (ac : Int32).toNatClampNeg x_180), u.2.1, u.2.2.1, u.2.2.2.1, u.2.2.2.2.1, u.2.2.2.2.2)) H := hP
        have hD : va_D (wA h a) (rW h a cA ((vp_updL f_190 (ac : Int32).toNatClampNeg x_180), u.2.1, u.2.2.1, u.2.2.2.1, u.2.2.2.2.1, u.2.2.2.2.2)) := hD
        generalize (vp_updL f_190 (ac : Int32).toNatClampNeg x_180) = f_202 at hP hD
        refine lv_iload_n hx hb dX1_tested_203 rfl (lv_at hl 5 rfl) ?_
        refine lv_lload hx hb dX1_tested_204 (lv_at hl 0 rfl) ?_
        refine ps_gol (As := [.long x_180]) (rest := [.int op]) ⟨hx, hb, hml, hown, hts⟩ (kX1_number l x_180) (va_cwS 1 hts gX1_tested_X1_number rfl rfl rfl (by decide +kernel) ⟨by decide, by decide⟩) rfl hl.1 rfl (Nat.le_of_ble_eq_true rfl) dX1_tested_206 ⟨Nat.zero_le _, Nat.zero_le _⟩ (fun r_206 q_206 => ?_)
        refine lv_lconst (v := 0) hx hb dX1_tested_209 (by decide) ?_
        refine ps_goi (As := [.int op, .long r_206, .long 0]) (rest := []) ⟨hx, hb, hml, hown, hts⟩ (kX1_is l op r_206 0) (va_cwS 3 hts gX1_tested_X1_is rfl rfl rfl (by decide +kernel) ⟨by decide, by decide⟩) rfl hl.1 rfl (Nat.le_of_ble_eq_true rfl) dX1_tested_210 ⟨Nat.zero_le _, Nat.zero_le _⟩ (fun r_210 q_210 => ?_)
        refine lv_if_eq (tgt := 221) hx hb dX1_tested_213 (by decide) (fun c_213 => ?_) (fun c_213 => ?_)
        · refine lv_iload hx hb dX1_tested_221 (lv_at hl 9 rfl) ?_
          exact mm_iret (mw := rW h a cA) (u1 := (f_202, u.2.1, u.2.2.1, u.2.2.2.1, u.2.2.2.2.1, u.2.2.2.2.2)) hx hb hr hlocks hP hK hD hS dX1_tested_223 ⟨⟨hI, rfl, rfl⟩, hnx⟩
        · refine lv_iload hx hb dX1_tested_216 (lv_at hl 2 rfl) ?_
          refine lv_goto (tgt := 223) hx hb dX1_tested_218 (by decide) ?_
          exact mm_iret (mw := rW h a cA) (u1 := (f_202, u.2.1, u.2.2.1, u.2.2.2.1, u.2.2.2.2.1, u.2.2.2.2.2)) hx hb hr hlocks hP hK hD hS dX1_tested_223 ⟨⟨hI, rfl, rfl⟩, (by rw [ex_16]; exact vp_and4095 _)⟩
  by_cases k_4 : x_32 = 4
  · subst k_4
    refine lv_tableIn (tgt := 224) hx hb dX1_tested_32 (by decide) (by decide) rfl (by decide) ?_
    refine lv_lload hx hb dX1_tested_224 (lv_at hl 2 rfl) ?_
    refine lv_iload_n hx hb dX1_tested_226 rfl (lv_at hl 4 rfl) ?_
    refine lv_iconst (v := 3) hx hb dX1_tested_227 (by decide) ?_
    refine lv_ishr hx hb dX1_tested_228 ?_
    refine lv_bipush (v := 28) hx hb dX1_tested_229 (by decide) ?_
    refine lv_icmp_ne (tgt := 238) hx hb dX1_tested_231 (by decide) (fun c_231 => ?_) (fun c_231 => ?_)
    · refine lv_iconst (v := -1) hx hb dX1_tested_238 (by decide) ?_
      refine lv_i2l hx hb dX1_tested_239 rfl ?_
      refine lv_ladd hx hb dX1_tested_240 ?_
      refine lv_ldc2 (v := 68719476735) hx hb hown (hts (.constantLong RX1 27 68719476735) (by decide +kernel)) dX1_tested_241 ?_
      refine lv_land hx hb dX1_tested_244 ?_
      refine lv_topl (fun x_245 ex_245 => ?_)
      refine lv_lstore (lv' := [(12, .long x_245), (11, .int x_24), (10, .int x_16), (8, .long x_6), (0, .ref h), (1, .int op), (2, .int ac), (3, .long e0), (5, .long m0), (7, .int nx)]) hx hb dX1_tested_245 hl (by decide) rfl (fun ls hl => ?_)
      refine lv_aload_n hx hb dX1_tested_247 rfl (lv_at hl 4 rfl) ?_
      refine va_get (D := D) (ci := 1) (v := .ref a) (C := RX1) (T := TX1) (N := 6) hx hb hts iw_X1_tested hown hK hP 0 rfl rfl 1 (by decide) (hts (.fieldLink RX1 7 "WordMillModel" "memory" "[J") (by decide +kernel)) (fun _ h9 => h9) rfl dX1_tested_248 ?_
      refine lv_iload_n hx hb dX1_tested_251 rfl (lv_at hl 6 rfl) ?_
      refine lv_lload hx hb dX1_tested_252 (lv_at hl 0 rfl) ?_
      refine va_last hx hb hK hP hD hS 1 0 rfl rfl hac dX1_tested_254 (fun H locs hP hD hS => ?_)
      have hP : va_P D vwCl (rW h a cA ((vp_updL u.1 (ac : Int32).toNatClampNeg x_245), u.2.1, u.2.2.1, u.2.2.2.1, u.2.2.2.2.1, u.2.2.2.2.2)) H := hP
      have hD : va_D (wA h a) (rW h a cA ((vp_updL u.1 (ac : Int32).toNatClampNeg x_245), u.2.1, u.2.2.1, u.2.2.2.1, u.2.2.2.2.1, u.2.2.2.2.2)) := hD
      generalize (vp_updL u.1 (ac : Int32).toNatClampNeg x_245) = f_254 at hP hD
      refine lv_iload_n hx hb dX1_tested_255 rfl (lv_at hl 5 rfl) ?_
      refine lv_lload hx hb dX1_tested_256 (lv_at hl 0 rfl) ?_
      refine ps_gol (As := [.long x_245]) (rest := [.int op]) ⟨hx, hb, hml, hown, hts⟩ (kX1_number l x_245) (va_cwS 1 hts gX1_tested_X1_number rfl rfl rfl (by decide +kernel) ⟨by decide, by decide⟩) rfl hl.1 rfl (Nat.le_of_ble_eq_true rfl) dX1_tested_258 ⟨Nat.zero_le _, Nat.zero_le _⟩ (fun r_258 q_258 => ?_)
      refine lv_lconst (v := 0) hx hb dX1_tested_261 (by decide) ?_
      refine ps_goi (As := [.int op, .long r_258, .long 0]) (rest := []) ⟨hx, hb, hml, hown, hts⟩ (kX1_is l op r_258 0) (va_cwS 3 hts gX1_tested_X1_is rfl rfl rfl (by decide +kernel) ⟨by decide, by decide⟩) rfl hl.1 rfl (Nat.le_of_ble_eq_true rfl) dX1_tested_262 ⟨Nat.zero_le _, Nat.zero_le _⟩ (fun r_262 q_262 => ?_)
      refine lv_if_eq (tgt := 273) hx hb dX1_tested_265 (by decide) (fun c_265 => ?_) (fun c_265 => ?_)
      · refine lv_iload hx hb dX1_tested_273 (lv_at hl 9 rfl) ?_
        exact mm_iret (mw := rW h a cA) (u1 := (f_254, u.2.1, u.2.2.1, u.2.2.2.1, u.2.2.2.2.1, u.2.2.2.2.2)) hx hb hr hlocks hP hK hD hS dX1_tested_275 ⟨⟨hI, rfl, rfl⟩, hnx⟩
      · refine lv_iload hx hb dX1_tested_268 (lv_at hl 1 rfl) ?_
        refine lv_goto (tgt := 275) hx hb dX1_tested_270 (by decide) ?_
        exact mm_iret (mw := rW h a cA) (u1 := (f_254, u.2.1, u.2.2.1, u.2.2.2.1, u.2.2.2.2.1, u.2.2.2.2.2)) hx hb hr hlocks hP hK hD hS dX1_tested_275 ⟨⟨hI, rfl, rfl⟩, (by rw [ex_24]; exact la4095 _)⟩
    · refine lv_iconst (v := 1) hx hb dX1_tested_234 (by decide) ?_
      refine lv_goto (tgt := 239) hx hb dX1_tested_235 (by decide) ?_
      refine lv_i2l hx hb dX1_tested_239 rfl ?_
      refine lv_ladd hx hb dX1_tested_240 ?_
      refine lv_ldc2 (v := 68719476735) hx hb hown (hts (.constantLong RX1 27 68719476735) (by decide +kernel)) dX1_tested_241 ?_
      refine lv_land hx hb dX1_tested_244 ?_
      refine lv_topl (fun x_245 ex_245 => ?_)
      refine lv_lstore (lv' := [(12, .long x_245), (11, .int x_24), (10, .int x_16), (8, .long x_6), (0, .ref h), (1, .int op), (2, .int ac), (3, .long e0), (5, .long m0), (7, .int nx)]) hx hb dX1_tested_245 hl (by decide) rfl (fun ls hl => ?_)
      refine lv_aload_n hx hb dX1_tested_247 rfl (lv_at hl 4 rfl) ?_
      refine va_get (D := D) (ci := 1) (v := .ref a) (C := RX1) (T := TX1) (N := 6) hx hb hts iw_X1_tested hown hK hP 0 rfl rfl 1 (by decide) (hts (.fieldLink RX1 7 "WordMillModel" "memory" "[J") (by decide +kernel)) (fun _ h9 => h9) rfl dX1_tested_248 ?_
      refine lv_iload_n hx hb dX1_tested_251 rfl (lv_at hl 6 rfl) ?_
      refine lv_lload hx hb dX1_tested_252 (lv_at hl 0 rfl) ?_
      refine va_last hx hb hK hP hD hS 1 0 rfl rfl hac dX1_tested_254 (fun H locs hP hD hS => ?_)
      have hP : va_P D vwCl (rW h a cA ((vp_updL u.1 (ac : Int32).toNatClampNeg x_245), u.2.1, u.2.2.1, u.2.2.2.1, u.2.2.2.2.1, u.2.2.2.2.2)) H := hP
      have hD : va_D (wA h a) (rW h a cA ((vp_updL u.1 (ac : Int32).toNatClampNeg x_245), u.2.1, u.2.2.1, u.2.2.2.1, u.2.2.2.2.1, u.2.2.2.2.2)) := hD
      generalize (vp_updL u.1 (ac : Int32).toNatClampNeg x_245) = f_254 at hP hD
      refine lv_iload_n hx hb dX1_tested_255 rfl (lv_at hl 5 rfl) ?_
      refine lv_lload hx hb dX1_tested_256 (lv_at hl 0 rfl) ?_
      refine ps_gol (As := [.long x_245]) (rest := [.int op]) ⟨hx, hb, hml, hown, hts⟩ (kX1_number l x_245) (va_cwS 1 hts gX1_tested_X1_number rfl rfl rfl (by decide +kernel) ⟨by decide, by decide⟩) rfl hl.1 rfl (Nat.le_of_ble_eq_true rfl) dX1_tested_258 ⟨Nat.zero_le _, Nat.zero_le _⟩ (fun r_258 q_258 => ?_)
      refine lv_lconst (v := 0) hx hb dX1_tested_261 (by decide) ?_
      refine ps_goi (As := [.int op, .long r_258, .long 0]) (rest := []) ⟨hx, hb, hml, hown, hts⟩ (kX1_is l op r_258 0) (va_cwS 3 hts gX1_tested_X1_is rfl rfl rfl (by decide +kernel) ⟨by decide, by decide⟩) rfl hl.1 rfl (Nat.le_of_ble_eq_true rfl) dX1_tested_262 ⟨Nat.zero_le _, Nat.zero_le _⟩ (fun r_262 q_262 => ?_)
      refine lv_if_eq (tgt := 273) hx hb dX1_tested_265 (by decide) (fun c_265 => ?_) (fun c_265 => ?_)
      · refine lv_iload hx hb dX1_tested_273 (lv_at hl 9 rfl) ?_
        exact mm_iret (mw := rW h a cA) (u1 := (f_254, u.2.1, u.2.2.1, u.2.2.2.1, u.2.2.2.2.1, u.2.2.2.2.2)) hx hb hr hlocks hP hK hD hS dX1_tested_275 ⟨⟨hI, rfl, rfl⟩, hnx⟩
      · refine lv_iload hx hb dX1_tested_268 (lv_at hl 1 rfl) ?_
        refine lv_goto (tgt := 275) hx hb dX1_tested_270 (by decide) ?_
        exact mm_iret (mw := rW h a cA) (u1 := (f_254, u.2.1, u.2.2.1, u.2.2.2.1, u.2.2.2.2.1, u.2.2.2.2.2)) hx hb hr hlocks hP hK hD hS dX1_tested_275 ⟨⟨hI, rfl, rfl⟩, (by rw [ex_24]; exact la4095 _)⟩
  by_cases k_5 : x_32 = 5
  · subst k_5
    refine lv_tableIn (tgt := 147) hx hb dX1_tested_32 (by decide) (by decide) rfl (by decide) ?_
    refine lv_lload hx hb dX1_tested_147 (lv_at hl 7 rfl) ?_
    refine lv_iload_n hx hb dX1_tested_149 rfl (lv_at hl 4 rfl) ?_
    refine lv_iconst (v := 3) hx hb dX1_tested_150 (by decide) ?_
    refine lv_ishr hx hb dX1_tested_151 ?_
    refine lv_bipush (v := 29) hx hb dX1_tested_152 (by decide) ?_
    refine lv_icmp_ne (tgt := 161) hx hb dX1_tested_154 (by decide) (fun c_154 => ?_) (fun c_154 => ?_)
    · refine lv_iload_n hx hb dX1_tested_161 rfl (lv_at hl 4 rfl) ?_
      refine lv_iconst (v := 3) hx hb dX1_tested_162 (by decide) ?_
      refine lv_ishr hx hb dX1_tested_163 ?_
      refine lv_bipush (v := 31) hx hb dX1_tested_164 (by decide) ?_
      refine lv_icmp_ne (tgt := 173) hx hb dX1_tested_166 (by decide) (fun c_166 => ?_) (fun c_166 => ?_)
      · refine lv_iconst (v := 0) hx hb dX1_tested_173 (by decide) ?_
        refine lv_i2l hx hb dX1_tested_174 rfl ?_
        refine lv_ladd hx hb dX1_tested_175 ?_
        refine lv_ldc2 (v := 68719476735) hx hb hown (hts (.constantLong RX1 27 68719476735) (by decide +kernel)) dX1_tested_176 ?_
        refine lv_land hx hb dX1_tested_179 ?_
        refine lv_topl (fun x_180 ex_180 => ?_)
        refine lv_lstore (lv' := [(12, .long x_180), (11, .int x_24), (10, .int x_16), (8, .long x_6), (0, .ref h), (1, .int op), (2, .int ac), (3, .long e0), (5, .long m0), (7, .int nx)]) hx hb dX1_tested_180 hl (by decide) rfl (fun ls hl => ?_)
        refine lv_aload_n hx hb dX1_tested_182 rfl (lv_at hl 4 rfl) ?_
        refine va_get (D := D) (ci := 1) (v := .ref a) (C := RX1) (T := TX1) (N := 6) hx hb hts iw_X1_tested hown hK hP 0 rfl rfl 1 (by decide) (hts (.fieldLink RX1 7 "WordMillModel" "memory" "[J") (by decide +kernel)) (fun _ h9 => h9) rfl dX1_tested_183 ?_
        refine lv_lload_n hx hb dX1_tested_186 rfl (lv_at hl 7 rfl) ?_
        refine lv_l2i hx hb dX1_tested_187 rfl ?_
        refine lv_lload hx hb dX1_tested_188 (lv_at hl 0 rfl) ?_
        refine va_last hx hb hK hP hD hS 1 0 rfl rfl (pl_in (tst_e hop.1 hop.2 hne (Or.inr (Or.inl ex_32.symm)))) dX1_tested_190 (fun H locs hP hD hS => ?_)
        have hP : va_P D vwCl (rW h a cA ((vp_updL u.1 ((e0 : Int64).toInt32 : Int32).toNatClampNeg x_180), u.2.1, u.2.2.1, u.2.2.2.1, u.2.2.2.2.1, u.2.2.2.2.2)) H := hP
        have hD : va_D (wA h a) (rW h a cA ((vp_updL u.1 ((e0 : Int64).toInt32 : Int32).toNatClampNeg x_180), u.2.1, u.2.2.1, u.2.2.2.1, u.2.2.2.2.1, u.2.2.2.2.2)) := hD
        generalize (vp_updL u.1 ((e0 : Int64).toInt32 : Int32).toNatClampNeg x_180) = f_190 at hP hD
        refine lv_iload_n hx hb dX1_tested_191 rfl (lv_at hl 6 rfl) ?_
        refine lv_if_eq (tgt := 203) hx hb dX1_tested_192 (by decide) (fun c_192 => ?_) (fun c_192 => ?_)
        · refine lv_iload_n hx hb dX1_tested_203 rfl (lv_at hl 5 rfl) ?_
          refine lv_lload hx hb dX1_tested_204 (lv_at hl 0 rfl) ?_
          refine ps_gol (As := [.long x_180]) (rest := [.int op]) ⟨hx, hb, hml, hown, hts⟩ (kX1_number l x_180) (va_cwS 1 hts gX1_tested_X1_number rfl rfl rfl (by decide +kernel) ⟨by decide, by decide⟩) rfl hl.1 rfl (Nat.le_of_ble_eq_true rfl) dX1_tested_206 ⟨Nat.zero_le _, Nat.zero_le _⟩ (fun r_206 q_206 => ?_)
          refine lv_lconst (v := 0) hx hb dX1_tested_209 (by decide) ?_
          refine ps_goi (As := [.int op, .long r_206, .long 0]) (rest := []) ⟨hx, hb, hml, hown, hts⟩ (kX1_is l op r_206 0) (va_cwS 3 hts gX1_tested_X1_is rfl rfl rfl (by decide +kernel) ⟨by decide, by decide⟩) rfl hl.1 rfl (Nat.le_of_ble_eq_true rfl) dX1_tested_210 ⟨Nat.zero_le _, Nat.zero_le _⟩ (fun r_210 q_210 => ?_)
          refine lv_if_eq (tgt := 221) hx hb dX1_tested_213 (by decide) (fun c_213 => ?_) (fun c_213 => ?_)
          · refine lv_iload hx hb dX1_tested_221 (lv_at hl 9 rfl) ?_
            exact mm_iret (mw := rW h a cA) (u1 := (f_190, u.2.1, u.2.2.1, u.2.2.2.1, u.2.2.2.2.1, u.2.2.2.2.2)) hx hb hr hlocks hP hK hD hS dX1_tested_223 ⟨⟨hI, rfl, rfl⟩, hnx⟩
          · refine lv_iload hx hb dX1_tested_216 (lv_at hl 2 rfl) ?_
            refine lv_goto (tgt := 223) hx hb dX1_tested_218 (by decide) ?_
            exact mm_iret (mw := rW h a cA) (u1 := (f_190, u.2.1, u.2.2.1, u.2.2.2.1, u.2.2.2.2.1, u.2.2.2.2.2)) hx hb hr hlocks hP hK hD hS dX1_tested_223 ⟨⟨hI, rfl, rfl⟩, (by rw [ex_16]; exact vp_and4095 _)⟩
        · refine lv_aload_n hx hb dX1_tested_195 rfl (lv_at hl 4 rfl) ?_
          refine va_get (D := D) (ci := 1) (v := .ref a) (C := RX1) (T := TX1) (N := 6) hx hb hts iw_X1_tested hown hK hP 0 rfl rfl 1 (by decide) (hts (.fieldLink RX1 7 "WordMillModel" "memory" "[J") (by decide +kernel)) (fun _ h9 => h9) rfl dX1_tested_196 ?_
          refine lv_iload_n hx hb dX1_tested_199 rfl (lv_at hl 6 rfl) ?_
          refine lv_lload hx hb dX1_tested_200 (lv_at hl 0 rfl) ?_
          refine va_last hx hb hK hP hD hS 1 0 rfl rfl hac dX1_tested_202 (fun H locs hP hD hS => ?_)
          have hP : va_P D vwCl (rW h a cA ((vp_updL f_190 (ac : Int32).toNatClampNeg x_180), u.2.1, u.2.2.1, u.2.2.2.1, u.2.2.2.2.1, u.2.2.2.2.2)) H := hP
          have hD : va_D (wA h a) (rW h a cA ((vp_updL f_190 (ac : Int32).toNatClampNeg x_180), u.2.1, u.2.2.1, u.2.2.2.1, u.2.2.2.2.1, u.2.2.2.2.2)) := hD
          generalize (vp_updL f_190 (ac : Int32).toNatClampNeg x_180) = f_202 at hP hD
          refine lv_iload_n hx hb dX1_tested_203 rfl (lv_at hl 5 rfl) ?_
          refine lv_lload hx hb dX1_tested_204 (lv_at hl 0 rfl) ?_
          refine ps_gol (As := [.long x_180]) (rest := [.int op]) ⟨hx, hb, hml, hown, hts⟩ (kX1_number l x_180) (va_cwS 1 hts gX1_tested_X1_number rfl rfl rfl (by decide +kernel) ⟨by decide, by decide⟩) rfl hl.1 rfl (Nat.le_of_ble_eq_true rfl) dX1_tested_206 ⟨Nat.zero_le _, Nat.zero_le _⟩ (fun r_206 q_206 => ?_)
          refine lv_lconst (v := 0) hx hb dX1_tested_209 (by decide) ?_
          refine ps_goi (As := [.int op, .long r_206, .long 0]) (rest := []) ⟨hx, hb, hml, hown, hts⟩ (kX1_is l op r_206 0) (va_cwS 3 hts gX1_tested_X1_is rfl rfl rfl (by decide +kernel) ⟨by decide, by decide⟩) rfl hl.1 rfl (Nat.le_of_ble_eq_true rfl) dX1_tested_210 ⟨Nat.zero_le _, Nat.zero_le _⟩ (fun r_210 q_210 => ?_)
          refine lv_if_eq (tgt := 221) hx hb dX1_tested_213 (by decide) (fun c_213 => ?_) (fun c_213 => ?_)
          · refine lv_iload hx hb dX1_tested_221 (lv_at hl 9 rfl) ?_
            exact mm_iret (mw := rW h a cA) (u1 := (f_202, u.2.1, u.2.2.1, u.2.2.2.1, u.2.2.2.2.1, u.2.2.2.2.2)) hx hb hr hlocks hP hK hD hS dX1_tested_223 ⟨⟨hI, rfl, rfl⟩, hnx⟩
          · refine lv_iload hx hb dX1_tested_216 (lv_at hl 2 rfl) ?_
            refine lv_goto (tgt := 223) hx hb dX1_tested_218 (by decide) ?_
            exact mm_iret (mw := rW h a cA) (u1 := (f_202, u.2.1, u.2.2.1, u.2.2.2.1, u.2.2.2.2.1, u.2.2.2.2.2)) hx hb hr hlocks hP hK hD hS dX1_tested_223 ⟨⟨hI, rfl, rfl⟩, (by rw [ex_16]; exact vp_and4095 _)⟩
      · refine lv_iconst (v := -1) hx hb dX1_tested_169 (by decide) ?_
        refine lv_goto (tgt := 174) hx hb dX1_tested_170 (by decide) ?_
        refine lv_i2l hx hb dX1_tested_174 rfl ?_
        refine lv_ladd hx hb dX1_tested_175 ?_
        refine lv_ldc2 (v := 68719476735) hx hb hown (hts (.constantLong RX1 27 68719476735) (by decide +kernel)) dX1_tested_176 ?_
        refine lv_land hx hb dX1_tested_179 ?_
        refine lv_topl (fun x_180 ex_180 => ?_)
        refine lv_lstore (lv' := [(12, .long x_180), (11, .int x_24), (10, .int x_16), (8, .long x_6), (0, .ref h), (1, .int op), (2, .int ac), (3, .long e0), (5, .long m0), (7, .int nx)]) hx hb dX1_tested_180 hl (by decide) rfl (fun ls hl => ?_)
        refine lv_aload_n hx hb dX1_tested_182 rfl (lv_at hl 4 rfl) ?_
        refine va_get (D := D) (ci := 1) (v := .ref a) (C := RX1) (T := TX1) (N := 6) hx hb hts iw_X1_tested hown hK hP 0 rfl rfl 1 (by decide) (hts (.fieldLink RX1 7 "WordMillModel" "memory" "[J") (by decide +kernel)) (fun _ h9 => h9) rfl dX1_tested_183 ?_
        refine lv_lload_n hx hb dX1_tested_186 rfl (lv_at hl 7 rfl) ?_
        refine lv_l2i hx hb dX1_tested_187 rfl ?_
        refine lv_lload hx hb dX1_tested_188 (lv_at hl 0 rfl) ?_
        refine va_last hx hb hK hP hD hS 1 0 rfl rfl (pl_in (tst_e hop.1 hop.2 hne (Or.inr (Or.inl ex_32.symm)))) dX1_tested_190 (fun H locs hP hD hS => ?_)
        have hP : va_P D vwCl (rW h a cA ((vp_updL u.1 ((e0 : Int64).toInt32 : Int32).toNatClampNeg x_180), u.2.1, u.2.2.1, u.2.2.2.1, u.2.2.2.2.1, u.2.2.2.2.2)) H := hP
        have hD : va_D (wA h a) (rW h a cA ((vp_updL u.1 ((e0 : Int64).toInt32 : Int32).toNatClampNeg x_180), u.2.1, u.2.2.1, u.2.2.2.1, u.2.2.2.2.1, u.2.2.2.2.2)) := hD
        generalize (vp_updL u.1 ((e0 : Int64).toInt32 : Int32).toNatClampNeg x_180) = f_190 at hP hD
        refine lv_iload_n hx hb dX1_tested_191 rfl (lv_at hl 6 rfl) ?_
        refine lv_if_eq (tgt := 203) hx hb dX1_tested_192 (by decide) (fun c_192 => ?_) (fun c_192 => ?_)
        · refine lv_iload_n hx hb dX1_tested_203 rfl (lv_at hl 5 rfl) ?_
          refine lv_lload hx hb dX1_tested_204 (lv_at hl 0 rfl) ?_
          refine ps_gol (As := [.long x_180]) (rest := [.int op]) ⟨hx, hb, hml, hown, hts⟩ (kX1_number l x_180) (va_cwS 1 hts gX1_tested_X1_number rfl rfl rfl (by decide +kernel) ⟨by decide, by decide⟩) rfl hl.1 rfl (Nat.le_of_ble_eq_true rfl) dX1_tested_206 ⟨Nat.zero_le _, Nat.zero_le _⟩ (fun r_206 q_206 => ?_)
          refine lv_lconst (v := 0) hx hb dX1_tested_209 (by decide) ?_
          refine ps_goi (As := [.int op, .long r_206, .long 0]) (rest := []) ⟨hx, hb, hml, hown, hts⟩ (kX1_is l op r_206 0) (va_cwS 3 hts gX1_tested_X1_is rfl rfl rfl (by decide +kernel) ⟨by decide, by decide⟩) rfl hl.1 rfl (Nat.le_of_ble_eq_true rfl) dX1_tested_210 ⟨Nat.zero_le _, Nat.zero_le _⟩ (fun r_210 q_210 => ?_)
          refine lv_if_eq (tgt := 221) hx hb dX1_tested_213 (by decide) (fun c_213 => ?_) (fun c_213 => ?_)
          · refine lv_iload hx hb dX1_tested_221 (lv_at hl 9 rfl) ?_
            exact mm_iret (mw := rW h a cA) (u1 := (f_190, u.2.1, u.2.2.1, u.2.2.2.1, u.2.2.2.2.1, u.2.2.2.2.2)) hx hb hr hlocks hP hK hD hS dX1_tested_223 ⟨⟨hI, rfl, rfl⟩, hnx⟩
          · refine lv_iload hx hb dX1_tested_216 (lv_at hl 2 rfl) ?_
            refine lv_goto (tgt := 223) hx hb dX1_tested_218 (by decide) ?_
            exact mm_iret (mw := rW h a cA) (u1 := (f_190, u.2.1, u.2.2.1, u.2.2.2.1, u.2.2.2.2.1, u.2.2.2.2.2)) hx hb hr hlocks hP hK hD hS dX1_tested_223 ⟨⟨hI, rfl, rfl⟩, (by rw [ex_16]; exact vp_and4095 _)⟩
        · refine lv_aload_n hx hb dX1_tested_195 rfl (lv_at hl 4 rfl) ?_
          refine va_get (D := D) (ci := 1) (v := .ref a) (C := RX1) (T := TX1) (N := 6) hx hb hts iw_X1_tested hown hK hP 0 rfl rfl 1 (by decide) (hts (.fieldLink RX1 7 "WordMillModel" "memory" "[J") (by decide +kernel)) (fun _ h9 => h9) rfl dX1_tested_196 ?_
          refine lv_iload_n hx hb dX1_tested_199 rfl (lv_at hl 6 rfl) ?_
          refine lv_lload hx hb dX1_tested_200 (lv_at hl 0 rfl) ?_
          refine va_last hx hb hK hP hD hS 1 0 rfl rfl hac dX1_tested_202 (fun H locs hP hD hS => ?_)
          have hP : va_P D vwCl (rW h a cA ((vp_updL f_190 (ac : Int32).toNatClampNeg x_180), u.2.1, u.2.2.1, u.2.2.2.1, u.2.2.2.2.1, u.2.2.2.2.2)) H := hP
          have hD : va_D (wA h a) (rW h a cA ((vp_updL f_190 (ac : Int32).toNatClampNeg x_180), u.2.1, u.2.2.1, u.2.2.2.1, u.2.2.2.2.1, u.2.2.2.2.2)) := hD
          generalize (vp_updL f_190 (ac : Int32).toNatClampNeg x_180) = f_202 at hP hD
          refine lv_iload_n hx hb dX1_tested_203 rfl (lv_at hl 5 rfl) ?_
          refine lv_lload hx hb dX1_tested_204 (lv_at hl 0 rfl) ?_
          refine ps_gol (As := [.long x_180]) (rest := [.int op]) ⟨hx, hb, hml, hown, hts⟩ (kX1_number l x_180) (va_cwS 1 hts gX1_tested_X1_number rfl rfl rfl (by decide +kernel) ⟨by decide, by decide⟩) rfl hl.1 rfl (Nat.le_of_ble_eq_true rfl) dX1_tested_206 ⟨Nat.zero_le _, Nat.zero_le _⟩ (fun r_206 q_206 => ?_)
          refine lv_lconst (v := 0) hx hb dX1_tested_209 (by decide) ?_
          refine ps_goi (As := [.int op, .long r_206, .long 0]) (rest := []) ⟨hx, hb, hml, hown, hts⟩ (kX1_is l op r_206 0) (va_cwS 3 hts gX1_tested_X1_is rfl rfl rfl (by decide +kernel) ⟨by decide, by decide⟩) rfl hl.1 rfl (Nat.le_of_ble_eq_true rfl) dX1_tested_210 ⟨Nat.zero_le _, Nat.zero_le _⟩ (fun r_210 q_210 => ?_)
          refine lv_if_eq (tgt := 221) hx hb dX1_tested_213 (by decide) (fun c_213 => ?_) (fun c_213 => ?_)
          · refine lv_iload hx hb dX1_tested_221 (lv_at hl 9 rfl) ?_
            exact mm_iret (mw := rW h a cA) (u1 := (f_202, u.2.1, u.2.2.1, u.2.2.2.1, u.2.2.2.2.1, u.2.2.2.2.2)) hx hb hr hlocks hP hK hD hS dX1_tested_223 ⟨⟨hI, rfl, rfl⟩, hnx⟩
          · refine lv_iload hx hb dX1_tested_216 (lv_at hl 2 rfl) ?_
            refine lv_goto (tgt := 223) hx hb dX1_tested_218 (by decide) ?_
            exact mm_iret (mw := rW h a cA) (u1 := (f_202, u.2.1, u.2.2.1, u.2.2.2.1, u.2.2.2.2.1, u.2.2.2.2.2)) hx hb hr hlocks hP hK hD hS dX1_tested_223 ⟨⟨hI, rfl, rfl⟩, (by rw [ex_16]; exact vp_and4095 _)⟩
    · refine lv_iconst (v := 1) hx hb dX1_tested_157 (by decide) ?_
      refine lv_goto (tgt := 174) hx hb dX1_tested_158 (by decide) ?_
      refine lv_i2l hx hb dX1_tested_174 rfl ?_
      refine lv_ladd hx hb dX1_tested_175 ?_
      refine lv_ldc2 (v := 68719476735) hx hb hown (hts (.constantLong RX1 27 68719476735) (by decide +kernel)) dX1_tested_176 ?_
      refine lv_land hx hb dX1_tested_179 ?_
      refine lv_topl (fun x_180 ex_180 => ?_)
      refine lv_lstore (lv' := [(12, .long x_180), (11, .int x_24), (10, .int x_16), (8, .long x_6), (0, .ref h), (1, .int op), (2, .int ac), (3, .long e0), (5, .long m0), (7, .int nx)]) hx hb dX1_tested_180 hl (by decide) rfl (fun ls hl => ?_)
      refine lv_aload_n hx hb dX1_tested_182 rfl (lv_at hl 4 rfl) ?_
      refine va_get (D := D) (ci := 1) (v := .ref a) (C := RX1) (T := TX1) (N := 6) hx hb hts iw_X1_tested hown hK hP 0 rfl rfl 1 (by decide) (hts (.fieldLink RX1 7 "WordMillModel" "memory" "[J") (by decide +kernel)) (fun _ h9 => h9) rfl dX1_tested_183 ?_
      refine lv_lload_n hx hb dX1_tested_186 rfl (lv_at hl 7 rfl) ?_
      refine lv_l2i hx hb dX1_tested_187 rfl ?_
      refine lv_lload hx hb dX1_tested_188 (lv_at hl 0 rfl) ?_
      refine va_last hx hb hK hP hD hS 1 0 rfl rfl (pl_in (tst_e hop.1 hop.2 hne (Or.inr (Or.inl ex_32.symm)))) dX1_tested_190 (fun H locs hP hD hS => ?_)
      have hP : va_P D vwCl (rW h a cA ((vp_updL u.1 ((e0 : Int64).toInt32 : Int32).toNatClampNeg x_180), u.2.1, u.2.2.1, u.2.2.2.1, u.2.2.2.2.1, u.2.2.2.2.2)) H := hP
      have hD : va_D (wA h a) (rW h a cA ((vp_updL u.1 ((e0 : Int64).toInt32 : Int32).toNatClampNeg x_180), u.2.1, u.2.2.1, u.2.2.2.1, u.2.2.2.2.1, u.2.2.2.2.2)) := hD
      generalize (vp_updL u.1 ((e0 : Int64).toInt32 : Int32).toNatClampNeg x_180) = f_190 at hP hD
      refine lv_iload_n hx hb dX1_tested_191 rfl (lv_at hl 6 rfl) ?_
      refine lv_if_eq (tgt := 203) hx hb dX1_tested_192 (by decide) (fun c_192 => ?_) (fun c_192 => ?_)
      · refine lv_iload_n hx hb dX1_tested_203 rfl (lv_at hl 5 rfl) ?_
        refine lv_lload hx hb dX1_tested_204 (lv_at hl 0 rfl) ?_
        refine ps_gol (As := [.long x_180]) (rest := [.int op]) ⟨hx, hb, hml, hown, hts⟩ (kX1_number l x_180) (va_cwS 1 hts gX1_tested_X1_number rfl rfl rfl (by decide +kernel) ⟨by decide, by decide⟩) rfl hl.1 rfl (Nat.le_of_ble_eq_true rfl) dX1_tested_206 ⟨Nat.zero_le _, Nat.zero_le _⟩ (fun r_206 q_206 => ?_)
        refine lv_lconst (v := 0) hx hb dX1_tested_209 (by decide) ?_
        refine ps_goi (As := [.int op, .long r_206, .long 0]) (rest := []) ⟨hx, hb, hml, hown, hts⟩ (kX1_is l op r_206 0) (va_cwS 3 hts gX1_tested_X1_is rfl rfl rfl (by decide +kernel) ⟨by decide, by decide⟩) rfl hl.1 rfl (Nat.le_of_ble_eq_true rfl) dX1_tested_210 ⟨Nat.zero_le _, Nat.zero_le _⟩ (fun r_210 q_210 => ?_)
        refine lv_if_eq (tgt := 221) hx hb dX1_tested_213 (by decide) (fun c_213 => ?_) (fun c_213 => ?_)
        · refine lv_iload hx hb dX1_tested_221 (lv_at hl 9 rfl) ?_
          exact mm_iret (mw := rW h a cA) (u1 := (f_190, u.2.1, u.2.2.1, u.2.2.2.1, u.2.2.2.2.1, u.2.2.2.2.2)) hx hb hr hlocks hP hK hD hS dX1_tested_223 ⟨⟨hI, rfl, rfl⟩, hnx⟩
        · refine lv_iload hx hb dX1_tested_216 (lv_at hl 2 rfl) ?_
          refine lv_goto (tgt := 223) hx hb dX1_tested_218 (by decide) ?_
          exact mm_iret (mw := rW h a cA) (u1 := (f_190, u.2.1, u.2.2.1, u.2.2.2.1, u.2.2.2.2.1, u.2.2.2.2.2)) hx hb hr hlocks hP hK hD hS dX1_tested_223 ⟨⟨hI, rfl, rfl⟩, (by rw [ex_16]; exact vp_and4095 _)⟩
      · refine lv_aload_n hx hb dX1_tested_195 rfl (lv_at hl 4 rfl) ?_
        refine va_get (D := D) (ci := 1) (v := .ref a) (C := RX1) (T := TX1) (N := 6) hx hb hts iw_X1_tested hown hK hP 0 rfl rfl 1 (by decide) (hts (.fieldLink RX1 7 "WordMillModel" "memory" "[J") (by decide +kernel)) (fun _ h9 => h9) rfl dX1_tested_196 ?_
        refine lv_iload_n hx hb dX1_tested_199 rfl (lv_at hl 6 rfl) ?_
        refine lv_lload hx hb dX1_tested_200 (lv_at hl 0 rfl) ?_
        refine va_last hx hb hK hP hD hS 1 0 rfl rfl hac dX1_tested_202 (fun H locs hP hD hS => ?_)
        have hP : va_P D vwCl (rW h a cA ((vp_updL f_190 (ac : Int32).toNatClampNeg x_180), u.2.1, u.2.2.1, u.2.2.2.1, u.2.2.2.2.1, u.2.2.2.2.2)) H := hP
        have hD : va_D (wA h a) (rW h a cA ((vp_updL f_190 (ac : Int32).toNatClampNeg x_180), u.2.1, u.2.2.1, u.2.2.2.1, u.2.2.2.2.1, u.2.2.2.2.2)) := hD
        generalize (vp_updL f_190 (ac : Int32).toNatClampNeg x_180) = f_202 at hP hD
        refine lv_iload_n hx hb dX1_tested_203 rfl (lv_at hl 5 rfl) ?_
        refine lv_lload hx hb dX1_tested_204 (lv_at hl 0 rfl) ?_
        refine ps_gol (As := [.long x_180]) (rest := [.int op]) ⟨hx, hb, hml, hown, hts⟩ (kX1_number l x_180) (va_cwS 1 hts gX1_tested_X1_number rfl rfl rfl (by decide +kernel) ⟨by decide, by decide⟩) rfl hl.1 rfl (Nat.le_of_ble_eq_true rfl) dX1_tested_206 ⟨Nat.zero_le _, Nat.zero_le _⟩ (fun r_206 q_206 => ?_)
        refine lv_lconst (v := 0) hx hb dX1_tested_209 (by decide) ?_
        refine ps_goi (As := [.int op, .long r_206, .long 0]) (rest := []) ⟨hx, hb, hml, hown, hts⟩ (kX1_is l op r_206 0) (va_cwS 3 hts gX1_tested_X1_is rfl rfl rfl (by decide +kernel) ⟨by decide, by decide⟩) rfl hl.1 rfl (Nat.le_of_ble_eq_true rfl) dX1_tested_210 ⟨Nat.zero_le _, Nat.zero_le _⟩ (fun r_210 q_210 => ?_)
        refine lv_if_eq (tgt := 221) hx hb dX1_tested_213 (by decide) (fun c_213 => ?_) (fun c_213 => ?_)
        · refine lv_iload hx hb dX1_tested_221 (lv_at hl 9 rfl) ?_
          exact mm_iret (mw := rW h a cA) (u1 := (f_202, u.2.1, u.2.2.1, u.2.2.2.1, u.2.2.2.2.1, u.2.2.2.2.2)) hx hb hr hlocks hP hK hD hS dX1_tested_223 ⟨⟨hI, rfl, rfl⟩, hnx⟩
        · refine lv_iload hx hb dX1_tested_216 (lv_at hl 2 rfl) ?_
          refine lv_goto (tgt := 223) hx hb dX1_tested_218 (by decide) ?_
          exact mm_iret (mw := rW h a cA) (u1 := (f_202, u.2.1, u.2.2.1, u.2.2.2.1, u.2.2.2.2.1, u.2.2.2.2.2)) hx hb hr hlocks hP hK hD hS dX1_tested_223 ⟨⟨hI, rfl, rfl⟩, (by rw [ex_16]; exact vp_and4095 _)⟩
  by_cases k_6 : x_32 = 6
  · subst k_6
    refine lv_tableIn (tgt := 224) hx hb dX1_tested_32 (by decide) (by decide) rfl (by decide) ?_
    refine lv_lload hx hb dX1_tested_224 (lv_at hl 2 rfl) ?_
    refine lv_iload_n hx hb dX1_tested_226 rfl (lv_at hl 4 rfl) ?_
    refine lv_iconst (v := 3) hx hb dX1_tested_227 (by decide) ?_
    refine lv_ishr hx hb dX1_tested_228 ?_
    refine lv_bipush (v := 28) hx hb dX1_tested_229 (by decide) ?_
    refine lv_icmp_ne (tgt := 238) hx hb dX1_tested_231 (by decide) (fun c_231 => ?_) (fun c_231 => ?_)
    · refine lv_iconst (v := -1) hx hb dX1_tested_238 (by decide) ?_
      refine lv_i2l hx hb dX1_tested_239 rfl ?_
      refine lv_ladd hx hb dX1_tested_240 ?_
      refine lv_ldc2 (v := 68719476735) hx hb hown (hts (.constantLong RX1 27 68719476735) (by decide +kernel)) dX1_tested_241 ?_
      refine lv_land hx hb dX1_tested_244 ?_
      refine lv_topl (fun x_245 ex_245 => ?_)
      refine lv_lstore (lv' := [(12, .long x_245), (11, .int x_24), (10, .int x_16), (8, .long x_6), (0, .ref h), (1, .int op), (2, .int ac), (3, .long e0), (5, .long m0), (7, .int nx)]) hx hb dX1_tested_245 hl (by decide) rfl (fun ls hl => ?_)
      refine lv_aload_n hx hb dX1_tested_247 rfl (lv_at hl 4 rfl) ?_
      refine va_get (D := D) (ci := 1) (v := .ref a) (C := RX1) (T := TX1) (N := 6) hx hb hts iw_X1_tested hown hK hP 0 rfl rfl 1 (by decide) (hts (.fieldLink RX1 7 "WordMillModel" "memory" "[J") (by decide +kernel)) (fun _ h9 => h9) rfl dX1_tested_248 ?_
      refine lv_iload_n hx hb dX1_tested_251 rfl (lv_at hl 6 rfl) ?_
      refine lv_lload hx hb dX1_tested_252 (lv_at hl 0 rfl) ?_
      refine va_last hx hb hK hP hD hS 1 0 rfl rfl hac dX1_tested_254 (fun H locs hP hD hS => ?_)
      have hP : va_P D vwCl (rW h a cA ((vp_updL u.1 (ac : Int32).toNatClampNeg x_245), u.2.1, u.2.2.1, u.2.2.2.1, u.2.2.2.2.1, u.2.2.2.2.2)) H := hP
      have hD : va_D (wA h a) (rW h a cA ((vp_updL u.1 (ac : Int32).toNatClampNeg x_245), u.2.1, u.2.2.1, u.2.2.2.1, u.2.2.2.2.1, u.2.2.2.2.2)) := hD
      generalize (vp_updL u.1 (ac : Int32).toNatClampNeg x_245) = f_254 at hP hD
      refine lv_iload_n hx hb dX1_tested_255 rfl (lv_at hl 5 rfl) ?_
      refine lv_lload hx hb dX1_tested_256 (lv_at hl 0 rfl) ?_
      refine ps_gol (As := [.long x_245]) (rest := [.int op]) ⟨hx, hb, hml, hown, hts⟩ (kX1_number l x_245) (va_cwS 1 hts gX1_tested_X1_number rfl rfl rfl (by decide +kernel) ⟨by decide, by decide⟩) rfl hl.1 rfl (Nat.le_of_ble_eq_true rfl) dX1_tested_258 ⟨Nat.zero_le _, Nat.zero_le _⟩ (fun r_258 q_258 => ?_)
      refine lv_lconst (v := 0) hx hb dX1_tested_261 (by decide) ?_
      refine ps_goi (As := [.int op, .long r_258, .long 0]) (rest := []) ⟨hx, hb, hml, hown, hts⟩ (kX1_is l op r_258 0) (va_cwS 3 hts gX1_tested_X1_is rfl rfl rfl (by decide +kernel) ⟨by decide, by decide⟩) rfl hl.1 rfl (Nat.le_of_ble_eq_true rfl) dX1_tested_262 ⟨Nat.zero_le _, Nat.zero_le _⟩ (fun r_262 q_262 => ?_)
      refine lv_if_eq (tgt := 273) hx hb dX1_tested_265 (by decide) (fun c_265 => ?_) (fun c_265 => ?_)
      · refine lv_iload hx hb dX1_tested_273 (lv_at hl 9 rfl) ?_
        exact mm_iret (mw := rW h a cA) (u1 := (f_254, u.2.1, u.2.2.1, u.2.2.2.1, u.2.2.2.2.1, u.2.2.2.2.2)) hx hb hr hlocks hP hK hD hS dX1_tested_275 ⟨⟨hI, rfl, rfl⟩, hnx⟩
      · refine lv_iload hx hb dX1_tested_268 (lv_at hl 1 rfl) ?_
        refine lv_goto (tgt := 275) hx hb dX1_tested_270 (by decide) ?_
        exact mm_iret (mw := rW h a cA) (u1 := (f_254, u.2.1, u.2.2.1, u.2.2.2.1, u.2.2.2.2.1, u.2.2.2.2.2)) hx hb hr hlocks hP hK hD hS dX1_tested_275 ⟨⟨hI, rfl, rfl⟩, (by rw [ex_24]; exact la4095 _)⟩
    · refine lv_iconst (v := 1) hx hb dX1_tested_234 (by decide) ?_
      refine lv_goto (tgt := 239) hx hb dX1_tested_235 (by decide) ?_
      refine lv_i2l hx hb dX1_tested_239 rfl ?_
      refine lv_ladd hx hb dX1_tested_240 ?_
      refine lv_ldc2 (v := 68719476735) hx hb hown (hts (.constantLong RX1 27 68719476735) (by decide +kernel)) dX1_tested_241 ?_
      refine lv_land hx hb dX1_tested_244 ?_
      refine lv_topl (fun x_245 ex_245 => ?_)
      refine lv_lstore (lv' := [(12, .long x_245), (11, .int x_24), (10, .int x_16), (8, .long x_6), (0, .ref h), (1, .int op), (2, .int ac), (3, .long e0), (5, .long m0), (7, .int nx)]) hx hb dX1_tested_245 hl (by decide) rfl (fun ls hl => ?_)
      refine lv_aload_n hx hb dX1_tested_247 rfl (lv_at hl 4 rfl) ?_
      refine va_get (D := D) (ci := 1) (v := .ref a) (C := RX1) (T := TX1) (N := 6) hx hb hts iw_X1_tested hown hK hP 0 rfl rfl 1 (by decide) (hts (.fieldLink RX1 7 "WordMillModel" "memory" "[J") (by decide +kernel)) (fun _ h9 => h9) rfl dX1_tested_248 ?_
      refine lv_iload_n hx hb dX1_tested_251 rfl (lv_at hl 6 rfl) ?_
      refine lv_lload hx hb dX1_tested_252 (lv_at hl 0 rfl) ?_
      refine va_last hx hb hK hP hD hS 1 0 rfl rfl hac dX1_tested_254 (fun H locs hP hD hS => ?_)
      have hP : va_P D vwCl (rW h a cA ((vp_updL u.1 (ac : Int32).toNatClampNeg x_245), u.2.1, u.2.2.1, u.2.2.2.1, u.2.2.2.2.1, u.2.2.2.2.2)) H := hP
      have hD : va_D (wA h a) (rW h a cA ((vp_updL u.1 (ac : Int32).toNatClampNeg x_245), u.2.1, u.2.2.1, u.2.2.2.1, u.2.2.2.2.1, u.2.2.2.2.2)) := hD
      generalize (vp_updL u.1 (ac : Int32).toNatClampNeg x_245) = f_254 at hP hD
      refine lv_iload_n hx hb dX1_tested_255 rfl (lv_at hl 5 rfl) ?_
      refine lv_lload hx hb dX1_tested_256 (lv_at hl 0 rfl) ?_
      refine ps_gol (As := [.long x_245]) (rest := [.int op]) ⟨hx, hb, hml, hown, hts⟩ (kX1_number l x_245) (va_cwS 1 hts gX1_tested_X1_number rfl rfl rfl (by decide +kernel) ⟨by decide, by decide⟩) rfl hl.1 rfl (Nat.le_of_ble_eq_true rfl) dX1_tested_258 ⟨Nat.zero_le _, Nat.zero_le _⟩ (fun r_258 q_258 => ?_)
      refine lv_lconst (v := 0) hx hb dX1_tested_261 (by decide) ?_
      refine ps_goi (As := [.int op, .long r_258, .long 0]) (rest := []) ⟨hx, hb, hml, hown, hts⟩ (kX1_is l op r_258 0) (va_cwS 3 hts gX1_tested_X1_is rfl rfl rfl (by decide +kernel) ⟨by decide, by decide⟩) rfl hl.1 rfl (Nat.le_of_ble_eq_true rfl) dX1_tested_262 ⟨Nat.zero_le _, Nat.zero_le _⟩ (fun r_262 q_262 => ?_)
      refine lv_if_eq (tgt := 273) hx hb dX1_tested_265 (by decide) (fun c_265 => ?_) (fun c_265 => ?_)
      · refine lv_iload hx hb dX1_tested_273 (lv_at hl 9 rfl) ?_
        exact mm_iret (mw := rW h a cA) (u1 := (f_254, u.2.1, u.2.2.1, u.2.2.2.1, u.2.2.2.2.1, u.2.2.2.2.2)) hx hb hr hlocks hP hK hD hS dX1_tested_275 ⟨⟨hI, rfl, rfl⟩, hnx⟩
      · refine lv_iload hx hb dX1_tested_268 (lv_at hl 1 rfl) ?_
        refine lv_goto (tgt := 275) hx hb dX1_tested_270 (by decide) ?_
        exact mm_iret (mw := rW h a cA) (u1 := (f_254, u.2.1, u.2.2.1, u.2.2.2.1, u.2.2.2.2.1, u.2.2.2.2.2)) hx hb hr hlocks hP hK hD hS dX1_tested_275 ⟨⟨hI, rfl, rfl⟩, (by rw [ex_24]; exact la4095 _)⟩
  by_cases k_7 : x_32 = 7
  · subst k_7
    refine lv_tableIn (tgt := 147) hx hb dX1_tested_32 (by decide) (by decide) rfl (by decide) ?_
    refine lv_lload hx hb dX1_tested_147 (lv_at hl 7 rfl) ?_
    refine lv_iload_n hx hb dX1_tested_149 rfl (lv_at hl 4 rfl) ?_
    refine lv_iconst (v := 3) hx hb dX1_tested_150 (by decide) ?_
    refine lv_ishr hx hb dX1_tested_151 ?_
    refine lv_bipush (v := 29) hx hb dX1_tested_152 (by decide) ?_
    refine lv_icmp_ne (tgt := 161) hx hb dX1_tested_154 (by decide) (fun c_154 => ?_) (fun c_154 => ?_)
    · refine lv_iload_n hx hb dX1_tested_161 rfl (lv_at hl 4 rfl) ?_
      refine lv_iconst (v := 3) hx hb dX1_tested_162 (by decide) ?_
      refine lv_ishr hx hb dX1_tested_163 ?_
      refine lv_bipush (v := 31) hx hb dX1_tested_164 (by decide) ?_
      refine lv_icmp_ne (tgt := 173) hx hb dX1_tested_166 (by decide) (fun c_166 => ?_) (fun c_166 => ?_)
      · refine lv_iconst (v := 0) hx hb dX1_tested_173 (by decide) ?_
        refine lv_i2l hx hb dX1_tested_174 rfl ?_
        refine lv_ladd hx hb dX1_tested_175 ?_
        refine lv_ldc2 (v := 68719476735) hx hb hown (hts (.constantLong RX1 27 68719476735) (by decide +kernel)) dX1_tested_176 ?_
        refine lv_land hx hb dX1_tested_179 ?_
        refine lv_topl (fun x_180 ex_180 => ?_)
        refine lv_lstore (lv' := [(12, .long x_180), (11, .int x_24), (10, .int x_16), (8, .long x_6), (0, .ref h), (1, .int op), (2, .int ac), (3, .long e0), (5, .long m0), (7, .int nx)]) hx hb dX1_tested_180 hl (by decide) rfl (fun ls hl => ?_)
        refine lv_aload_n hx hb dX1_tested_182 rfl (lv_at hl 4 rfl) ?_
        refine va_get (D := D) (ci := 1) (v := .ref a) (C := RX1) (T := TX1) (N := 6) hx hb hts iw_X1_tested hown hK hP 0 rfl rfl 1 (by decide) (hts (.fieldLink RX1 7 "WordMillModel" "memory" "[J") (by decide +kernel)) (fun _ h9 => h9) rfl dX1_tested_183 ?_
        refine lv_lload_n hx hb dX1_tested_186 rfl (lv_at hl 7 rfl) ?_
        refine lv_l2i hx hb dX1_tested_187 rfl ?_
        refine lv_lload hx hb dX1_tested_188 (lv_at hl 0 rfl) ?_
        refine va_last hx hb hK hP hD hS 1 0 rfl rfl (pl_in (tst_e hop.1 hop.2 hne (Or.inr (Or.inr ex_32.symm)))) dX1_tested_190 (fun H locs hP hD hS => ?_)
        have hP : va_P D vwCl (rW h a cA ((vp_updL u.1 ((e0 : Int64).toInt32 : Int32).toNatClampNeg x_180), u.2.1, u.2.2.1, u.2.2.2.1, u.2.2.2.2.1, u.2.2.2.2.2)) H := hP
        have hD : va_D (wA h a) (rW h a cA ((vp_updL u.1 ((e0 : Int64).toInt32 : Int32).toNatClampNeg x_180), u.2.1, u.2.2.1, u.2.2.2.1, u.2.2.2.2.1, u.2.2.2.2.2)) := hD
        generalize (vp_updL u.1 ((e0 : Int64).toInt32 : Int32).toNatClampNeg x_180) = f_190 at hP hD
        refine lv_iload_n hx hb dX1_tested_191 rfl (lv_at hl 6 rfl) ?_
        refine lv_if_eq (tgt := 203) hx hb dX1_tested_192 (by decide) (fun c_192 => ?_) (fun c_192 => ?_)
        · refine lv_iload_n hx hb dX1_tested_203 rfl (lv_at hl 5 rfl) ?_
          refine lv_lload hx hb dX1_tested_204 (lv_at hl 0 rfl) ?_
          refine ps_gol (As := [.long x_180]) (rest := [.int op]) ⟨hx, hb, hml, hown, hts⟩ (kX1_number l x_180) (va_cwS 1 hts gX1_tested_X1_number rfl rfl rfl (by decide +kernel) ⟨by decide, by decide⟩) rfl hl.1 rfl (Nat.le_of_ble_eq_true rfl) dX1_tested_206 ⟨Nat.zero_le _, Nat.zero_le _⟩ (fun r_206 q_206 => ?_)
          refine lv_lconst (v := 0) hx hb dX1_tested_209 (by decide) ?_
          refine ps_goi (As := [.int op, .long r_206, .long 0]) (rest := []) ⟨hx, hb, hml, hown, hts⟩ (kX1_is l op r_206 0) (va_cwS 3 hts gX1_tested_X1_is rfl rfl rfl (by decide +kernel) ⟨by decide, by decide⟩) rfl hl.1 rfl (Nat.le_of_ble_eq_true rfl) dX1_tested_210 ⟨Nat.zero_le _, Nat.zero_le _⟩ (fun r_210 q_210 => ?_)
          refine lv_if_eq (tgt := 221) hx hb dX1_tested_213 (by decide) (fun c_213 => ?_) (fun c_213 => ?_)
          · refine lv_iload hx hb dX1_tested_221 (lv_at hl 9 rfl) ?_
            exact mm_iret (mw := rW h a cA) (u1 := (f_190, u.2.1, u.2.2.1, u.2.2.2.1, u.2.2.2.2.1, u.2.2.2.2.2)) hx hb hr hlocks hP hK hD hS dX1_tested_223 ⟨⟨hI, rfl, rfl⟩, hnx⟩
          · refine lv_iload hx hb dX1_tested_216 (lv_at hl 2 rfl) ?_
            refine lv_goto (tgt := 223) hx hb dX1_tested_218 (by decide) ?_
            exact mm_iret (mw := rW h a cA) (u1 := (f_190, u.2.1, u.2.2.1, u.2.2.2.1, u.2.2.2.2.1, u.2.2.2.2.2)) hx hb hr hlocks hP hK hD hS dX1_tested_223 ⟨⟨hI, rfl, rfl⟩, (by rw [ex_16]; exact vp_and4095 _)⟩
        · refine lv_aload_n hx hb dX1_tested_195 rfl (lv_at hl 4 rfl) ?_
          refine va_get (D := D) (ci := 1) (v := .ref a) (C := RX1) (T := TX1) (N := 6) hx hb hts iw_X1_tested hown hK hP 0 rfl rfl 1 (by decide) (hts (.fieldLink RX1 7 "WordMillModel" "memory" "[J") (by decide +kernel)) (fun _ h9 => h9) rfl dX1_tested_196 ?_
          refine lv_iload_n hx hb dX1_tested_199 rfl (lv_at hl 6 rfl) ?_
          refine lv_lload hx hb dX1_tested_200 (lv_at hl 0 rfl) ?_
          refine va_last hx hb hK hP hD hS 1 0 rfl rfl hac dX1_tested_202 (fun H locs hP hD hS => ?_)
          have hP : va_P D vwCl (rW h a cA ((vp_updL f_190 (ac : Int32).toNatClampNeg x_180), u.2.1, u.2.2.1, u.2.2.2.1, u.2.2.2.2.1, u.2.2.2.2.2)) H := hP
          have hD : va_D (wA h a) (rW h a cA ((vp_updL f_190 (ac : Int32).toNatClampNeg x_180), u.2.1, u.2.2.1, u.2.2.2.1, u.2.2.2.2.1, u.2.2.2.2.2)) := hD
          generalize (vp_updL f_190 (ac : Int32).toNatClampNeg x_180) = f_202 at hP hD
          refine lv_iload_n hx hb dX1_tested_203 rfl (lv_at hl 5 rfl) ?_
          refine lv_lload hx hb dX1_tested_204 (lv_at hl 0 rfl) ?_
          refine ps_gol (As := [.long x_180]) (rest := [.int op]) ⟨hx, hb, hml, hown, hts⟩ (kX1_number l x_180) (va_cwS 1 hts gX1_tested_X1_number rfl rfl rfl (by decide +kernel) ⟨by decide, by decide⟩) rfl hl.1 rfl (Nat.le_of_ble_eq_true rfl) dX1_tested_206 ⟨Nat.zero_le _, Nat.zero_le _⟩ (fun r_206 q_206 => ?_)
          refine lv_lconst (v := 0) hx hb dX1_tested_209 (by decide) ?_
          refine ps_goi (As := [.int op, .long r_206, .long 0]) (rest := []) ⟨hx, hb, hml, hown, hts⟩ (kX1_is l op r_206 0) (va_cwS 3 hts gX1_tested_X1_is rfl rfl rfl (by decide +kernel) ⟨by decide, by decide⟩) rfl hl.1 rfl (Nat.le_of_ble_eq_true rfl) dX1_tested_210 ⟨Nat.zero_le _, Nat.zero_le _⟩ (fun r_210 q_210 => ?_)
          refine lv_if_eq (tgt := 221) hx hb dX1_tested_213 (by decide) (fun c_213 => ?_) (fun c_213 => ?_)
          · refine lv_iload hx hb dX1_tested_221 (lv_at hl 9 rfl) ?_
            exact mm_iret (mw := rW h a cA) (u1 := (f_202, u.2.1, u.2.2.1, u.2.2.2.1, u.2.2.2.2.1, u.2.2.2.2.2)) hx hb hr hlocks hP hK hD hS dX1_tested_223 ⟨⟨hI, rfl, rfl⟩, hnx⟩
          · refine lv_iload hx hb dX1_tested_216 (lv_at hl 2 rfl) ?_
            refine lv_goto (tgt := 223) hx hb dX1_tested_218 (by decide) ?_
            exact mm_iret (mw := rW h a cA) (u1 := (f_202, u.2.1, u.2.2.1, u.2.2.2.1, u.2.2.2.2.1, u.2.2.2.2.2)) hx hb hr hlocks hP hK hD hS dX1_tested_223 ⟨⟨hI, rfl, rfl⟩, (by rw [ex_16]; exact vp_and4095 _)⟩
      · refine lv_iconst (v := -1) hx hb dX1_tested_169 (by decide) ?_
        refine lv_goto (tgt := 174) hx hb dX1_tested_170 (by decide) ?_
        refine lv_i2l hx hb dX1_tested_174 rfl ?_
        refine lv_ladd hx hb dX1_tested_175 ?_
        refine lv_ldc2 (v := 68719476735) hx hb hown (hts (.constantLong RX1 27 68719476735) (by decide +kernel)) dX1_tested_176 ?_
        refine lv_land hx hb dX1_tested_179 ?_
        refine lv_topl (fun x_180 ex_180 => ?_)
        refine lv_lstore (lv' := [(12, .long x_180), (11, .int x_24), (10, .int x_16), (8, .long x_6), (0, .ref h), (1, .int op), (2, .int ac), (3, .long e0), (5, .long m0), (7, .int nx)]) hx hb dX1_tested_180 hl (by decide) rfl (fun ls hl => ?_)
        refine lv_aload_n hx hb dX1_tested_182 rfl (lv_at hl 4 rfl) ?_
        refine va_get (D := D) (ci := 1) (v := .ref a) (C := RX1) (T := TX1) (N := 6) hx hb hts iw_X1_tested hown hK hP 0 rfl rfl 1 (by decide) (hts (.fieldLink RX1 7 "WordMillModel" "memory" "[J") (by decide +kernel)) (fun _ h9 => h9) rfl dX1_tested_183 ?_
        refine lv_lload_n hx hb dX1_tested_186 rfl (lv_at hl 7 rfl) ?_
        refine lv_l2i hx hb dX1_tested_187 rfl ?_
        refine lv_lload hx hb dX1_tested_188 (lv_at hl 0 rfl) ?_
        refine va_last hx hb hK hP hD hS 1 0 rfl rfl (pl_in (tst_e hop.1 hop.2 hne (Or.inr (Or.inr ex_32.symm)))) dX1_tested_190 (fun H locs hP hD hS => ?_)
        have hP : va_P D vwCl (rW h a cA ((vp_updL u.1 ((e0 : Int64).toInt32 : Int32).toNatClampNeg x_180), u.2.1, u.2.2.1, u.2.2.2.1, u.2.2.2.2.1, u.2.2.2.2.2)) H := hP
        have hD : va_D (wA h a) (rW h a cA ((vp_updL u.1 ((e0 : Int64).toInt32 : Int32).toNatClampNeg x_180), u.2.1, u.2.2.1, u.2.2.2.1, u.2.2.2.2.1, u.2.2.2.2.2)) := hD
        generalize (vp_updL u.1 ((e0 : Int64).toInt32 : Int32).toNatClampNeg x_180) = f_190 at hP hD
        refine lv_iload_n hx hb dX1_tested_191 rfl (lv_at hl 6 rfl) ?_
        refine lv_if_eq (tgt := 203) hx hb dX1_tested_192 (by decide) (fun c_192 => ?_) (fun c_192 => ?_)
        · refine lv_iload_n hx hb dX1_tested_203 rfl (lv_at hl 5 rfl) ?_
          refine lv_lload hx hb dX1_tested_204 (lv_at hl 0 rfl) ?_
          refine ps_gol (As := [.long x_180]) (rest := [.int op]) ⟨hx, hb, hml, hown, hts⟩ (kX1_number l x_180) (va_cwS 1 hts gX1_tested_X1_number rfl rfl rfl (by decide +kernel) ⟨by decide, by decide⟩) rfl hl.1 rfl (Nat.le_of_ble_eq_true rfl) dX1_tested_206 ⟨Nat.zero_le _, Nat.zero_le _⟩ (fun r_206 q_206 => ?_)
          refine lv_lconst (v := 0) hx hb dX1_tested_209 (by decide) ?_
          refine ps_goi (As := [.int op, .long r_206, .long 0]) (rest := []) ⟨hx, hb, hml, hown, hts⟩ (kX1_is l op r_206 0) (va_cwS 3 hts gX1_tested_X1_is rfl rfl rfl (by decide +kernel) ⟨by decide, by decide⟩) rfl hl.1 rfl (Nat.le_of_ble_eq_true rfl) dX1_tested_210 ⟨Nat.zero_le _, Nat.zero_le _⟩ (fun r_210 q_210 => ?_)
          refine lv_if_eq (tgt := 221) hx hb dX1_tested_213 (by decide) (fun c_213 => ?_) (fun c_213 => ?_)
          · refine lv_iload hx hb dX1_tested_221 (lv_at hl 9 rfl) ?_
            exact mm_iret (mw := rW h a cA) (u1 := (f_190, u.2.1, u.2.2.1, u.2.2.2.1, u.2.2.2.2.1, u.2.2.2.2.2)) hx hb hr hlocks hP hK hD hS dX1_tested_223 ⟨⟨hI, rfl, rfl⟩, hnx⟩
          · refine lv_iload hx hb dX1_tested_216 (lv_at hl 2 rfl) ?_
            refine lv_goto (tgt := 223) hx hb dX1_tested_218 (by decide) ?_
            exact mm_iret (mw := rW h a cA) (u1 := (f_190, u.2.1, u.2.2.1, u.2.2.2.1, u.2.2.2.2.1, u.2.2.2.2.2)) hx hb hr hlocks hP hK hD hS dX1_tested_223 ⟨⟨hI, rfl, rfl⟩, (by rw [ex_16]; exact vp_and4095 _)⟩
        · refine lv_aload_n hx hb dX1_tested_195 rfl (lv_at hl 4 rfl) ?_
          refine va_get (D := D) (ci := 1) (v := .ref a) (C := RX1) (T := TX1) (N := 6) hx hb hts iw_X1_tested hown hK hP 0 rfl rfl 1 (by decide) (hts (.fieldLink RX1 7 "WordMillModel" "memory" "[J") (by decide +kernel)) (fun _ h9 => h9) rfl dX1_tested_196 ?_
          refine lv_iload_n hx hb dX1_tested_199 rfl (lv_at hl 6 rfl) ?_
          refine lv_lload hx hb dX1_tested_200 (lv_at hl 0 rfl) ?_
          refine va_last hx hb hK hP hD hS 1 0 rfl rfl hac dX1_tested_202 (fun H locs hP hD hS => ?_)
          have hP : va_P D vwCl (rW h a cA ((vp_updL f_190 (ac : Int32).toNatClampNeg x_180), u.2.1, u.2.2.1, u.2.2.2.1, u.2.2.2.2.1, u.2.2.2.2.2)) H := hP
          have hD : va_D (wA h a) (rW h a cA ((vp_updL f_190 (ac : Int32).toNatClampNeg x_180), u.2.1, u.2.2.1, u.2.2.2.1, u.2.2.2.2.1, u.2.2.2.2.2)) := hD
          generalize (vp_updL f_190 (ac : Int32).toNatClampNeg x_180) = f_202 at hP hD
          refine lv_iload_n hx hb dX1_tested_203 rfl (lv_at hl 5 rfl) ?_
          refine lv_lload hx hb dX1_tested_204 (lv_at hl 0 rfl) ?_
          refine ps_gol (As := [.long x_180]) (rest := [.int op]) ⟨hx, hb, hml, hown, hts⟩ (kX1_number l x_180) (va_cwS 1 hts gX1_tested_X1_number rfl rfl rfl (by decide +kernel) ⟨by decide, by decide⟩) rfl hl.1 rfl (Nat.le_of_ble_eq_true rfl) dX1_tested_206 ⟨Nat.zero_le _, Nat.zero_le _⟩ (fun r_206 q_206 => ?_)
          refine lv_lconst (v := 0) hx hb dX1_tested_209 (by decide) ?_
          refine ps_goi (As := [.int op, .long r_206, .long 0]) (rest := []) ⟨hx, hb, hml, hown, hts⟩ (kX1_is l op r_206 0) (va_cwS 3 hts gX1_tested_X1_is rfl rfl rfl (by decide +kernel) ⟨by decide, by decide⟩) rfl hl.1 rfl (Nat.le_of_ble_eq_true rfl) dX1_tested_210 ⟨Nat.zero_le _, Nat.zero_le _⟩ (fun r_210 q_210 => ?_)
          refine lv_if_eq (tgt := 221) hx hb dX1_tested_213 (by decide) (fun c_213 => ?_) (fun c_213 => ?_)
          · refine lv_iload hx hb dX1_tested_221 (lv_at hl 9 rfl) ?_
            exact mm_iret (mw := rW h a cA) (u1 := (f_202, u.2.1, u.2.2.1, u.2.2.2.1, u.2.2.2.2.1, u.2.2.2.2.2)) hx hb hr hlocks hP hK hD hS dX1_tested_223 ⟨⟨hI, rfl, rfl⟩, hnx⟩
          · refine lv_iload hx hb dX1_tested_216 (lv_at hl 2 rfl) ?_
            refine lv_goto (tgt := 223) hx hb dX1_tested_218 (by decide) ?_
            exact mm_iret (mw := rW h a cA) (u1 := (f_202, u.2.1, u.2.2.1, u.2.2.2.1, u.2.2.2.2.1, u.2.2.2.2.2)) hx hb hr hlocks hP hK hD hS dX1_tested_223 ⟨⟨hI, rfl, rfl⟩, (by rw [ex_16]; exact vp_and4095 _)⟩
    · refine lv_iconst (v := 1) hx hb dX1_tested_157 (by decide) ?_
      refine lv_goto (tgt := 174) hx hb dX1_tested_158 (by decide) ?_
      refine lv_i2l hx hb dX1_tested_174 rfl ?_
      refine lv_ladd hx hb dX1_tested_175 ?_
      refine lv_ldc2 (v := 68719476735) hx hb hown (hts (.constantLong RX1 27 68719476735) (by decide +kernel)) dX1_tested_176 ?_
      refine lv_land hx hb dX1_tested_179 ?_
      refine lv_topl (fun x_180 ex_180 => ?_)
      refine lv_lstore (lv' := [(12, .long x_180), (11, .int x_24), (10, .int x_16), (8, .long x_6), (0, .ref h), (1, .int op), (2, .int ac), (3, .long e0), (5, .long m0), (7, .int nx)]) hx hb dX1_tested_180 hl (by decide) rfl (fun ls hl => ?_)
      refine lv_aload_n hx hb dX1_tested_182 rfl (lv_at hl 4 rfl) ?_
      refine va_get (D := D) (ci := 1) (v := .ref a) (C := RX1) (T := TX1) (N := 6) hx hb hts iw_X1_tested hown hK hP 0 rfl rfl 1 (by decide) (hts (.fieldLink RX1 7 "WordMillModel" "memory" "[J") (by decide +kernel)) (fun _ h9 => h9) rfl dX1_tested_183 ?_
      refine lv_lload_n hx hb dX1_tested_186 rfl (lv_at hl 7 rfl) ?_
      refine lv_l2i hx hb dX1_tested_187 rfl ?_
      refine lv_lload hx hb dX1_tested_188 (lv_at hl 0 rfl) ?_
      refine va_last hx hb hK hP hD hS 1 0 rfl rfl (pl_in (tst_e hop.1 hop.2 hne (Or.inr (Or.inr ex_32.symm)))) dX1_tested_190 (fun H locs hP hD hS => ?_)
      have hP : va_P D vwCl (rW h a cA ((vp_updL u.1 ((e0 : Int64).toInt32 : Int32).toNatClampNeg x_180), u.2.1, u.2.2.1, u.2.2.2.1, u.2.2.2.2.1, u.2.2.2.2.2)) H := hP
      have hD : va_D (wA h a) (rW h a cA ((vp_updL u.1 ((e0 : Int64).toInt32 : Int32).toNatClampNeg x_180), u.2.1, u.2.2.1, u.2.2.2.1, u.2.2.2.2.1, u.2.2.2.2.2)) := hD
      generalize (vp_updL u.1 ((e0 : Int64).toInt32 : Int32).toNatClampNeg x_180) = f_190 at hP hD
      refine lv_iload_n hx hb dX1_tested_191 rfl (lv_at hl 6 rfl) ?_
      refine lv_if_eq (tgt := 203) hx hb dX1_tested_192 (by decide) (fun c_192 => ?_) (fun c_192 => ?_)
      · refine lv_iload_n hx hb dX1_tested_203 rfl (lv_at hl 5 rfl) ?_
        refine lv_lload hx hb dX1_tested_204 (lv_at hl 0 rfl) ?_
        refine ps_gol (As := [.long x_180]) (rest := [.int op]) ⟨hx, hb, hml, hown, hts⟩ (kX1_number l x_180) (va_cwS 1 hts gX1_tested_X1_number rfl rfl rfl (by decide +kernel) ⟨by decide, by decide⟩) rfl hl.1 rfl (Nat.le_of_ble_eq_true rfl) dX1_tested_206 ⟨Nat.zero_le _, Nat.zero_le _⟩ (fun r_206 q_206 => ?_)
        refine lv_lconst (v := 0) hx hb dX1_tested_209 (by decide) ?_
        refine ps_goi (As := [.int op, .long r_206, .long 0]) (rest := []) ⟨hx, hb, hml, hown, hts⟩ (kX1_is l op r_206 0) (va_cwS 3 hts gX1_tested_X1_is rfl rfl rfl (by decide +kernel) ⟨by decide, by decide⟩) rfl hl.1 rfl (Nat.le_of_ble_eq_true rfl) dX1_tested_210 ⟨Nat.zero_le _, Nat.zero_le _⟩ (fun r_210 q_210 => ?_)
        refine lv_if_eq (tgt := 221) hx hb dX1_tested_213 (by decide) (fun c_213 => ?_) (fun c_213 => ?_)
        · refine lv_iload hx hb dX1_tested_221 (lv_at hl 9 rfl) ?_
          exact mm_iret (mw := rW h a cA) (u1 := (f_190, u.2.1, u.2.2.1, u.2.2.2.1, u.2.2.2.2.1, u.2.2.2.2.2)) hx hb hr hlocks hP hK hD hS dX1_tested_223 ⟨⟨hI, rfl, rfl⟩, hnx⟩
        · refine lv_iload hx hb dX1_tested_216 (lv_at hl 2 rfl) ?_
          refine lv_goto (tgt := 223) hx hb dX1_tested_218 (by decide) ?_
          exact mm_iret (mw := rW h a cA) (u1 := (f_190, u.2.1, u.2.2.1, u.2.2.2.1, u.2.2.2.2.1, u.2.2.2.2.2)) hx hb hr hlocks hP hK hD hS dX1_tested_223 ⟨⟨hI, rfl, rfl⟩, (by rw [ex_16]; exact vp_and4095 _)⟩
      · refine lv_aload_n hx hb dX1_tested_195 rfl (lv_at hl 4 rfl) ?_
        refine va_get (D := D) (ci := 1) (v := .ref a) (C := RX1) (T := TX1) (N := 6) hx hb hts iw_X1_tested hown hK hP 0 rfl rfl 1 (by decide) (hts (.fieldLink RX1 7 "WordMillModel" "memory" "[J") (by decide +kernel)) (fun _ h9 => h9) rfl dX1_tested_196 ?_
        refine lv_iload_n hx hb dX1_tested_199 rfl (lv_at hl 6 rfl) ?_
        refine lv_lload hx hb dX1_tested_200 (lv_at hl 0 rfl) ?_
        refine va_last hx hb hK hP hD hS 1 0 rfl rfl hac dX1_tested_202 (fun H locs hP hD hS => ?_)
        have hP : va_P D vwCl (rW h a cA ((vp_updL f_190 (ac : Int32).toNatClampNeg x_180), u.2.1, u.2.2.1, u.2.2.2.1, u.2.2.2.2.1, u.2.2.2.2.2)) H := hP
        have hD : va_D (wA h a) (rW h a cA ((vp_updL f_190 (ac : Int32).toNatClampNeg x_180), u.2.1, u.2.2.1, u.2.2.2.1, u.2.2.2.2.1, u.2.2.2.2.2)) := hD
        generalize (vp_updL f_190 (ac : Int32).toNatClampNeg x_180) = f_202 at hP hD
        refine lv_iload_n hx hb dX1_tested_203 rfl (lv_at hl 5 rfl) ?_
        refine lv_lload hx hb dX1_tested_204 (lv_at hl 0 rfl) ?_
        refine ps_gol (As := [.long x_180]) (rest := [.int op]) ⟨hx, hb, hml, hown, hts⟩ (kX1_number l x_180) (va_cwS 1 hts gX1_tested_X1_number rfl rfl rfl (by decide +kernel) ⟨by decide, by decide⟩) rfl hl.1 rfl (Nat.le_of_ble_eq_true rfl) dX1_tested_206 ⟨Nat.zero_le _, Nat.zero_le _⟩ (fun r_206 q_206 => ?_)
        refine lv_lconst (v := 0) hx hb dX1_tested_209 (by decide) ?_
        refine ps_goi (As := [.int op, .long r_206, .long 0]) (rest := []) ⟨hx, hb, hml, hown, hts⟩ (kX1_is l op r_206 0) (va_cwS 3 hts gX1_tested_X1_is rfl rfl rfl (by decide +kernel) ⟨by decide, by decide⟩) rfl hl.1 rfl (Nat.le_of_ble_eq_true rfl) dX1_tested_210 ⟨Nat.zero_le _, Nat.zero_le _⟩ (fun r_210 q_210 => ?_)
        refine lv_if_eq (tgt := 221) hx hb dX1_tested_213 (by decide) (fun c_213 => ?_) (fun c_213 => ?_)
        · refine lv_iload hx hb dX1_tested_221 (lv_at hl 9 rfl) ?_
          exact mm_iret (mw := rW h a cA) (u1 := (f_202, u.2.1, u.2.2.1, u.2.2.2.1, u.2.2.2.2.1, u.2.2.2.2.2)) hx hb hr hlocks hP hK hD hS dX1_tested_223 ⟨⟨hI, rfl, rfl⟩, hnx⟩
        · refine lv_iload hx hb dX1_tested_216 (lv_at hl 2 rfl) ?_
          refine lv_goto (tgt := 223) hx hb dX1_tested_218 (by decide) ?_
          exact mm_iret (mw := rW h a cA) (u1 := (f_202, u.2.1, u.2.2.1, u.2.2.2.1, u.2.2.2.2.1, u.2.2.2.2.2)) hx hb hr hlocks hP hK hD hS dX1_tested_223 ⟨⟨hI, rfl, rfl⟩, (by rw [ex_16]; exact vp_and4095 _)⟩
  refine lv_tableOut (tgt := 224) hx hb dX1_tested_32 (tb_out_0_8 k_0 k_1 k_2 k_3 k_4 k_5 k_6 k_7) (by decide) ?_
  refine lv_lload hx hb dX1_tested_224 (lv_at hl 2 rfl) ?_
  refine lv_iload_n hx hb dX1_tested_226 rfl (lv_at hl 4 rfl) ?_
  refine lv_iconst (v := 3) hx hb dX1_tested_227 (by decide) ?_
  refine lv_ishr hx hb dX1_tested_228 ?_
  refine lv_bipush (v := 28) hx hb dX1_tested_229 (by decide) ?_
  refine lv_icmp_ne (tgt := 238) hx hb dX1_tested_231 (by decide) (fun c_231 => ?_) (fun c_231 => ?_)
  · refine lv_iconst (v := -1) hx hb dX1_tested_238 (by decide) ?_
    refine lv_i2l hx hb dX1_tested_239 rfl ?_
    refine lv_ladd hx hb dX1_tested_240 ?_
    refine lv_ldc2 (v := 68719476735) hx hb hown (hts (.constantLong RX1 27 68719476735) (by decide +kernel)) dX1_tested_241 ?_
    refine lv_land hx hb dX1_tested_244 ?_
    refine lv_topl (fun x_245 ex_245 => ?_)
    refine lv_lstore (lv' := [(12, .long x_245), (11, .int x_24), (10, .int x_16), (8, .long x_6), (0, .ref h), (1, .int op), (2, .int ac), (3, .long e0), (5, .long m0), (7, .int nx)]) hx hb dX1_tested_245 hl (by decide) rfl (fun ls hl => ?_)
    refine lv_aload_n hx hb dX1_tested_247 rfl (lv_at hl 4 rfl) ?_
    refine va_get (D := D) (ci := 1) (v := .ref a) (C := RX1) (T := TX1) (N := 6) hx hb hts iw_X1_tested hown hK hP 0 rfl rfl 1 (by decide) (hts (.fieldLink RX1 7 "WordMillModel" "memory" "[J") (by decide +kernel)) (fun _ h9 => h9) rfl dX1_tested_248 ?_
    refine lv_iload_n hx hb dX1_tested_251 rfl (lv_at hl 6 rfl) ?_
    refine lv_lload hx hb dX1_tested_252 (lv_at hl 0 rfl) ?_
    refine va_last hx hb hK hP hD hS 1 0 rfl rfl hac dX1_tested_254 (fun H locs hP hD hS => ?_)
    have hP : va_P D vwCl (rW h a cA ((vp_updL u.1 (ac : Int32).toNatClampNeg x_245), u.2.1, u.2.2.1, u.2.2.2.1, u.2.2.2.2.1, u.2.2.2.2.2)) H := hP
    have hD : va_D (wA h a) (rW h a cA ((vp_updL u.1 (ac : Int32).toNatClampNeg x_245), u.2.1, u.2.2.1, u.2.2.2.1, u.2.2.2.2.1, u.2.2.2.2.2)) := hD
    generalize (vp_updL u.1 (ac : Int32).toNatClampNeg x_245) = f_254 at hP hD
    refine lv_iload_n hx hb dX1_tested_255 rfl (lv_at hl 5 rfl) ?_
    refine lv_lload hx hb dX1_tested_256 (lv_at hl 0 rfl) ?_
    refine ps_gol (As := [.long x_245]) (rest := [.int op]) ⟨hx, hb, hml, hown, hts⟩ (kX1_number l x_245) (va_cwS 1 hts gX1_tested_X1_number rfl rfl rfl (by decide +kernel) ⟨by decide, by decide⟩) rfl hl.1 rfl (Nat.le_of_ble_eq_true rfl) dX1_tested_258 ⟨Nat.zero_le _, Nat.zero_le _⟩ (fun r_258 q_258 => ?_)
    refine lv_lconst (v := 0) hx hb dX1_tested_261 (by decide) ?_
    refine ps_goi (As := [.int op, .long r_258, .long 0]) (rest := []) ⟨hx, hb, hml, hown, hts⟩ (kX1_is l op r_258 0) (va_cwS 3 hts gX1_tested_X1_is rfl rfl rfl (by decide +kernel) ⟨by decide, by decide⟩) rfl hl.1 rfl (Nat.le_of_ble_eq_true rfl) dX1_tested_262 ⟨Nat.zero_le _, Nat.zero_le _⟩ (fun r_262 q_262 => ?_)
    refine lv_if_eq (tgt := 273) hx hb dX1_tested_265 (by decide) (fun c_265 => ?_) (fun c_265 => ?_)
    · refine lv_iload hx hb dX1_tested_273 (lv_at hl 9 rfl) ?_
      exact mm_iret (mw := rW h a cA) (u1 := (f_254, u.2.1, u.2.2.1, u.2.2.2.1, u.2.2.2.2.1, u.2.2.2.2.2)) hx hb hr hlocks hP hK hD hS dX1_tested_275 ⟨⟨hI, rfl, rfl⟩, hnx⟩
    · refine lv_iload hx hb dX1_tested_268 (lv_at hl 1 rfl) ?_
      refine lv_goto (tgt := 275) hx hb dX1_tested_270 (by decide) ?_
      exact mm_iret (mw := rW h a cA) (u1 := (f_254, u.2.1, u.2.2.1, u.2.2.2.1, u.2.2.2.2.1, u.2.2.2.2.2)) hx hb hr hlocks hP hK hD hS dX1_tested_275 ⟨⟨hI, rfl, rfl⟩, (by rw [ex_24]; exact la4095 _)⟩
  · refine lv_iconst (v := 1) hx hb dX1_tested_234 (by decide) ?_
    refine lv_goto (tgt := 239) hx hb dX1_tested_235 (by decide) ?_
    refine lv_i2l hx hb dX1_tested_239 rfl ?_
    refine lv_ladd hx hb dX1_tested_240 ?_
    refine lv_ldc2 (v := 68719476735) hx hb hown (hts (.constantLong RX1 27 68719476735) (by decide +kernel)) dX1_tested_241 ?_
    refine lv_land hx hb dX1_tested_244 ?_
    refine lv_topl (fun x_245 ex_245 => ?_)
    refine lv_lstore (lv' := [(12, .long x_245), (11, .int x_24), (10, .int x_16), (8, .long x_6), (0, .ref h), (1, .int op), (2, .int ac), (3, .long e0), (5, .long m0), (7, .int nx)]) hx hb dX1_tested_245 hl (by decide) rfl (fun ls hl => ?_)
    refine lv_aload_n hx hb dX1_tested_247 rfl (lv_at hl 4 rfl) ?_
    refine va_get (D := D) (ci := 1) (v := .ref a) (C := RX1) (T := TX1) (N := 6) hx hb hts iw_X1_tested hown hK hP 0 rfl rfl 1 (by decide) (hts (.fieldLink RX1 7 "WordMillModel" "memory" "[J") (by decide +kernel)) (fun _ h9 => h9) rfl dX1_tested_248 ?_
    refine lv_iload_n hx hb dX1_tested_251 rfl (lv_at hl 6 rfl) ?_
    refine lv_lload hx hb dX1_tested_252 (lv_at hl 0 rfl) ?_
    refine va_last hx hb hK hP hD hS 1 0 rfl rfl hac dX1_tested_254 (fun H locs hP hD hS => ?_)
    have hP : va_P D vwCl (rW h a cA ((vp_updL u.1 (ac : Int32).toNatClampNeg x_245), u.2.1, u.2.2.1, u.2.2.2.1, u.2.2.2.2.1, u.2.2.2.2.2)) H := hP
    have hD : va_D (wA h a) (rW h a cA ((vp_updL u.1 (ac : Int32).toNatClampNeg x_245), u.2.1, u.2.2.1, u.2.2.2.1, u.2.2.2.2.1, u.2.2.2.2.2)) := hD
    generalize (vp_updL u.1 (ac : Int32).toNatClampNeg x_245) = f_254 at hP hD
    refine lv_iload_n hx hb dX1_tested_255 rfl (lv_at hl 5 rfl) ?_
    refine lv_lload hx hb dX1_tested_256 (lv_at hl 0 rfl) ?_
    refine ps_gol (As := [.long x_245]) (rest := [.int op]) ⟨hx, hb, hml, hown, hts⟩ (kX1_number l x_245) (va_cwS 1 hts gX1_tested_X1_number rfl rfl rfl (by decide +kernel) ⟨by decide, by decide⟩) rfl hl.1 rfl (Nat.le_of_ble_eq_true rfl) dX1_tested_258 ⟨Nat.zero_le _, Nat.zero_le _⟩ (fun r_258 q_258 => ?_)
    refine lv_lconst (v := 0) hx hb dX1_tested_261 (by decide) ?_
    refine ps_goi (As := [.int op, .long r_258, .long 0]) (rest := []) ⟨hx, hb, hml, hown, hts⟩ (kX1_is l op r_258 0) (va_cwS 3 hts gX1_tested_X1_is rfl rfl rfl (by decide +kernel) ⟨by decide, by decide⟩) rfl hl.1 rfl (Nat.le_of_ble_eq_true rfl) dX1_tested_262 ⟨Nat.zero_le _, Nat.zero_le _⟩ (fun r_262 q_262 => ?_)
    refine lv_if_eq (tgt := 273) hx hb dX1_tested_265 (by decide) (fun c_265 => ?_) (fun c_265 => ?_)
    · refine lv_iload hx hb dX1_tested_273 (lv_at hl 9 rfl) ?_
      exact mm_iret (mw := rW h a cA) (u1 := (f_254, u.2.1, u.2.2.1, u.2.2.2.1, u.2.2.2.2.1, u.2.2.2.2.2)) hx hb hr hlocks hP hK hD hS dX1_tested_275 ⟨⟨hI, rfl, rfl⟩, hnx⟩
    · refine lv_iload hx hb dX1_tested_268 (lv_at hl 1 rfl) ?_
      refine lv_goto (tgt := 275) hx hb dX1_tested_270 (by decide) ?_
      exact mm_iret (mw := rW h a cA) (u1 := (f_254, u.2.1, u.2.2.1, u.2.2.2.1, u.2.2.2.2.1, u.2.2.2.2.2)) hx hb hr hlocks hP hK hD hS dX1_tested_275 ⟨⟨hI, rfl, rfl⟩, (by rw [ex_24]; exact la4095 _)⟩
theorem iw_X1_one : ∀ w ∈ u_ws RX1 TX1 6, w ∈ wsX1_one := by decide +kernel
set_option maxHeartbeats 4000000 in
set_option maxRecDepth 100000 in
theorem kX1_one (l : Launch) (D : va_G) (h a : Nat) (cA : ClassId) (u : rS) (hI : rI u) (op : Int32) (ac : Int32) (e0 : Int64) (hac : vp_in ac 4096) : MM l yX1_one wsX1_one ({ frames := 3, cells := 0, slots := 0, locals := 79 }) D vwCl [(cA, .long)] (rW h a cA) (wA h a) u [.ref h, .int op, .int ac, .long e0] rv_v (fun _ u' => rK u u') := by
  refine mm_of (cc := cX1_one) (maxL := 9) (ret := none) (by decide) rfl (Nat.le_of_ble_eq_true rfl) (rA_in h a cA u) ?_
  intro p e s m below meth c ls C hl hP hK hD hS
  obtain ⟨hx, hb, hr, hml, hown, hts, hlocks⟩ := C
  have hl : lv_has ls 9 [(0, .ref h), (1, .int op), (2, .int ac), (3, .long e0)] := hl
  refine lv_aload_n hx hb dX1_one_0 rfl (lv_at hl 0 rfl) ?_
  refine va_get (D := D) (ci := 1) (v := .int u.2.2.2.2.1) (C := RX1) (T := TX1) (N := 6) hx hb hts iw_X1_one hown hK hP 0 rfl rfl 4 (by decide) (hts (.fieldLink RX1 36 "WordMillModel" "fault" "I") (by decide +kernel)) (fun _ h9 => h9) rfl dX1_one_1 ?_
  refine lv_if_eq (tgt := 8) hx hb dX1_one_4 (by decide) (fun c_4 => ?_) (fun c_4 => ?_)
  · refine lv_iload_n hx hb dX1_one_8 rfl (lv_at hl 1 rfl) ?_
    refine ps_goi (As := [.int op]) (rest := []) ⟨hx, hb, hml, hown, hts⟩ (kX1_needsWord l op) (va_cwS 1 hts gX1_one_X1_needsWord rfl rfl rfl (by decide +kernel) ⟨by decide, by decide⟩) rfl hl.1 rfl (Nat.le_of_ble_eq_true rfl) dX1_one_9 ⟨Nat.zero_le _, Nat.zero_le _⟩ (fun r_9 q_9 => ?_)
    refine lv_istore (lv' := [(5, .int r_9), (0, .ref h), (1, .int op), (2, .int ac), (3, .long e0)]) hx hb dX1_one_12 hl (by decide) rfl (fun ls hl => ?_)
    refine lv_iload hx hb dX1_one_14 (lv_at hl 0 rfl) ?_
    refine lv_if_eq (tgt := 27) hx hb dX1_one_16 (by decide) (fun c_16 => ?_) (fun c_16 => ?_)
    · refine lv_lconst (v := 0) hx hb dX1_one_27 (by decide) ?_
      refine lv_lstore (lv' := [(6, .long 0), (5, .int r_9), (0, .ref h), (1, .int op), (2, .int ac), (3, .long e0)]) hx hb dX1_one_28 hl (by decide) rfl (fun ls hl => ?_)
      refine lv_aload_n hx hb dX1_one_30 rfl (lv_at hl 2 rfl) ?_
      refine va_get (D := D) (ci := 1) (v := .int u.2.2.2.2.1) (C := RX1) (T := TX1) (N := 6) hx hb hts iw_X1_one hown hK hP 0 rfl rfl 4 (by decide) (hts (.fieldLink RX1 36 "WordMillModel" "fault" "I") (by decide +kernel)) (fun _ h9 => h9) rfl dX1_one_31 ?_
      refine lv_if_eq (tgt := 38) hx hb dX1_one_34 (by decide) (fun c_34 => ?_) (fun c_34 => ?_)
      · refine lv_aload_n hx hb dX1_one_38 rfl (lv_at hl 2 rfl) ?_
        refine va_get (D := D) (ci := 1) (v := .int u.2.2.1) (C := RX1) (T := TX1) (N := 6) hx hb hts iw_X1_one hown hK hP 0 rfl rfl 2 (by decide) (hts (.fieldLink RX1 33 "WordMillModel" "pc" "I") (by decide +kernel)) (fun _ h9 => h9) rfl dX1_one_39 ?_
        refine lv_iconst (v := 1) hx hb dX1_one_42 (by decide) ?_
        refine lv_iadd hx hb dX1_one_43 ?_
        refine lv_sipush (v := 4095) hx hb dX1_one_44 (by decide) ?_
        refine lv_iand hx hb dX1_one_47 ?_
        refine lv_topi (fun x_48 ex_48 => ?_)
        refine lv_istore (lv' := [(8, .int x_48), (6, .long 0), (5, .int r_9), (0, .ref h), (1, .int op), (2, .int ac), (3, .long e0)]) hx hb dX1_one_48 hl (by decide) rfl (fun ls hl => ?_)
        refine lv_iload_n hx hb dX1_one_50 rfl (lv_at hl 4 rfl) ?_
        refine lv_sipush (v := 192) hx hb dX1_one_51 (by decide) ?_
        refine lv_icmp_lt (tgt := 80) hx hb dX1_one_54 (by decide) (fun c_54 => ?_) (fun c_54 => ?_)
        · refine lv_iload_n hx hb dX1_one_80 rfl (lv_at hl 4 rfl) ?_
          refine lv_sipush (v := 172) hx hb dX1_one_81 (by decide) ?_
          refine lv_icmp_lt (tgt := 110) hx hb dX1_one_84 (by decide) (fun c_84 => ?_) (fun c_84 => ?_)
          · refine lv_aload_n hx hb dX1_one_110 rfl (lv_at hl 3 rfl) ?_
            refine lv_iload_n hx hb dX1_one_111 rfl (lv_at hl 4 rfl) ?_
            refine lv_iload_n hx hb dX1_one_112 rfl (lv_at hl 5 rfl) ?_
            refine lv_lload_n hx hb dX1_one_113 rfl (lv_at hl 6 rfl) ?_
            refine lv_lload hx hb dX1_one_114 (lv_at hl 1 rfl) ?_
            refine r_go (rv := rv_v) (As := [.int op, .int ac, .long e0, .long 0]) (rest := []) ⟨hx, hb, hml, hown, hts⟩ (kX1_moved l D h a cA (u.1, u.2.1, u.2.2.1, u.2.2.2.1, u.2.2.2.2.1, u.2.2.2.2.2) hI op ac e0 0 hac (Or.inl (q_9 c_16))) (cwV 4 hts gX1_one_X1_moved rfl rfl rfl (by decide +kernel) ⟨by decide, by decide⟩) hK hP hD hS rfl hl.1 rfl (Nat.le_of_ble_eq_true rfl) dX1_one_116 ⟨Nat.zero_le _, Nat.zero_le _⟩ (fun _ u_116 H locs q_116 hP hD hS => ?_)
            refine W.eq (g2 := F0 m 119 ls []) rfl ?_
            refine lv_aload_n hx hb dX1_one_119 rfl (lv_at hl 3 rfl) ?_
            refine va_get (D := D) (ci := 1) (v := .int u_116.2.2.2.2.1) (C := RX1) (T := TX1) (N := 6) hx hb hts iw_X1_one hown hK hP 0 rfl rfl 4 (by decide) (hts (.fieldLink RX1 36 "WordMillModel" "fault" "I") (by decide +kernel)) (fun _ h9 => h9) rfl dX1_one_120 ?_
            refine lv_if_ne (tgt := 132) hx hb dX1_one_123 (by decide) (fun c_123 => ?_) (fun c_123 => ?_)
            · exact mm_vret (mw := rW h a cA) (u1 := (u_116.1, u_116.2.1, u_116.2.2.1, u_116.2.2.2.1, u_116.2.2.2.2.1, u_116.2.2.2.2.2)) hx hb hr hlocks hP hK hD hS dX1_one_132 ⟨q_116.1, (q_116.2.1.trans rfl), (q_116.2.2.trans rfl)⟩
            · refine lv_aload_n hx hb dX1_one_126 rfl (lv_at hl 3 rfl) ?_
              refine lv_iload hx hb dX1_one_127 (lv_at hl 0 rfl) ?_
              refine va_put (D := D) (ci := 1) (v := .int x_48) (ty := .int) (C := RX1) (T := TX1) (N := 6) hx hb hts iw_X1_one tyX1 tyX1_ok nmX1 hown hK hP hD hS 0 rfl rfl 2 (by decide) (hts (.fieldLink RX1 33 "WordMillModel" "pc" "I") (by decide +kernel)) (fun _ h9 => h9) rfl (by decide +kernel) rfl rfl (Nat.le_of_ble_eq_true rfl) dX1_one_129 (fun H locs hP hD hS => ?_)
              have hP : va_P D vwCl (rW h a cA (u_116.1, u_116.2.1, x_48, u_116.2.2.2.1, u_116.2.2.2.2.1, u_116.2.2.2.2.2)) H := hP
              have hD : va_D (wA h a) (rW h a cA (u_116.1, u_116.2.1, x_48, u_116.2.2.2.1, u_116.2.2.2.2.1, u_116.2.2.2.2.2)) := hD
              exact mm_vret (mw := rW h a cA) (u1 := (u_116.1, u_116.2.1, x_48, u_116.2.2.2.1, u_116.2.2.2.2.1, u_116.2.2.2.2.2)) hx hb hr hlocks hP hK hD hS dX1_one_132 ⟨(by rw [ex_48]; exact vp_and4095 _), (q_116.2.1.trans rfl), (q_116.2.2.trans rfl)⟩
          · refine lv_iload_n hx hb dX1_one_87 rfl (lv_at hl 4 rfl) ?_
            refine lv_sipush (v := 180) hx hb dX1_one_88 (by decide) ?_
            refine lv_icmp_gt (tgt := 110) hx hb dX1_one_91 (by decide) (fun c_91 => ?_) (fun c_91 => ?_)
            · refine lv_aload_n hx hb dX1_one_110 rfl (lv_at hl 3 rfl) ?_
              refine lv_iload_n hx hb dX1_one_111 rfl (lv_at hl 4 rfl) ?_
              refine lv_iload_n hx hb dX1_one_112 rfl (lv_at hl 5 rfl) ?_
              refine lv_lload_n hx hb dX1_one_113 rfl (lv_at hl 6 rfl) ?_
              refine lv_lload hx hb dX1_one_114 (lv_at hl 1 rfl) ?_
              refine r_go (rv := rv_v) (As := [.int op, .int ac, .long e0, .long 0]) (rest := []) ⟨hx, hb, hml, hown, hts⟩ (kX1_moved l D h a cA (u.1, u.2.1, u.2.2.1, u.2.2.2.1, u.2.2.2.2.1, u.2.2.2.2.2) hI op ac e0 0 hac (Or.inl (q_9 c_16))) (cwV 4 hts gX1_one_X1_moved rfl rfl rfl (by decide +kernel) ⟨by decide, by decide⟩) hK hP hD hS rfl hl.1 rfl (Nat.le_of_ble_eq_true rfl) dX1_one_116 ⟨Nat.zero_le _, Nat.zero_le _⟩ (fun _ u_116 H locs q_116 hP hD hS => ?_)
              refine W.eq (g2 := F0 m 119 ls []) rfl ?_
              refine lv_aload_n hx hb dX1_one_119 rfl (lv_at hl 3 rfl) ?_
              refine va_get (D := D) (ci := 1) (v := .int u_116.2.2.2.2.1) (C := RX1) (T := TX1) (N := 6) hx hb hts iw_X1_one hown hK hP 0 rfl rfl 4 (by decide) (hts (.fieldLink RX1 36 "WordMillModel" "fault" "I") (by decide +kernel)) (fun _ h9 => h9) rfl dX1_one_120 ?_
              refine lv_if_ne (tgt := 132) hx hb dX1_one_123 (by decide) (fun c_123 => ?_) (fun c_123 => ?_)
              · exact mm_vret (mw := rW h a cA) (u1 := (u_116.1, u_116.2.1, u_116.2.2.1, u_116.2.2.2.1, u_116.2.2.2.2.1, u_116.2.2.2.2.2)) hx hb hr hlocks hP hK hD hS dX1_one_132 ⟨q_116.1, (q_116.2.1.trans rfl), (q_116.2.2.trans rfl)⟩
              · refine lv_aload_n hx hb dX1_one_126 rfl (lv_at hl 3 rfl) ?_
                refine lv_iload hx hb dX1_one_127 (lv_at hl 0 rfl) ?_
                refine va_put (D := D) (ci := 1) (v := .int x_48) (ty := .int) (C := RX1) (T := TX1) (N := 6) hx hb hts iw_X1_one tyX1 tyX1_ok nmX1 hown hK hP hD hS 0 rfl rfl 2 (by decide) (hts (.fieldLink RX1 33 "WordMillModel" "pc" "I") (by decide +kernel)) (fun _ h9 => h9) rfl (by decide +kernel) rfl rfl (Nat.le_of_ble_eq_true rfl) dX1_one_129 (fun H locs hP hD hS => ?_)
                have hP : va_P D vwCl (rW h a cA (u_116.1, u_116.2.1, x_48, u_116.2.2.2.1, u_116.2.2.2.2.1, u_116.2.2.2.2.2)) H := hP
                have hD : va_D (wA h a) (rW h a cA (u_116.1, u_116.2.1, x_48, u_116.2.2.2.1, u_116.2.2.2.2.1, u_116.2.2.2.2.2)) := hD
                exact mm_vret (mw := rW h a cA) (u1 := (u_116.1, u_116.2.1, x_48, u_116.2.2.2.1, u_116.2.2.2.2.1, u_116.2.2.2.2.2)) hx hb hr hlocks hP hK hD hS dX1_one_132 ⟨(by rw [ex_48]; exact vp_and4095 _), (q_116.2.1.trans rfl), (q_116.2.2.trans rfl)⟩
            · refine lv_aload_n hx hb dX1_one_94 rfl (lv_at hl 3 rfl) ?_
              refine lv_iload_n hx hb dX1_one_95 rfl (lv_at hl 4 rfl) ?_
              refine lv_iload_n hx hb dX1_one_96 rfl (lv_at hl 5 rfl) ?_
              refine lv_lload_n hx hb dX1_one_97 rfl (lv_at hl 6 rfl) ?_
              refine lv_lload hx hb dX1_one_98 (lv_at hl 1 rfl) ?_
              refine lv_iload hx hb dX1_one_100 (lv_at hl 0 rfl) ?_
              refine r_go (rv := rv_i) (As := [.int op, .int ac, .long e0, .long 0, .int x_48]) (rest := []) ⟨hx, hb, hml, hown, hts⟩ (kX1_piled l D h a cA (u.1, u.2.1, u.2.2.1, u.2.2.2.1, u.2.2.2.2.1, u.2.2.2.2.2) hI op ac e0 0 x_48 ⟨c_84, c_91⟩ hac (Or.inl (q_9 c_16)) (by rw [ex_48]; exact vp_and4095 _)) (cwV 5 hts gX1_one_X1_piled rfl rfl rfl (by decide +kernel) ⟨by decide, by decide⟩) hK hP hD hS rfl hl.1 rfl (Nat.le_of_ble_eq_true rfl) dX1_one_102 ⟨Nat.zero_le _, Nat.zero_le _⟩ (fun r_102 u_102 H locs q_102 hP hD hS => ?_)
              refine W.eq (g2 := F0 m 105 ls (.int r_102 :: [])) rfl ?_
              refine lv_istore (lv' := [(8, .int r_102), (6, .long 0), (5, .int r_9), (0, .ref h), (1, .int op), (2, .int ac), (3, .long e0)]) hx hb dX1_one_105 hl (by decide) rfl (fun ls hl => ?_)
              refine lv_goto (tgt := 119) hx hb dX1_one_107 (by decide) ?_
              refine lv_aload_n hx hb dX1_one_119 rfl (lv_at hl 3 rfl) ?_
              refine va_get (D := D) (ci := 1) (v := .int u_102.2.2.2.2.1) (C := RX1) (T := TX1) (N := 6) hx hb hts iw_X1_one hown hK hP 0 rfl rfl 4 (by decide) (hts (.fieldLink RX1 36 "WordMillModel" "fault" "I") (by decide +kernel)) (fun _ h9 => h9) rfl dX1_one_120 ?_
              refine lv_if_ne (tgt := 132) hx hb dX1_one_123 (by decide) (fun c_123 => ?_) (fun c_123 => ?_)
              · exact mm_vret (mw := rW h a cA) (u1 := (u_102.1, u_102.2.1, u_102.2.2.1, u_102.2.2.2.1, u_102.2.2.2.2.1, u_102.2.2.2.2.2)) hx hb hr hlocks hP hK hD hS dX1_one_132 ⟨q_102.1.1, (q_102.1.2.1.trans rfl), (q_102.1.2.2.trans rfl)⟩
              · refine lv_aload_n hx hb dX1_one_126 rfl (lv_at hl 3 rfl) ?_
                refine lv_iload hx hb dX1_one_127 (lv_at hl 0 rfl) ?_
                refine va_put (D := D) (ci := 1) (v := .int r_102) (ty := .int) (C := RX1) (T := TX1) (N := 6) hx hb hts iw_X1_one tyX1 tyX1_ok nmX1 hown hK hP hD hS 0 rfl rfl 2 (by decide) (hts (.fieldLink RX1 33 "WordMillModel" "pc" "I") (by decide +kernel)) (fun _ h9 => h9) rfl (by decide +kernel) rfl rfl (Nat.le_of_ble_eq_true rfl) dX1_one_129 (fun H locs hP hD hS => ?_)
                have hP : va_P D vwCl (rW h a cA (u_102.1, u_102.2.1, r_102, u_102.2.2.2.1, u_102.2.2.2.2.1, u_102.2.2.2.2.2)) H := hP
                have hD : va_D (wA h a) (rW h a cA (u_102.1, u_102.2.1, r_102, u_102.2.2.2.1, u_102.2.2.2.2.1, u_102.2.2.2.2.2)) := hD
                exact mm_vret (mw := rW h a cA) (u1 := (u_102.1, u_102.2.1, r_102, u_102.2.2.2.1, u_102.2.2.2.2.1, u_102.2.2.2.2.2)) hx hb hr hlocks hP hK hD hS dX1_one_132 ⟨q_102.2, (q_102.1.2.1.trans rfl), (q_102.1.2.2.trans rfl)⟩
        · refine lv_iload_n hx hb dX1_one_57 rfl (lv_at hl 4 rfl) ?_
          refine lv_sipush (v := 255) hx hb dX1_one_58 (by decide) ?_
          refine lv_icmp_gt (tgt := 80) hx hb dX1_one_61 (by decide) (fun c_61 => ?_) (fun c_61 => ?_)
          · refine lv_iload_n hx hb dX1_one_80 rfl (lv_at hl 4 rfl) ?_
            refine lv_sipush (v := 172) hx hb dX1_one_81 (by decide) ?_
            refine lv_icmp_lt (tgt := 110) hx hb dX1_one_84 (by decide) (fun c_84 => ?_) (fun c_84 => ?_)
            · refine lv_aload_n hx hb dX1_one_110 rfl (lv_at hl 3 rfl) ?_
              refine lv_iload_n hx hb dX1_one_111 rfl (lv_at hl 4 rfl) ?_
              refine lv_iload_n hx hb dX1_one_112 rfl (lv_at hl 5 rfl) ?_
              refine lv_lload_n hx hb dX1_one_113 rfl (lv_at hl 6 rfl) ?_
              refine lv_lload hx hb dX1_one_114 (lv_at hl 1 rfl) ?_
              refine r_go (rv := rv_v) (As := [.int op, .int ac, .long e0, .long 0]) (rest := []) ⟨hx, hb, hml, hown, hts⟩ (kX1_moved l D h a cA (u.1, u.2.1, u.2.2.1, u.2.2.2.1, u.2.2.2.2.1, u.2.2.2.2.2) hI op ac e0 0 hac (Or.inl (q_9 c_16))) (cwV 4 hts gX1_one_X1_moved rfl rfl rfl (by decide +kernel) ⟨by decide, by decide⟩) hK hP hD hS rfl hl.1 rfl (Nat.le_of_ble_eq_true rfl) dX1_one_116 ⟨Nat.zero_le _, Nat.zero_le _⟩ (fun _ u_116 H locs q_116 hP hD hS => ?_)
              refine W.eq (g2 := F0 m 119 ls []) rfl ?_
              refine lv_aload_n hx hb dX1_one_119 rfl (lv_at hl 3 rfl) ?_
              refine va_get (D := D) (ci := 1) (v := .int u_116.2.2.2.2.1) (C := RX1) (T := TX1) (N := 6) hx hb hts iw_X1_one hown hK hP 0 rfl rfl 4 (by decide) (hts (.fieldLink RX1 36 "WordMillModel" "fault" "I") (by decide +kernel)) (fun _ h9 => h9) rfl dX1_one_120 ?_
              refine lv_if_ne (tgt := 132) hx hb dX1_one_123 (by decide) (fun c_123 => ?_) (fun c_123 => ?_)
              · exact mm_vret (mw := rW h a cA) (u1 := (u_116.1, u_116.2.1, u_116.2.2.1, u_116.2.2.2.1, u_116.2.2.2.2.1, u_116.2.2.2.2.2)) hx hb hr hlocks hP hK hD hS dX1_one_132 ⟨q_116.1, (q_116.2.1.trans rfl), (q_116.2.2.trans rfl)⟩
              · refine lv_aload_n hx hb dX1_one_126 rfl (lv_at hl 3 rfl) ?_
                refine lv_iload hx hb dX1_one_127 (lv_at hl 0 rfl) ?_
                refine va_put (D := D) (ci := 1) (v := .int x_48) (ty := .int) (C := RX1) (T := TX1) (N := 6) hx hb hts iw_X1_one tyX1 tyX1_ok nmX1 hown hK hP hD hS 0 rfl rfl 2 (by decide) (hts (.fieldLink RX1 33 "WordMillModel" "pc" "I") (by decide +kernel)) (fun _ h9 => h9) rfl (by decide +kernel) rfl rfl (Nat.le_of_ble_eq_true rfl) dX1_one_129 (fun H locs hP hD hS => ?_)
                have hP : va_P D vwCl (rW h a cA (u_116.1, u_116.2.1, x_48, u_116.2.2.2.1, u_116.2.2.2.2.1, u_116.2.2.2.2.2)) H := hP
                have hD : va_D (wA h a) (rW h a cA (u_116.1, u_116.2.1, x_48, u_116.2.2.2.1, u_116.2.2.2.2.1, u_116.2.2.2.2.2)) := hD
                exact mm_vret (mw := rW h a cA) (u1 := (u_116.1, u_116.2.1, x_48, u_116.2.2.2.1, u_116.2.2.2.2.1, u_116.2.2.2.2.2)) hx hb hr hlocks hP hK hD hS dX1_one_132 ⟨(by rw [ex_48]; exact vp_and4095 _), (q_116.2.1.trans rfl), (q_116.2.2.trans rfl)⟩
            · refine lv_iload_n hx hb dX1_one_87 rfl (lv_at hl 4 rfl) ?_
              refine lv_sipush (v := 180) hx hb dX1_one_88 (by decide) ?_
              refine lv_icmp_gt (tgt := 110) hx hb dX1_one_91 (by decide) (fun c_91 => ?_) (fun c_91 => ?_)
              · refine lv_aload_n hx hb dX1_one_110 rfl (lv_at hl 3 rfl) ?_
                refine lv_iload_n hx hb dX1_one_111 rfl (lv_at hl 4 rfl) ?_
                refine lv_iload_n hx hb dX1_one_112 rfl (lv_at hl 5 rfl) ?_
                refine lv_lload_n hx hb dX1_one_113 rfl (lv_at hl 6 rfl) ?_
                refine lv_lload hx hb dX1_one_114 (lv_at hl 1 rfl) ?_
                refine r_go (rv := rv_v) (As := [.int op, .int ac, .long e0, .long 0]) (rest := []) ⟨hx, hb, hml, hown, hts⟩ (kX1_moved l D h a cA (u.1, u.2.1, u.2.2.1, u.2.2.2.1, u.2.2.2.2.1, u.2.2.2.2.2) hI op ac e0 0 hac (Or.inl (q_9 c_16))) (cwV 4 hts gX1_one_X1_moved rfl rfl rfl (by decide +kernel) ⟨by decide, by decide⟩) hK hP hD hS rfl hl.1 rfl (Nat.le_of_ble_eq_true rfl) dX1_one_116 ⟨Nat.zero_le _, Nat.zero_le _⟩ (fun _ u_116 H locs q_116 hP hD hS => ?_)
                refine W.eq (g2 := F0 m 119 ls []) rfl ?_
                refine lv_aload_n hx hb dX1_one_119 rfl (lv_at hl 3 rfl) ?_
                refine va_get (D := D) (ci := 1) (v := .int u_116.2.2.2.2.1) (C := RX1) (T := TX1) (N := 6) hx hb hts iw_X1_one hown hK hP 0 rfl rfl 4 (by decide) (hts (.fieldLink RX1 36 "WordMillModel" "fault" "I") (by decide +kernel)) (fun _ h9 => h9) rfl dX1_one_120 ?_
                refine lv_if_ne (tgt := 132) hx hb dX1_one_123 (by decide) (fun c_123 => ?_) (fun c_123 => ?_)
                · exact mm_vret (mw := rW h a cA) (u1 := (u_116.1, u_116.2.1, u_116.2.2.1, u_116.2.2.2.1, u_116.2.2.2.2.1, u_116.2.2.2.2.2)) hx hb hr hlocks hP hK hD hS dX1_one_132 ⟨q_116.1, (q_116.2.1.trans rfl), (q_116.2.2.trans rfl)⟩
                · refine lv_aload_n hx hb dX1_one_126 rfl (lv_at hl 3 rfl) ?_
                  refine lv_iload hx hb dX1_one_127 (lv_at hl 0 rfl) ?_
                  refine va_put (D := D) (ci := 1) (v := .int x_48) (ty := .int) (C := RX1) (T := TX1) (N := 6) hx hb hts iw_X1_one tyX1 tyX1_ok nmX1 hown hK hP hD hS 0 rfl rfl 2 (by decide) (hts (.fieldLink RX1 33 "WordMillModel" "pc" "I") (by decide +kernel)) (fun _ h9 => h9) rfl (by decide +kernel) rfl rfl (Nat.le_of_ble_eq_true rfl) dX1_one_129 (fun H locs hP hD hS => ?_)
                  have hP : va_P D vwCl (rW h a cA (u_116.1, u_116.2.1, x_48, u_116.2.2.2.1, u_116.2.2.2.2.1, u_116.2.2.2.2.2)) H := hP
                  have hD : va_D (wA h a) (rW h a cA (u_116.1, u_116.2.1, x_48, u_116.2.2.2.1, u_116.2.2.2.2.1, u_116.2.2.2.2.2)) := hD
                  exact mm_vret (mw := rW h a cA) (u1 := (u_116.1, u_116.2.1, x_48, u_116.2.2.2.1, u_116.2.2.2.2.1, u_116.2.2.2.2.2)) hx hb hr hlocks hP hK hD hS dX1_one_132 ⟨(by rw [ex_48]; exact vp_and4095 _), (q_116.2.1.trans rfl), (q_116.2.2.trans rfl)⟩
              · refine lv_aload_n hx hb dX1_one_94 rfl (lv_at hl 3 rfl) ?_
                refine lv_iload_n hx hb dX1_one_95 rfl (lv_at hl 4 rfl) ?_
                refine lv_iload_n hx hb dX1_one_96 rfl (lv_at hl 5 rfl) ?_
                refine lv_lload_n hx hb dX1_one_97 rfl (lv_at hl 6 rfl) ?_
                refine lv_lload hx hb dX1_one_98 (lv_at hl 1 rfl) ?_
                refine lv_iload hx hb dX1_one_100 (lv_at hl 0 rfl) ?_
                refine r_go (rv := rv_i) (As := [.int op, .int ac, .long e0, .long 0, .int x_48]) (rest := []) ⟨hx, hb, hml, hown, hts⟩ (kX1_piled l D h a cA (u.1, u.2.1, u.2.2.1, u.2.2.2.1, u.2.2.2.2.1, u.2.2.2.2.2) hI op ac e0 0 x_48 ⟨c_84, c_91⟩ hac (Or.inl (q_9 c_16)) (by rw [ex_48]; exact vp_and4095 _)) (cwV 5 hts gX1_one_X1_piled rfl rfl rfl (by decide +kernel) ⟨by decide, by decide⟩) hK hP hD hS rfl hl.1 rfl (Nat.le_of_ble_eq_true rfl) dX1_one_102 ⟨Nat.zero_le _, Nat.zero_le _⟩ (fun r_102 u_102 H locs q_102 hP hD hS => ?_)
                refine W.eq (g2 := F0 m 105 ls (.int r_102 :: [])) rfl ?_
                refine lv_istore (lv' := [(8, .int r_102), (6, .long 0), (5, .int r_9), (0, .ref h), (1, .int op), (2, .int ac), (3, .long e0)]) hx hb dX1_one_105 hl (by decide) rfl (fun ls hl => ?_)
                refine lv_goto (tgt := 119) hx hb dX1_one_107 (by decide) ?_
                refine lv_aload_n hx hb dX1_one_119 rfl (lv_at hl 3 rfl) ?_
                refine va_get (D := D) (ci := 1) (v := .int u_102.2.2.2.2.1) (C := RX1) (T := TX1) (N := 6) hx hb hts iw_X1_one hown hK hP 0 rfl rfl 4 (by decide) (hts (.fieldLink RX1 36 "WordMillModel" "fault" "I") (by decide +kernel)) (fun _ h9 => h9) rfl dX1_one_120 ?_
                refine lv_if_ne (tgt := 132) hx hb dX1_one_123 (by decide) (fun c_123 => ?_) (fun c_123 => ?_)
                · exact mm_vret (mw := rW h a cA) (u1 := (u_102.1, u_102.2.1, u_102.2.2.1, u_102.2.2.2.1, u_102.2.2.2.2.1, u_102.2.2.2.2.2)) hx hb hr hlocks hP hK hD hS dX1_one_132 ⟨q_102.1.1, (q_102.1.2.1.trans rfl), (q_102.1.2.2.trans rfl)⟩
                · refine lv_aload_n hx hb dX1_one_126 rfl (lv_at hl 3 rfl) ?_
                  refine lv_iload hx hb dX1_one_127 (lv_at hl 0 rfl) ?_
                  refine va_put (D := D) (ci := 1) (v := .int r_102) (ty := .int) (C := RX1) (T := TX1) (N := 6) hx hb hts iw_X1_one tyX1 tyX1_ok nmX1 hown hK hP hD hS 0 rfl rfl 2 (by decide) (hts (.fieldLink RX1 33 "WordMillModel" "pc" "I") (by decide +kernel)) (fun _ h9 => h9) rfl (by decide +kernel) rfl rfl (Nat.le_of_ble_eq_true rfl) dX1_one_129 (fun H locs hP hD hS => ?_)
                  have hP : va_P D vwCl (rW h a cA (u_102.1, u_102.2.1, r_102, u_102.2.2.2.1, u_102.2.2.2.2.1, u_102.2.2.2.2.2)) H := hP
                  have hD : va_D (wA h a) (rW h a cA (u_102.1, u_102.2.1, r_102, u_102.2.2.2.1, u_102.2.2.2.2.1, u_102.2.2.2.2.2)) := hD
                  exact mm_vret (mw := rW h a cA) (u1 := (u_102.1, u_102.2.1, r_102, u_102.2.2.2.1, u_102.2.2.2.2.1, u_102.2.2.2.2.2)) hx hb hr hlocks hP hK hD hS dX1_one_132 ⟨q_102.2, (q_102.1.2.1.trans rfl), (q_102.1.2.2.trans rfl)⟩
          · refine lv_aload_n hx hb dX1_one_64 rfl (lv_at hl 3 rfl) ?_
            refine lv_iload_n hx hb dX1_one_65 rfl (lv_at hl 4 rfl) ?_
            refine lv_iload_n hx hb dX1_one_66 rfl (lv_at hl 5 rfl) ?_
            refine lv_lload_n hx hb dX1_one_67 rfl (lv_at hl 6 rfl) ?_
            refine lv_lload hx hb dX1_one_68 (lv_at hl 1 rfl) ?_
            refine lv_iload hx hb dX1_one_70 (lv_at hl 0 rfl) ?_
            refine r_go (rv := rv_i) (As := [.int op, .int ac, .long e0, .long 0, .int x_48]) (rest := []) ⟨hx, hb, hml, hown, hts⟩ (kX1_tested l D h a cA (u.1, u.2.1, u.2.2.1, u.2.2.2.1, u.2.2.2.2.1, u.2.2.2.2.2) hI op ac e0 0 x_48 ⟨c_54, c_61⟩ hac (Or.inl (q_9 c_16)) (by rw [ex_48]; exact vp_and4095 _)) (cwV 5 hts gX1_one_X1_tested rfl rfl rfl (by decide +kernel) ⟨by decide, by decide⟩) hK hP hD hS rfl hl.1 rfl (Nat.le_of_ble_eq_true rfl) dX1_one_72 ⟨Nat.zero_le _, Nat.zero_le _⟩ (fun r_72 u_72 H locs q_72 hP hD hS => ?_)
            refine W.eq (g2 := F0 m 75 ls (.int r_72 :: [])) rfl ?_
            refine lv_istore (lv' := [(8, .int r_72), (6, .long 0), (5, .int r_9), (0, .ref h), (1, .int op), (2, .int ac), (3, .long e0)]) hx hb dX1_one_75 hl (by decide) rfl (fun ls hl => ?_)
            refine lv_goto (tgt := 119) hx hb dX1_one_77 (by decide) ?_
            refine lv_aload_n hx hb dX1_one_119 rfl (lv_at hl 3 rfl) ?_
            refine va_get (D := D) (ci := 1) (v := .int u_72.2.2.2.2.1) (C := RX1) (T := TX1) (N := 6) hx hb hts iw_X1_one hown hK hP 0 rfl rfl 4 (by decide) (hts (.fieldLink RX1 36 "WordMillModel" "fault" "I") (by decide +kernel)) (fun _ h9 => h9) rfl dX1_one_120 ?_
            refine lv_if_ne (tgt := 132) hx hb dX1_one_123 (by decide) (fun c_123 => ?_) (fun c_123 => ?_)
            · exact mm_vret (mw := rW h a cA) (u1 := (u_72.1, u_72.2.1, u_72.2.2.1, u_72.2.2.2.1, u_72.2.2.2.2.1, u_72.2.2.2.2.2)) hx hb hr hlocks hP hK hD hS dX1_one_132 ⟨q_72.1.1, (q_72.1.2.1.trans rfl), (q_72.1.2.2.trans rfl)⟩
            · refine lv_aload_n hx hb dX1_one_126 rfl (lv_at hl 3 rfl) ?_
              refine lv_iload hx hb dX1_one_127 (lv_at hl 0 rfl) ?_
              refine va_put (D := D) (ci := 1) (v := .int r_72) (ty := .int) (C := RX1) (T := TX1) (N := 6) hx hb hts iw_X1_one tyX1 tyX1_ok nmX1 hown hK hP hD hS 0 rfl rfl 2 (by decide) (hts (.fieldLink RX1 33 "WordMillModel" "pc" "I") (by decide +kernel)) (fun _ h9 => h9) rfl (by decide +kernel) rfl rfl (Nat.le_of_ble_eq_true rfl) dX1_one_129 (fun H locs hP hD hS => ?_)
              have hP : va_P D vwCl (rW h a cA (u_72.1, u_72.2.1, r_72, u_72.2.2.2.1, u_72.2.2.2.2.1, u_72.2.2.2.2.2)) H := hP
              have hD : va_D (wA h a) (rW h a cA (u_72.1, u_72.2.1, r_72, u_72.2.2.2.1, u_72.2.2.2.2.1, u_72.2.2.2.2.2)) := hD
              exact mm_vret (mw := rW h a cA) (u1 := (u_72.1, u_72.2.1, r_72, u_72.2.2.2.1, u_72.2.2.2.2.1, u_72.2.2.2.2.2)) hx hb hr hlocks hP hK hD hS dX1_one_132 ⟨q_72.2, (q_72.1.2.1.trans rfl), (q_72.1.2.2.trans rfl)⟩
      · exact mm_vret (mw := rW h a cA) (u1 := (u.1, u.2.1, u.2.2.1, u.2.2.2.1, u.2.2.2.2.1, u.2.2.2.2.2)) hx hb hr hlocks hP hK hD hS dX1_one_37 ⟨hI, rfl, rfl⟩
    · refine lv_aload_n hx hb dX1_one_19 rfl (lv_at hl 1 rfl) ?_
      refine lv_lload_n hx hb dX1_one_20 rfl (lv_at hl 4 rfl) ?_
      refine r_go (rv := rv_l) (As := [.long e0]) (rest := []) ⟨hx, hb, hml, hown, hts⟩ (kX1_at l D h a cA (u.1, u.2.1, u.2.2.1, u.2.2.2.1, u.2.2.2.2.1, u.2.2.2.2.2) hI e0 ) (cwV 1 hts gX1_one_X1_at rfl rfl rfl (by decide +kernel) ⟨by decide, by decide⟩) hK hP hD hS rfl hl.1 rfl (Nat.le_of_ble_eq_true rfl) dX1_one_21 ⟨Nat.zero_le _, Nat.zero_le _⟩ (fun r_21 u_21 H locs q_21 hP hD hS => ?_)
      refine W.eq (g2 := F0 m 24 ls (.long r_21 :: [])) rfl ?_
      refine lv_goto (tgt := 28) hx hb dX1_one_24 (by decide) ?_
      refine lv_lstore (lv' := [(6, .long r_21), (5, .int r_9), (0, .ref h), (1, .int op), (2, .int ac), (3, .long e0)]) hx hb dX1_one_28 hl (by decide) rfl (fun ls hl => ?_)
      refine lv_aload_n hx hb dX1_one_30 rfl (lv_at hl 2 rfl) ?_
      refine va_get (D := D) (ci := 1) (v := .int u_21.2.2.2.2.1) (C := RX1) (T := TX1) (N := 6) hx hb hts iw_X1_one hown hK hP 0 rfl rfl 4 (by decide) (hts (.fieldLink RX1 36 "WordMillModel" "fault" "I") (by decide +kernel)) (fun _ h9 => h9) rfl dX1_one_31 ?_
      refine lv_if_eq (tgt := 38) hx hb dX1_one_34 (by decide) (fun c_34 => ?_) (fun c_34 => ?_)
      · refine lv_aload_n hx hb dX1_one_38 rfl (lv_at hl 2 rfl) ?_
        refine va_get (D := D) (ci := 1) (v := .int u_21.2.2.1) (C := RX1) (T := TX1) (N := 6) hx hb hts iw_X1_one hown hK hP 0 rfl rfl 2 (by decide) (hts (.fieldLink RX1 33 "WordMillModel" "pc" "I") (by decide +kernel)) (fun _ h9 => h9) rfl dX1_one_39 ?_
        refine lv_iconst (v := 1) hx hb dX1_one_42 (by decide) ?_
        refine lv_iadd hx hb dX1_one_43 ?_
        refine lv_sipush (v := 4095) hx hb dX1_one_44 (by decide) ?_
        refine lv_iand hx hb dX1_one_47 ?_
        refine lv_topi (fun x_48 ex_48 => ?_)
        refine lv_istore (lv' := [(8, .int x_48), (6, .long r_21), (5, .int r_9), (0, .ref h), (1, .int op), (2, .int ac), (3, .long e0)]) hx hb dX1_one_48 hl (by decide) rfl (fun ls hl => ?_)
        refine lv_iload_n hx hb dX1_one_50 rfl (lv_at hl 4 rfl) ?_
        refine lv_sipush (v := 192) hx hb dX1_one_51 (by decide) ?_
        refine lv_icmp_lt (tgt := 80) hx hb dX1_one_54 (by decide) (fun c_54 => ?_) (fun c_54 => ?_)
        · refine lv_iload_n hx hb dX1_one_80 rfl (lv_at hl 4 rfl) ?_
          refine lv_sipush (v := 172) hx hb dX1_one_81 (by decide) ?_
          refine lv_icmp_lt (tgt := 110) hx hb dX1_one_84 (by decide) (fun c_84 => ?_) (fun c_84 => ?_)
          · refine lv_aload_n hx hb dX1_one_110 rfl (lv_at hl 3 rfl) ?_
            refine lv_iload_n hx hb dX1_one_111 rfl (lv_at hl 4 rfl) ?_
            refine lv_iload_n hx hb dX1_one_112 rfl (lv_at hl 5 rfl) ?_
            refine lv_lload_n hx hb dX1_one_113 rfl (lv_at hl 6 rfl) ?_
            refine lv_lload hx hb dX1_one_114 (lv_at hl 1 rfl) ?_
            refine r_go (rv := rv_v) (As := [.int op, .int ac, .long e0, .long r_21]) (rest := []) ⟨hx, hb, hml, hown, hts⟩ (kX1_moved l D h a cA (u_21.1, u_21.2.1, u_21.2.2.1, u_21.2.2.2.1, u_21.2.2.2.2.1, u_21.2.2.2.2.2) q_21.1.1 op ac e0 r_21 hac (Or.inr (q_21.2 c_34))) (cwV 4 hts gX1_one_X1_moved rfl rfl rfl (by decide +kernel) ⟨by decide, by decide⟩) hK hP hD hS rfl hl.1 rfl (Nat.le_of_ble_eq_true rfl) dX1_one_116 ⟨Nat.zero_le _, Nat.zero_le _⟩ (fun _ u_116 H locs q_116 hP hD hS => ?_)
            refine W.eq (g2 := F0 m 119 ls []) rfl ?_
            refine lv_aload_n hx hb dX1_one_119 rfl (lv_at hl 3 rfl) ?_
            refine va_get (D := D) (ci := 1) (v := .int u_116.2.2.2.2.1) (C := RX1) (T := TX1) (N := 6) hx hb hts iw_X1_one hown hK hP 0 rfl rfl 4 (by decide) (hts (.fieldLink RX1 36 "WordMillModel" "fault" "I") (by decide +kernel)) (fun _ h9 => h9) rfl dX1_one_120 ?_
            refine lv_if_ne (tgt := 132) hx hb dX1_one_123 (by decide) (fun c_123 => ?_) (fun c_123 => ?_)
            · exact mm_vret (mw := rW h a cA) (u1 := (u_116.1, u_116.2.1, u_116.2.2.1, u_116.2.2.2.1, u_116.2.2.2.2.1, u_116.2.2.2.2.2)) hx hb hr hlocks hP hK hD hS dX1_one_132 ⟨q_116.1, (q_116.2.1.trans (q_21.1.2.1.trans rfl)), (q_116.2.2.trans (q_21.1.2.2.trans rfl))⟩
            · refine lv_aload_n hx hb dX1_one_126 rfl (lv_at hl 3 rfl) ?_
              refine lv_iload hx hb dX1_one_127 (lv_at hl 0 rfl) ?_
              refine va_put (D := D) (ci := 1) (v := .int x_48) (ty := .int) (C := RX1) (T := TX1) (N := 6) hx hb hts iw_X1_one tyX1 tyX1_ok nmX1 hown hK hP hD hS 0 rfl rfl 2 (by decide) (hts (.fieldLink RX1 33 "WordMillModel" "pc" "I") (by decide +kernel)) (fun _ h9 => h9) rfl (by decide +kernel) rfl rfl (Nat.le_of_ble_eq_true rfl) dX1_one_129 (fun H locs hP hD hS => ?_)
              have hP : va_P D vwCl (rW h a cA (u_116.1, u_116.2.1, x_48, u_116.2.2.2.1, u_116.2.2.2.2.1, u_116.2.2.2.2.2)) H := hP
              have hD : va_D (wA h a) (rW h a cA (u_116.1, u_116.2.1, x_48, u_116.2.2.2.1, u_116.2.2.2.2.1, u_116.2.2.2.2.2)) := hD
              exact mm_vret (mw := rW h a cA) (u1 := (u_116.1, u_116.2.1, x_48, u_116.2.2.2.1, u_116.2.2.2.2.1, u_116.2.2.2.2.2)) hx hb hr hlocks hP hK hD hS dX1_one_132 ⟨(by rw [ex_48]; exact vp_and4095 _), (q_116.2.1.trans (q_21.1.2.1.trans rfl)), (q_116.2.2.trans (q_21.1.2.2.trans rfl))⟩
          · refine lv_iload_n hx hb dX1_one_87 rfl (lv_at hl 4 rfl) ?_
            refine lv_sipush (v := 180) hx hb dX1_one_88 (by decide) ?_
            refine lv_icmp_gt (tgt := 110) hx hb dX1_one_91 (by decide) (fun c_91 => ?_) (fun c_91 => ?_)
            · refine lv_aload_n hx hb dX1_one_110 rfl (lv_at hl 3 rfl) ?_
              refine lv_iload_n hx hb dX1_one_111 rfl (lv_at hl 4 rfl) ?_
              refine lv_iload_n hx hb dX1_one_112 rfl (lv_at hl 5 rfl) ?_
              refine lv_lload_n hx hb dX1_one_113 rfl (lv_at hl 6 rfl) ?_
              refine lv_lload hx hb dX1_one_114 (lv_at hl 1 rfl) ?_
              refine r_go (rv := rv_v) (As := [.int op, .int ac, .long e0, .long r_21]) (rest := []) ⟨hx, hb, hml, hown, hts⟩ (kX1_moved l D h a cA (u_21.1, u_21.2.1, u_21.2.2.1, u_21.2.2.2.1, u_21.2.2.2.2.1, u_21.2.2.2.2.2) q_21.1.1 op ac e0 r_21 hac (Or.inr (q_21.2 c_34))) (cwV 4 hts gX1_one_X1_moved rfl rfl rfl (by decide +kernel) ⟨by decide, by decide⟩) hK hP hD hS rfl hl.1 rfl (Nat.le_of_ble_eq_true rfl) dX1_one_116 ⟨Nat.zero_le _, Nat.zero_le _⟩ (fun _ u_116 H locs q_116 hP hD hS => ?_)
              refine W.eq (g2 := F0 m 119 ls []) rfl ?_
              refine lv_aload_n hx hb dX1_one_119 rfl (lv_at hl 3 rfl) ?_
              refine va_get (D := D) (ci := 1) (v := .int u_116.2.2.2.2.1) (C := RX1) (T := TX1) (N := 6) hx hb hts iw_X1_one hown hK hP 0 rfl rfl 4 (by decide) (hts (.fieldLink RX1 36 "WordMillModel" "fault" "I") (by decide +kernel)) (fun _ h9 => h9) rfl dX1_one_120 ?_
              refine lv_if_ne (tgt := 132) hx hb dX1_one_123 (by decide) (fun c_123 => ?_) (fun c_123 => ?_)
              · exact mm_vret (mw := rW h a cA) (u1 := (u_116.1, u_116.2.1, u_116.2.2.1, u_116.2.2.2.1, u_116.2.2.2.2.1, u_116.2.2.2.2.2)) hx hb hr hlocks hP hK hD hS dX1_one_132 ⟨q_116.1, (q_116.2.1.trans (q_21.1.2.1.trans rfl)), (q_116.2.2.trans (q_21.1.2.2.trans rfl))⟩
              · refine lv_aload_n hx hb dX1_one_126 rfl (lv_at hl 3 rfl) ?_
                refine lv_iload hx hb dX1_one_127 (lv_at hl 0 rfl) ?_
                refine va_put (D := D) (ci := 1) (v := .int x_48) (ty := .int) (C := RX1) (T := TX1) (N := 6) hx hb hts iw_X1_one tyX1 tyX1_ok nmX1 hown hK hP hD hS 0 rfl rfl 2 (by decide) (hts (.fieldLink RX1 33 "WordMillModel" "pc" "I") (by decide +kernel)) (fun _ h9 => h9) rfl (by decide +kernel) rfl rfl (Nat.le_of_ble_eq_true rfl) dX1_one_129 (fun H locs hP hD hS => ?_)
                have hP : va_P D vwCl (rW h a cA (u_116.1, u_116.2.1, x_48, u_116.2.2.2.1, u_116.2.2.2.2.1, u_116.2.2.2.2.2)) H := hP
                have hD : va_D (wA h a) (rW h a cA (u_116.1, u_116.2.1, x_48, u_116.2.2.2.1, u_116.2.2.2.2.1, u_116.2.2.2.2.2)) := hD
                exact mm_vret (mw := rW h a cA) (u1 := (u_116.1, u_116.2.1, x_48, u_116.2.2.2.1, u_116.2.2.2.2.1, u_116.2.2.2.2.2)) hx hb hr hlocks hP hK hD hS dX1_one_132 ⟨(by rw [ex_48]; exact vp_and4095 _), (q_116.2.1.trans (q_21.1.2.1.trans rfl)), (q_116.2.2.trans (q_21.1.2.2.trans rfl))⟩
            · refine lv_aload_n hx hb dX1_one_94 rfl (lv_at hl 3 rfl) ?_
              refine lv_iload_n hx hb dX1_one_95 rfl (lv_at hl 4 rfl) ?_
              refine lv_iload_n hx hb dX1_one_96 rfl (lv_at hl 5 rfl) ?_
              refine lv_lload_n hx hb dX1_one_97 rfl (lv_at hl 6 rfl) ?_
              refine lv_lload hx hb dX1_one_98 (lv_at hl 1 rfl) ?_
              refine lv_iload hx hb dX1_one_100 (lv_at hl 0 rfl) ?_
              refine r_go (rv := rv_i) (As := [.int op, .int ac, .long e0, .long r_21, .int x_48]) (rest := []) ⟨hx, hb, hml, hown, hts⟩ (kX1_piled l D h a cA (u_21.1, u_21.2.1, u_21.2.2.1, u_21.2.2.2.1, u_21.2.2.2.2.1, u_21.2.2.2.2.2) q_21.1.1 op ac e0 r_21 x_48 ⟨c_84, c_91⟩ hac (Or.inr (q_21.2 c_34)) (by rw [ex_48]; exact vp_and4095 _)) (cwV 5 hts gX1_one_X1_piled rfl rfl rfl (by decide +kernel) ⟨by decide, by decide⟩) hK hP hD hS rfl hl.1 rfl (Nat.le_of_ble_eq_true rfl) dX1_one_102 ⟨Nat.zero_le _, Nat.zero_le _⟩ (fun r_102 u_102 H locs q_102 hP hD hS => ?_)
              refine W.eq (g2 := F0 m 105 ls (.int r_102 :: [])) rfl ?_
              refine lv_istore (lv' := [(8, .int r_102), (6, .long r_21), (5, .int r_9), (0, .ref h), (1, .int op), (2, .int ac), (3, .long e0)]) hx hb dX1_one_105 hl (by decide) rfl (fun ls hl => ?_)
              refine lv_goto (tgt := 119) hx hb dX1_one_107 (by decide) ?_
              refine lv_aload_n hx hb dX1_one_119 rfl (lv_at hl 3 rfl) ?_
              refine va_get (D := D) (ci := 1) (v := .int u_102.2.2.2.2.1) (C := RX1) (T := TX1) (N := 6) hx hb hts iw_X1_one hown hK hP 0 rfl rfl 4 (by decide) (hts (.fieldLink RX1 36 "WordMillModel" "fault" "I") (by decide +kernel)) (fun _ h9 => h9) rfl dX1_one_120 ?_
              refine lv_if_ne (tgt := 132) hx hb dX1_one_123 (by decide) (fun c_123 => ?_) (fun c_123 => ?_)
              · exact mm_vret (mw := rW h a cA) (u1 := (u_102.1, u_102.2.1, u_102.2.2.1, u_102.2.2.2.1, u_102.2.2.2.2.1, u_102.2.2.2.2.2)) hx hb hr hlocks hP hK hD hS dX1_one_132 ⟨q_102.1.1, (q_102.1.2.1.trans (q_21.1.2.1.trans rfl)), (q_102.1.2.2.trans (q_21.1.2.2.trans rfl))⟩
              · refine lv_aload_n hx hb dX1_one_126 rfl (lv_at hl 3 rfl) ?_
                refine lv_iload hx hb dX1_one_127 (lv_at hl 0 rfl) ?_
                refine va_put (D := D) (ci := 1) (v := .int r_102) (ty := .int) (C := RX1) (T := TX1) (N := 6) hx hb hts iw_X1_one tyX1 tyX1_ok nmX1 hown hK hP hD hS 0 rfl rfl 2 (by decide) (hts (.fieldLink RX1 33 "WordMillModel" "pc" "I") (by decide +kernel)) (fun _ h9 => h9) rfl (by decide +kernel) rfl rfl (Nat.le_of_ble_eq_true rfl) dX1_one_129 (fun H locs hP hD hS => ?_)
                have hP : va_P D vwCl (rW h a cA (u_102.1, u_102.2.1, r_102, u_102.2.2.2.1, u_102.2.2.2.2.1, u_102.2.2.2.2.2)) H := hP
                have hD : va_D (wA h a) (rW h a cA (u_102.1, u_102.2.1, r_102, u_102.2.2.2.1, u_102.2.2.2.2.1, u_102.2.2.2.2.2)) := hD
                exact mm_vret (mw := rW h a cA) (u1 := (u_102.1, u_102.2.1, r_102, u_102.2.2.2.1, u_102.2.2.2.2.1, u_102.2.2.2.2.2)) hx hb hr hlocks hP hK hD hS dX1_one_132 ⟨q_102.2, (q_102.1.2.1.trans (q_21.1.2.1.trans rfl)), (q_102.1.2.2.trans (q_21.1.2.2.trans rfl))⟩
        · refine lv_iload_n hx hb dX1_one_57 rfl (lv_at hl 4 rfl) ?_
          refine lv_sipush (v := 255) hx hb dX1_one_58 (by decide) ?_
          refine lv_icmp_gt (tgt := 80) hx hb dX1_one_61 (by decide) (fun c_61 => ?_) (fun c_61 => ?_)
          · refine lv_iload_n hx hb dX1_one_80 rfl (lv_at hl 4 rfl) ?_
            refine lv_sipush (v := 172) hx hb dX1_one_81 (by decide) ?_
            refine lv_icmp_lt (tgt := 110) hx hb dX1_one_84 (by decide) (fun c_84 => ?_) (fun c_84 => ?_)
            · refine lv_aload_n hx hb dX1_one_110 rfl (lv_at hl 3 rfl) ?_
              refine lv_iload_n hx hb dX1_one_111 rfl (lv_at hl 4 rfl) ?_
              refine lv_iload_n hx hb dX1_one_112 rfl (lv_at hl 5 rfl) ?_
              refine lv_lload_n hx hb dX1_one_113 rfl (lv_at hl 6 rfl) ?_
              refine lv_lload hx hb dX1_one_114 (lv_at hl 1 rfl) ?_
              refine r_go (rv := rv_v) (As := [.int op, .int ac, .long e0, .long r_21]) (rest := []) ⟨hx, hb, hml, hown, hts⟩ (kX1_moved l D h a cA (u_21.1, u_21.2.1, u_21.2.2.1, u_21.2.2.2.1, u_21.2.2.2.2.1, u_21.2.2.2.2.2) q_21.1.1 op ac e0 r_21 hac (Or.inr (q_21.2 c_34))) (cwV 4 hts gX1_one_X1_moved rfl rfl rfl (by decide +kernel) ⟨by decide, by decide⟩) hK hP hD hS rfl hl.1 rfl (Nat.le_of_ble_eq_true rfl) dX1_one_116 ⟨Nat.zero_le _, Nat.zero_le _⟩ (fun _ u_116 H locs q_116 hP hD hS => ?_)
              refine W.eq (g2 := F0 m 119 ls []) rfl ?_
              refine lv_aload_n hx hb dX1_one_119 rfl (lv_at hl 3 rfl) ?_
              refine va_get (D := D) (ci := 1) (v := .int u_116.2.2.2.2.1) (C := RX1) (T := TX1) (N := 6) hx hb hts iw_X1_one hown hK hP 0 rfl rfl 4 (by decide) (hts (.fieldLink RX1 36 "WordMillModel" "fault" "I") (by decide +kernel)) (fun _ h9 => h9) rfl dX1_one_120 ?_
              refine lv_if_ne (tgt := 132) hx hb dX1_one_123 (by decide) (fun c_123 => ?_) (fun c_123 => ?_)
              · exact mm_vret (mw := rW h a cA) (u1 := (u_116.1, u_116.2.1, u_116.2.2.1, u_116.2.2.2.1, u_116.2.2.2.2.1, u_116.2.2.2.2.2)) hx hb hr hlocks hP hK hD hS dX1_one_132 ⟨q_116.1, (q_116.2.1.trans (q_21.1.2.1.trans rfl)), (q_116.2.2.trans (q_21.1.2.2.trans rfl))⟩
              · refine lv_aload_n hx hb dX1_one_126 rfl (lv_at hl 3 rfl) ?_
                refine lv_iload hx hb dX1_one_127 (lv_at hl 0 rfl) ?_
                refine va_put (D := D) (ci := 1) (v := .int x_48) (ty := .int) (C := RX1) (T := TX1) (N := 6) hx hb hts iw_X1_one tyX1 tyX1_ok nmX1 hown hK hP hD hS 0 rfl rfl 2 (by decide) (hts (.fieldLink RX1 33 "WordMillModel" "pc" "I") (by decide +kernel)) (fun _ h9 => h9) rfl (by decide +kernel) rfl rfl (Nat.le_of_ble_eq_true rfl) dX1_one_129 (fun H locs hP hD hS => ?_)
                have hP : va_P D vwCl (rW h a cA (u_116.1, u_116.2.1, x_48, u_116.2.2.2.1, u_116.2.2.2.2.1, u_116.2.2.2.2.2)) H := hP
                have hD : va_D (wA h a) (rW h a cA (u_116.1, u_116.2.1, x_48, u_116.2.2.2.1, u_116.2.2.2.2.1, u_116.2.2.2.2.2)) := hD
                exact mm_vret (mw := rW h a cA) (u1 := (u_116.1, u_116.2.1, x_48, u_116.2.2.2.1, u_116.2.2.2.2.1, u_116.2.2.2.2.2)) hx hb hr hlocks hP hK hD hS dX1_one_132 ⟨(by rw [ex_48]; exact vp_and4095 _), (q_116.2.1.trans (q_21.1.2.1.trans rfl)), (q_116.2.2.trans (q_21.1.2.2.trans rfl))⟩
            · refine lv_iload_n hx hb dX1_one_87 rfl (lv_at hl 4 rfl) ?_
              refine lv_sipush (v := 180) hx hb dX1_one_88 (by decide) ?_
              refine lv_icmp_gt (tgt := 110) hx hb dX1_one_91 (by decide) (fun c_91 => ?_) (fun c_91 => ?_)
              · refine lv_aload_n hx hb dX1_one_110 rfl (lv_at hl 3 rfl) ?_
                refine lv_iload_n hx hb dX1_one_111 rfl (lv_at hl 4 rfl) ?_
                refine lv_iload_n hx hb dX1_one_112 rfl (lv_at hl 5 rfl) ?_
                refine lv_lload_n hx hb dX1_one_113 rfl (lv_at hl 6 rfl) ?_
                refine lv_lload hx hb dX1_one_114 (lv_at hl 1 rfl) ?_
                refine r_go (rv := rv_v) (As := [.int op, .int ac, .long e0, .long r_21]) (rest := []) ⟨hx, hb, hml, hown, hts⟩ (kX1_moved l D h a cA (u_21.1, u_21.2.1, u_21.2.2.1, u_21.2.2.2.1, u_21.2.2.2.2.1, u_21.2.2.2.2.2) q_21.1.1 op ac e0 r_21 hac (Or.inr (q_21.2 c_34))) (cwV 4 hts gX1_one_X1_moved rfl rfl rfl (by decide +kernel) ⟨by decide, by decide⟩) hK hP hD hS rfl hl.1 rfl (Nat.le_of_ble_eq_true rfl) dX1_one_116 ⟨Nat.zero_le _, Nat.zero_le _⟩ (fun _ u_116 H locs q_116 hP hD hS => ?_)
                refine W.eq (g2 := F0 m 119 ls []) rfl ?_
                refine lv_aload_n hx hb dX1_one_119 rfl (lv_at hl 3 rfl) ?_
                refine va_get (D := D) (ci := 1) (v := .int u_116.2.2.2.2.1) (C := RX1) (T := TX1) (N := 6) hx hb hts iw_X1_one hown hK hP 0 rfl rfl 4 (by decide) (hts (.fieldLink RX1 36 "WordMillModel" "fault" "I") (by decide +kernel)) (fun _ h9 => h9) rfl dX1_one_120 ?_
                refine lv_if_ne (tgt := 132) hx hb dX1_one_123 (by decide) (fun c_123 => ?_) (fun c_123 => ?_)
                · exact mm_vret (mw := rW h a cA) (u1 := (u_116.1, u_116.2.1, u_116.2.2.1, u_116.2.2.2.1, u_116.2.2.2.2.1, u_116.2.2.2.2.2)) hx hb hr hlocks hP hK hD hS dX1_one_132 ⟨q_116.1, (q_116.2.1.trans (q_21.1.2.1.trans rfl)), (q_116.2.2.trans (q_21.1.2.2.trans rfl))⟩
                · refine lv_aload_n hx hb dX1_one_126 rfl (lv_at hl 3 rfl) ?_
                  refine lv_iload hx hb dX1_one_127 (lv_at hl 0 rfl) ?_
                  refine va_put (D := D) (ci := 1) (v := .int x_48) (ty := .int) (C := RX1) (T := TX1) (N := 6) hx hb hts iw_X1_one tyX1 tyX1_ok nmX1 hown hK hP hD hS 0 rfl rfl 2 (by decide) (hts (.fieldLink RX1 33 "WordMillModel" "pc" "I") (by decide +kernel)) (fun _ h9 => h9) rfl (by decide +kernel) rfl rfl (Nat.le_of_ble_eq_true rfl) dX1_one_129 (fun H locs hP hD hS => ?_)
                  have hP : va_P D vwCl (rW h a cA (u_116.1, u_116.2.1, x_48, u_116.2.2.2.1, u_116.2.2.2.2.1, u_116.2.2.2.2.2)) H := hP
                  have hD : va_D (wA h a) (rW h a cA (u_116.1, u_116.2.1, x_48, u_116.2.2.2.1, u_116.2.2.2.2.1, u_116.2.2.2.2.2)) := hD
                  exact mm_vret (mw := rW h a cA) (u1 := (u_116.1, u_116.2.1, x_48, u_116.2.2.2.1, u_116.2.2.2.2.1, u_116.2.2.2.2.2)) hx hb hr hlocks hP hK hD hS dX1_one_132 ⟨(by rw [ex_48]; exact vp_and4095 _), (q_116.2.1.trans (q_21.1.2.1.trans rfl)), (q_116.2.2.trans (q_21.1.2.2.trans rfl))⟩
              · refine lv_aload_n hx hb dX1_one_94 rfl (lv_at hl 3 rfl) ?_
                refine lv_iload_n hx hb dX1_one_95 rfl (lv_at hl 4 rfl) ?_
                refine lv_iload_n hx hb dX1_one_96 rfl (lv_at hl 5 rfl) ?_
                refine lv_lload_n hx hb dX1_one_97 rfl (lv_at hl 6 rfl) ?_
                refine lv_lload hx hb dX1_one_98 (lv_at hl 1 rfl) ?_
                refine lv_iload hx hb dX1_one_100 (lv_at hl 0 rfl) ?_
                refine r_go (rv := rv_i) (As := [.int op, .int ac, .long e0, .long r_21, .int x_48]) (rest := []) ⟨hx, hb, hml, hown, hts⟩ (kX1_piled l D h a cA (u_21.1, u_21.2.1, u_21.2.2.1, u_21.2.2.2.1, u_21.2.2.2.2.1, u_21.2.2.2.2.2) q_21.1.1 op ac e0 r_21 x_48 ⟨c_84, c_91⟩ hac (Or.inr (q_21.2 c_34)) (by rw [ex_48]; exact vp_and4095 _)) (cwV 5 hts gX1_one_X1_piled rfl rfl rfl (by decide +kernel) ⟨by decide, by decide⟩) hK hP hD hS rfl hl.1 rfl (Nat.le_of_ble_eq_true rfl) dX1_one_102 ⟨Nat.zero_le _, Nat.zero_le _⟩ (fun r_102 u_102 H locs q_102 hP hD hS => ?_)
                refine W.eq (g2 := F0 m 105 ls (.int r_102 :: [])) rfl ?_
                refine lv_istore (lv' := [(8, .int r_102), (6, .long r_21), (5, .int r_9), (0, .ref h), (1, .int op), (2, .int ac), (3, .long e0)]) hx hb dX1_one_105 hl (by decide) rfl (fun ls hl => ?_)
                refine lv_goto (tgt := 119) hx hb dX1_one_107 (by decide) ?_
                refine lv_aload_n hx hb dX1_one_119 rfl (lv_at hl 3 rfl) ?_
                refine va_get (D := D) (ci := 1) (v := .int u_102.2.2.2.2.1) (C := RX1) (T := TX1) (N := 6) hx hb hts iw_X1_one hown hK hP 0 rfl rfl 4 (by decide) (hts (.fieldLink RX1 36 "WordMillModel" "fault" "I") (by decide +kernel)) (fun _ h9 => h9) rfl dX1_one_120 ?_
                refine lv_if_ne (tgt := 132) hx hb dX1_one_123 (by decide) (fun c_123 => ?_) (fun c_123 => ?_)
                · exact mm_vret (mw := rW h a cA) (u1 := (u_102.1, u_102.2.1, u_102.2.2.1, u_102.2.2.2.1, u_102.2.2.2.2.1, u_102.2.2.2.2.2)) hx hb hr hlocks hP hK hD hS dX1_one_132 ⟨q_102.1.1, (q_102.1.2.1.trans (q_21.1.2.1.trans rfl)), (q_102.1.2.2.trans (q_21.1.2.2.trans rfl))⟩
                · refine lv_aload_n hx hb dX1_one_126 rfl (lv_at hl 3 rfl) ?_
                  refine lv_iload hx hb dX1_one_127 (lv_at hl 0 rfl) ?_
                  refine va_put (D := D) (ci := 1) (v := .int r_102) (ty := .int) (C := RX1) (T := TX1) (N := 6) hx hb hts iw_X1_one tyX1 tyX1_ok nmX1 hown hK hP hD hS 0 rfl rfl 2 (by decide) (hts (.fieldLink RX1 33 "WordMillModel" "pc" "I") (by decide +kernel)) (fun _ h9 => h9) rfl (by decide +kernel) rfl rfl (Nat.le_of_ble_eq_true rfl) dX1_one_129 (fun H locs hP hD hS => ?_)
                  have hP : va_P D vwCl (rW h a cA (u_102.1, u_102.2.1, r_102, u_102.2.2.2.1, u_102.2.2.2.2.1, u_102.2.2.2.2.2)) H := hP
                  have hD : va_D (wA h a) (rW h a cA (u_102.1, u_102.2.1, r_102, u_102.2.2.2.1, u_102.2.2.2.2.1, u_102.2.2.2.2.2)) := hD
                  exact mm_vret (mw := rW h a cA) (u1 := (u_102.1, u_102.2.1, r_102, u_102.2.2.2.1, u_102.2.2.2.2.1, u_102.2.2.2.2.2)) hx hb hr hlocks hP hK hD hS dX1_one_132 ⟨q_102.2, (q_102.1.2.1.trans (q_21.1.2.1.trans rfl)), (q_102.1.2.2.trans (q_21.1.2.2.trans rfl))⟩
          · refine lv_aload_n hx hb dX1_one_64 rfl (lv_at hl 3 rfl) ?_
            refine lv_iload_n hx hb dX1_one_65 rfl (lv_at hl 4 rfl) ?_
            refine lv_iload_n hx hb dX1_one_66 rfl (lv_at hl 5 rfl) ?_
            refine lv_lload_n hx hb dX1_one_67 rfl (lv_at hl 6 rfl) ?_
            refine lv_lload hx hb dX1_one_68 (lv_at hl 1 rfl) ?_
            refine lv_iload hx hb dX1_one_70 (lv_at hl 0 rfl) ?_
            refine r_go (rv := rv_i) (As := [.int op, .int ac, .long e0, .long r_21, .int x_48]) (rest := []) ⟨hx, hb, hml, hown, hts⟩ (kX1_tested l D h a cA (u_21.1, u_21.2.1, u_21.2.2.1, u_21.2.2.2.1, u_21.2.2.2.2.1, u_21.2.2.2.2.2) q_21.1.1 op ac e0 r_21 x_48 ⟨c_54, c_61⟩ hac (Or.inr (q_21.2 c_34)) (by rw [ex_48]; exact vp_and4095 _)) (cwV 5 hts gX1_one_X1_tested rfl rfl rfl (by decide +kernel) ⟨by decide, by decide⟩) hK hP hD hS rfl hl.1 rfl (Nat.le_of_ble_eq_true rfl) dX1_one_72 ⟨Nat.zero_le _, Nat.zero_le _⟩ (fun r_72 u_72 H locs q_72 hP hD hS => ?_)
            refine W.eq (g2 := F0 m 75 ls (.int r_72 :: [])) rfl ?_
            refine lv_istore (lv' := [(8, .int r_72), (6, .long r_21), (5, .int r_9), (0, .ref h), (1, .int op), (2, .int ac), (3, .long e0)]) hx hb dX1_one_75 hl (by decide) rfl (fun ls hl => ?_)
            refine lv_goto (tgt := 119) hx hb dX1_one_77 (by decide) ?_
            refine lv_aload_n hx hb dX1_one_119 rfl (lv_at hl 3 rfl) ?_
            refine va_get (D := D) (ci := 1) (v := .int u_72.2.2.2.2.1) (C := RX1) (T := TX1) (N := 6) hx hb hts iw_X1_one hown hK hP 0 rfl rfl 4 (by decide) (hts (.fieldLink RX1 36 "WordMillModel" "fault" "I") (by decide +kernel)) (fun _ h9 => h9) rfl dX1_one_120 ?_
            refine lv_if_ne (tgt := 132) hx hb dX1_one_123 (by decide) (fun c_123 => ?_) (fun c_123 => ?_)
            · exact mm_vret (mw := rW h a cA) (u1 := (u_72.1, u_72.2.1, u_72.2.2.1, u_72.2.2.2.1, u_72.2.2.2.2.1, u_72.2.2.2.2.2)) hx hb hr hlocks hP hK hD hS dX1_one_132 ⟨q_72.1.1, (q_72.1.2.1.trans (q_21.1.2.1.trans rfl)), (q_72.1.2.2.trans (q_21.1.2.2.trans rfl))⟩
            · refine lv_aload_n hx hb dX1_one_126 rfl (lv_at hl 3 rfl) ?_
              refine lv_iload hx hb dX1_one_127 (lv_at hl 0 rfl) ?_
              refine va_put (D := D) (ci := 1) (v := .int r_72) (ty := .int) (C := RX1) (T := TX1) (N := 6) hx hb hts iw_X1_one tyX1 tyX1_ok nmX1 hown hK hP hD hS 0 rfl rfl 2 (by decide) (hts (.fieldLink RX1 33 "WordMillModel" "pc" "I") (by decide +kernel)) (fun _ h9 => h9) rfl (by decide +kernel) rfl rfl (Nat.le_of_ble_eq_true rfl) dX1_one_129 (fun H locs hP hD hS => ?_)
              have hP : va_P D vwCl (rW h a cA (u_72.1, u_72.2.1, r_72, u_72.2.2.2.1, u_72.2.2.2.2.1, u_72.2.2.2.2.2)) H := hP
              have hD : va_D (wA h a) (rW h a cA (u_72.1, u_72.2.1, r_72, u_72.2.2.2.1, u_72.2.2.2.2.1, u_72.2.2.2.2.2)) := hD
              exact mm_vret (mw := rW h a cA) (u1 := (u_72.1, u_72.2.1, r_72, u_72.2.2.2.1, u_72.2.2.2.2.1, u_72.2.2.2.2.2)) hx hb hr hlocks hP hK hD hS dX1_one_132 ⟨q_72.2, (q_72.1.2.1.trans (q_21.1.2.1.trans rfl)), (q_72.1.2.2.trans (q_21.1.2.2.trans rfl))⟩
      · exact mm_vret (mw := rW h a cA) (u1 := (u_21.1, u_21.2.1, u_21.2.2.1, u_21.2.2.2.1, u_21.2.2.2.2.1, u_21.2.2.2.2.2)) hx hb hr hlocks hP hK hD hS dX1_one_37 ⟨q_21.1.1, (q_21.1.2.1.trans rfl), (q_21.1.2.2.trans rfl)⟩
  · exact mm_vret (mw := rW h a cA) (u1 := (u.1, u.2.1, u.2.2.1, u.2.2.2.1, u.2.2.2.2.1, u.2.2.2.2.2)) hx hb hr hlocks hP hK hD hS dX1_one_7 ⟨hI, rfl, rfl⟩
theorem iw_X1_count : ∀ w ∈ u_ws RX1 TX1 6, w ∈ wsX1_count := by decide +kernel
set_option maxHeartbeats 4000000 in
set_option maxRecDepth 100000 in
theorem kX1_count (l : Launch) (D : va_G) (h a : Nat) (cA : ClassId) (u : rS) (hI : rI u) (k0 : Int32)  : MM l yX1_count wsX1_count ({ frames := 0, cells := 0, slots := 0, locals := 0 }) D vwCl [(cA, .long)] (rW h a cA) (wA h a) u [.ref h, .int k0] rv_i (fun _ u' => rI u') := by
  refine mm_of (cc := cX1_count) (maxL := 2) (ret := (some .int)) (by decide) rfl (Nat.le_of_ble_eq_true rfl) (rA_in h a cA u) ?_
  intro p e s m below meth c ls C hl hP hK hD hS
  obtain ⟨hx, hb, hr, hml, hown, hts, hlocks⟩ := C
  have hl : lv_has ls 2 [(0, .ref h), (1, .int k0)] := hl
  refine lv_aload_n hx hb dX1_count_0 rfl (lv_at hl 0 rfl) ?_
  refine lv_iconst (v := 0) hx hb dX1_count_1 (by decide) ?_
  refine va_put (D := D) (ci := 1) (v := .int 0) (ty := .int) (C := RX1) (T := TX1) (N := 6) hx hb hts iw_X1_count tyX1 tyX1_ok nmX1 hown hK hP hD hS 0 rfl rfl 0 (by decide) (hts (.fieldLink RX1 13 "WordMillModel" "thrown" "I") (by decide +kernel)) (fun _ h9 => h9) rfl (by decide +kernel) rfl rfl (Nat.le_of_ble_eq_true rfl) dX1_count_2 (fun H locs hP hD hS => ?_)
  have hP : va_P D vwCl (rW h a cA (u.1, 0, u.2.2.1, u.2.2.2.1, u.2.2.2.2.1, u.2.2.2.2.2)) H := hP
  have hD : va_D (wA h a) (rW h a cA (u.1, 0, u.2.2.1, u.2.2.2.1, u.2.2.2.2.1, u.2.2.2.2.2)) := hD
  refine lv_iload_n hx hb dX1_count_5 rfl (lv_at hl 1 rfl) ?_
  refine lv_if_ne (tgt := 16) hx hb dX1_count_6 (by decide) (fun c_6 => ?_) (fun c_6 => ?_)
  · refine lv_iload_n hx hb dX1_count_16 rfl (lv_at hl 1 rfl) ?_
    refine lv_iconst (v := 1) hx hb dX1_count_17 (by decide) ?_
    refine lv_icmp_ne (tgt := 33) hx hb dX1_count_18 (by decide) (fun c_18 => ?_) (fun c_18 => ?_)
    · refine lv_iload_n hx hb dX1_count_33 rfl (lv_at hl 1 rfl) ?_
      refine lv_iconst (v := 2) hx hb dX1_count_34 (by decide) ?_
      refine lv_icmp_ne (tgt := 45) hx hb dX1_count_35 (by decide) (fun c_35 => ?_) (fun c_35 => ?_)
      · refine lv_iconst (v := -1) hx hb dX1_count_45 (by decide) ?_
        exact mm_iret (mw := rW h a cA) (u1 := (u.1, 0, u.2.2.1, u.2.2.2.1, u.2.2.2.2.1, u.2.2.2.2.2)) hx hb hr hlocks hP hK hD hS dX1_count_46 hI
      · refine lv_aload_n hx hb dX1_count_38 rfl (lv_at hl 0 rfl) ?_
        refine va_get (D := D) (ci := 1) (v := .int u.2.2.2.1) (C := RX1) (T := TX1) (N := 6) hx hb hts iw_X1_count hown hK hP 0 rfl rfl 3 (by decide) (hts (.fieldLink RX1 45 "WordMillModel" "latest" "I") (by decide +kernel)) (fun _ h9 => h9) rfl dX1_count_39 ?_
        refine lv_goto (tgt := 46) hx hb dX1_count_42 (by decide) ?_
        exact mm_iret (mw := rW h a cA) (u1 := (u.1, 0, u.2.2.1, u.2.2.2.1, u.2.2.2.2.1, u.2.2.2.2.2)) hx hb hr hlocks hP hK hD hS dX1_count_46 hI
    · refine lv_aload_n hx hb dX1_count_21 rfl (lv_at hl 0 rfl) ?_
      refine va_get (D := D) (ci := 1) (v := .long u.2.2.2.2.2) (C := RX1) (T := TX1) (N := 6) hx hb hts iw_X1_count hown hK hP 0 rfl rfl 5 (by decide) (hts (.fieldLink RX1 52 "WordMillModel" "done" "J") (by decide +kernel)) (fun _ h9 => h9) rfl dX1_count_22 ?_
      refine lv_ldc2 (v := 2147483647) hx hb hown (hts (.constantLong RX1 107 2147483647) (by decide +kernel)) dX1_count_25 ?_
      refine lv_land hx hb dX1_count_28 ?_
      refine lv_l2i hx hb dX1_count_29 rfl ?_
      refine lv_goto (tgt := 46) hx hb dX1_count_30 (by decide) ?_
      exact mm_iret (mw := rW h a cA) (u1 := (u.1, 0, u.2.2.1, u.2.2.2.1, u.2.2.2.2.1, u.2.2.2.2.2)) hx hb hr hlocks hP hK hD hS dX1_count_46 hI
  · refine lv_aload_n hx hb dX1_count_9 rfl (lv_at hl 0 rfl) ?_
    refine va_get (D := D) (ci := 1) (v := .int u.2.2.1) (C := RX1) (T := TX1) (N := 6) hx hb hts iw_X1_count hown hK hP 0 rfl rfl 2 (by decide) (hts (.fieldLink RX1 33 "WordMillModel" "pc" "I") (by decide +kernel)) (fun _ h9 => h9) rfl dX1_count_10 ?_
    refine lv_goto (tgt := 46) hx hb dX1_count_13 (by decide) ?_
    exact mm_iret (mw := rW h a cA) (u1 := (u.1, 0, u.2.2.1, u.2.2.2.1, u.2.2.2.2.1, u.2.2.2.2.2)) hx hb hr hlocks hP hK hD hS dX1_count_46 hI
end
