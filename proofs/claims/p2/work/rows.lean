section
-- ===== PART A: goes FIRST, ahead of the names: the tables' words, and 'selects' of the private methods out of them =====
/-- a private method of a class that the tables say can be made, by its rows of tables_1 -/
def lw_okq (q : MethodName × Nat) : Prop := (q.1.cls ≠ "java/lang/invoke/MethodHandle" ∧ q.1.cls ≠ "java/lang/invoke/VarHandle") ∧ Cond.instantiable q.1.cls q.2 ∈ tables_1 ∧ Cond.privateMethod q.1 ∈ tables_1 ∧ Cond.instanceMethod q.1 ∈ tables_1
theorem lw_p0 : lw_okq (⟨"java/lang/Throwable", "fillInStackTrace", "(I)Ljava/lang/Throwable;"⟩, 6) := ⟨⟨by decide +kernel, by decide +kernel⟩, List.mem_of_getElem? (i := 85) (by decide +kernel), List.mem_of_getElem? (i := 83) (by decide +kernel), List.mem_of_getElem? (i := 84) (by decide +kernel)⟩
theorem lw_p1 : lw_okq (⟨"WordMill", "store", "(IJ)V"⟩, 5) := ⟨⟨by decide +kernel, by decide +kernel⟩, List.mem_of_getElem? (i := 9) (by decide +kernel), List.mem_of_getElem? (i := 110) (by decide +kernel), List.mem_of_getElem? (i := 111) (by decide +kernel)⟩
theorem lw_p2 : lw_okq (⟨"WordMill", "step", "()I"⟩, 5) := ⟨⟨by decide +kernel, by decide +kernel⟩, List.mem_of_getElem? (i := 9) (by decide +kernel), List.mem_of_getElem? (i := 144) (by decide +kernel), List.mem_of_getElem? (i := 145) (by decide +kernel)⟩
theorem lw_p3 : lw_okq (⟨"WordMill", "effective", "(J)I"⟩, 5) := ⟨⟨by decide +kernel, by decide +kernel⟩, List.mem_of_getElem? (i := 9) (by decide +kernel), List.mem_of_getElem? (i := 148) (by decide +kernel), List.mem_of_getElem? (i := 149) (by decide +kernel)⟩
theorem lw_p4 : lw_okq (⟨"WordMill", "indexed", "(J)I"⟩, 5) := ⟨⟨by decide +kernel, by decide +kernel⟩, List.mem_of_getElem? (i := 9) (by decide +kernel), List.mem_of_getElem? (i := 152) (by decide +kernel), List.mem_of_getElem? (i := 153) (by decide +kernel)⟩
theorem lw_p5 : lw_okq (⟨"WordMill", "perform", "(III)I"⟩, 5) := ⟨⟨by decide +kernel, by decide +kernel⟩, List.mem_of_getElem? (i := 9) (by decide +kernel), List.mem_of_getElem? (i := 162) (by decide +kernel), List.mem_of_getElem? (i := 163) (by decide +kernel)⟩
theorem lw_p6 : lw_okq (⟨"WordMill", "combine", "(IIJ)I"⟩, 5) := ⟨⟨by decide +kernel, by decide +kernel⟩, List.mem_of_getElem? (i := 9) (by decide +kernel), List.mem_of_getElem? (i := 166) (by decide +kernel), List.mem_of_getElem? (i := 167) (by decide +kernel)⟩
theorem lw_p7 : lw_okq (⟨"WordMill", "divide", "(IJ)I"⟩, 5) := ⟨⟨by decide +kernel, by decide +kernel⟩, List.mem_of_getElem? (i := 9) (by decide +kernel), List.mem_of_getElem? (i := 193) (by decide +kernel), List.mem_of_getElem? (i := 194) (by decide +kernel)⟩
theorem lw_p8 : lw_okq (⟨"WordMill", "jump", "(I)I"⟩, 5) := ⟨⟨by decide +kernel, by decide +kernel⟩, List.mem_of_getElem? (i := 9) (by decide +kernel), List.mem_of_getElem? (i := 198) (by decide +kernel), List.mem_of_getElem? (i := 199) (by decide +kernel)⟩
theorem lw_p9 : lw_okq (⟨"WordMill", "pushNextPlace", "(II)I"⟩, 5) := ⟨⟨by decide +kernel, by decide +kernel⟩, List.mem_of_getElem? (i := 9) (by decide +kernel), List.mem_of_getElem? (i := 202) (by decide +kernel), List.mem_of_getElem? (i := 203) (by decide +kernel)⟩
theorem lw_p10 : lw_okq (⟨"WordMill", "push", "(IJ)I"⟩, 5) := ⟨⟨by decide +kernel, by decide +kernel⟩, List.mem_of_getElem? (i := 9) (by decide +kernel), List.mem_of_getElem? (i := 206) (by decide +kernel), List.mem_of_getElem? (i := 207) (by decide +kernel)⟩
theorem lw_p11 : lw_okq (⟨"WordMill", "moveTop", "(II)V"⟩, 5) := ⟨⟨by decide +kernel, by decide +kernel⟩, List.mem_of_getElem? (i := 9) (by decide +kernel), List.mem_of_getElem? (i := 210) (by decide +kernel), List.mem_of_getElem? (i := 211) (by decide +kernel)⟩
theorem lw_p12 : lw_okq (⟨"WordMill", "popToPc", "(I)I"⟩, 5) := ⟨⟨by decide +kernel, by decide +kernel⟩, List.mem_of_getElem? (i := 9) (by decide +kernel), List.mem_of_getElem? (i := 214) (by decide +kernel), List.mem_of_getElem? (i := 215) (by decide +kernel)⟩
theorem lw_p13 : lw_okq (⟨"WordMill", "performOnMemory", "(III)I"⟩, 5) := ⟨⟨by decide +kernel, by decide +kernel⟩, List.mem_of_getElem? (i := 9) (by decide +kernel), List.mem_of_getElem? (i := 218) (by decide +kernel), List.mem_of_getElem? (i := 219) (by decide +kernel)⟩
theorem lw_p14 : lw_okq (⟨"WordMill", "exchange", "(II)I"⟩, 5) := ⟨⟨by decide +kernel, by decide +kernel⟩, List.mem_of_getElem? (i := 9) (by decide +kernel), List.mem_of_getElem? (i := 222) (by decide +kernel), List.mem_of_getElem? (i := 223) (by decide +kernel)⟩
theorem lw_p15 : lw_okq (⟨"WordMill", "popToMemory", "(II)I"⟩, 5) := ⟨⟨by decide +kernel, by decide +kernel⟩, List.mem_of_getElem? (i := 9) (by decide +kernel), List.mem_of_getElem? (i := 226) (by decide +kernel), List.mem_of_getElem? (i := 227) (by decide +kernel)⟩
def lw_privs_1 : List (MethodName × Nat) := [(⟨"java/lang/Throwable", "fillInStackTrace", "(I)Ljava/lang/Throwable;"⟩, 6), (⟨"WordMill", "store", "(IJ)V"⟩, 5), (⟨"WordMill", "step", "()I"⟩, 5), (⟨"WordMill", "effective", "(J)I"⟩, 5), (⟨"WordMill", "indexed", "(J)I"⟩, 5), (⟨"WordMill", "perform", "(III)I"⟩, 5), (⟨"WordMill", "combine", "(IIJ)I"⟩, 5), (⟨"WordMill", "divide", "(IJ)I"⟩, 5), (⟨"WordMill", "jump", "(I)I"⟩, 5), (⟨"WordMill", "pushNextPlace", "(II)I"⟩, 5), (⟨"WordMill", "push", "(IJ)I"⟩, 5), (⟨"WordMill", "moveTop", "(II)V"⟩, 5), (⟨"WordMill", "popToPc", "(I)I"⟩, 5), (⟨"WordMill", "performOnMemory", "(III)I"⟩, 5), (⟨"WordMill", "exchange", "(II)I"⟩, 5), (⟨"WordMill", "popToMemory", "(II)I"⟩, 5)]
theorem lw_r1 : ∀ q ∈ lw_privs_1, lw_okq q := List.forall_mem_cons.mpr ⟨lw_p0, List.forall_mem_cons.mpr ⟨lw_p1, List.forall_mem_cons.mpr ⟨lw_p2, List.forall_mem_cons.mpr ⟨lw_p3, List.forall_mem_cons.mpr ⟨lw_p4, List.forall_mem_cons.mpr ⟨lw_p5, List.forall_mem_cons.mpr ⟨lw_p6, List.forall_mem_cons.mpr ⟨lw_p7, List.forall_mem_cons.mpr ⟨lw_p8, List.forall_mem_cons.mpr ⟨lw_p9, List.forall_mem_cons.mpr ⟨lw_p10, List.forall_mem_cons.mpr ⟨lw_p11, List.forall_mem_cons.mpr ⟨lw_p12, List.forall_mem_cons.mpr ⟨lw_p13, List.forall_mem_cons.mpr ⟨lw_p14, List.forall_mem_cons.mpr ⟨lw_p15, fun _ h => absurd h List.not_mem_nil⟩⟩⟩⟩⟩⟩⟩⟩⟩⟩⟩⟩⟩⟩⟩⟩
theorem lw_p16 : lw_okq (⟨"WordMill", "leaveNextPlaceAndJump", "(I)I"⟩, 5) := ⟨⟨by decide +kernel, by decide +kernel⟩, List.mem_of_getElem? (i := 9) (by decide +kernel), List.mem_of_getElem? (i := 230) (by decide +kernel), List.mem_of_getElem? (i := 231) (by decide +kernel)⟩
theorem lw_p17 : lw_okq (⟨"WordMill", "test", "(III)I"⟩, 5) := ⟨⟨by decide +kernel, by decide +kernel⟩, List.mem_of_getElem? (i := 9) (by decide +kernel), List.mem_of_getElem? (i := 237) (by decide +kernel), List.mem_of_getElem? (i := 238) (by decide +kernel)⟩
theorem lw_p18 : lw_okq (⟨"WordMill", "skipIf", "(Z)I"⟩, 5) := ⟨⟨by decide +kernel, by decide +kernel⟩, List.mem_of_getElem? (i := 9) (by decide +kernel), List.mem_of_getElem? (i := 244) (by decide +kernel), List.mem_of_getElem? (i := 245) (by decide +kernel)⟩
theorem lw_p19 : lw_okq (⟨"WordMill", "changeAndJump", "(IIII)I"⟩, 5) := ⟨⟨by decide +kernel, by decide +kernel⟩, List.mem_of_getElem? (i := 9) (by decide +kernel), List.mem_of_getElem? (i := 248) (by decide +kernel), List.mem_of_getElem? (i := 249) (by decide +kernel)⟩
theorem lw_p20 : lw_okq (⟨"WordMill", "changeAndSkip", "(IIII)I"⟩, 5) := ⟨⟨by decide +kernel, by decide +kernel⟩, List.mem_of_getElem? (i := 9) (by decide +kernel), List.mem_of_getElem? (i := 252) (by decide +kernel), List.mem_of_getElem? (i := 253) (by decide +kernel)⟩
theorem lw_p21 : lw_okq (⟨"WordMillModel", "bad", "(Z)Z"⟩, 6) := ⟨⟨by decide +kernel, by decide +kernel⟩, List.mem_of_getElem? (i := 257) (by decide +kernel), List.mem_of_getElem? (i := 294) (by decide +kernel), List.mem_of_getElem? (i := 295) (by decide +kernel)⟩
theorem lw_p22 : lw_okq (⟨"WordMillModel", "effective", "(J)J"⟩, 6) := ⟨⟨by decide +kernel, by decide +kernel⟩, List.mem_of_getElem? (i := 257) (by decide +kernel), List.mem_of_getElem? (i := 321) (by decide +kernel), List.mem_of_getElem? (i := 322) (by decide +kernel)⟩
theorem lw_p23 : lw_okq (⟨"WordMillModel", "at", "(J)J"⟩, 6) := ⟨⟨by decide +kernel, by decide +kernel⟩, List.mem_of_getElem? (i := 257) (by decide +kernel), List.mem_of_getElem? (i := 325) (by decide +kernel), List.mem_of_getElem? (i := 326) (by decide +kernel)⟩
theorem lw_p24 : lw_okq (⟨"WordMillModel", "one", "(IIJ)V"⟩, 6) := ⟨⟨by decide +kernel, by decide +kernel⟩, List.mem_of_getElem? (i := 257) (by decide +kernel), List.mem_of_getElem? (i := 329) (by decide +kernel), List.mem_of_getElem? (i := 330) (by decide +kernel)⟩
theorem lw_p25 : lw_okq (⟨"WordMillModel", "tested", "(IIJJI)I"⟩, 6) := ⟨⟨by decide +kernel, by decide +kernel⟩, List.mem_of_getElem? (i := 257) (by decide +kernel), List.mem_of_getElem? (i := 336) (by decide +kernel), List.mem_of_getElem? (i := 337) (by decide +kernel)⟩
theorem lw_p26 : lw_okq (⟨"WordMillModel", "piled", "(IIJJI)I"⟩, 6) := ⟨⟨by decide +kernel, by decide +kernel⟩, List.mem_of_getElem? (i := 257) (by decide +kernel), List.mem_of_getElem? (i := 347) (by decide +kernel), List.mem_of_getElem? (i := 348) (by decide +kernel)⟩
theorem lw_p27 : lw_okq (⟨"WordMillModel", "moved", "(IIJJ)V"⟩, 6) := ⟨⟨by decide +kernel, by decide +kernel⟩, List.mem_of_getElem? (i := 257) (by decide +kernel), List.mem_of_getElem? (i := 355) (by decide +kernel), List.mem_of_getElem? (i := 356) (by decide +kernel)⟩
theorem lw_p28 : lw_okq (⟨"WordMillModel", "divided", "(IJJ)V"⟩, 6) := ⟨⟨by decide +kernel, by decide +kernel⟩, List.mem_of_getElem? (i := 257) (by decide +kernel), List.mem_of_getElem? (i := 359) (by decide +kernel), List.mem_of_getElem? (i := 360) (by decide +kernel)⟩
theorem lw_p29 : lw_okq (⟨"WordMillModel", "bits", "(IIJJ)V"⟩, 6) := ⟨⟨by decide +kernel, by decide +kernel⟩, List.mem_of_getElem? (i := 257) (by decide +kernel), List.mem_of_getElem? (i := 367) (by decide +kernel), List.mem_of_getElem? (i := 368) (by decide +kernel)⟩
def lw_privs_2 : List (MethodName × Nat) := [(⟨"WordMill", "leaveNextPlaceAndJump", "(I)I"⟩, 5), (⟨"WordMill", "test", "(III)I"⟩, 5), (⟨"WordMill", "skipIf", "(Z)I"⟩, 5), (⟨"WordMill", "changeAndJump", "(IIII)I"⟩, 5), (⟨"WordMill", "changeAndSkip", "(IIII)I"⟩, 5), (⟨"WordMillModel", "bad", "(Z)Z"⟩, 6), (⟨"WordMillModel", "effective", "(J)J"⟩, 6), (⟨"WordMillModel", "at", "(J)J"⟩, 6), (⟨"WordMillModel", "one", "(IIJ)V"⟩, 6), (⟨"WordMillModel", "tested", "(IIJJI)I"⟩, 6), (⟨"WordMillModel", "piled", "(IIJJI)I"⟩, 6), (⟨"WordMillModel", "moved", "(IIJJ)V"⟩, 6), (⟨"WordMillModel", "divided", "(IJJ)V"⟩, 6), (⟨"WordMillModel", "bits", "(IIJJ)V"⟩, 6)]
theorem lw_r2 : ∀ q ∈ lw_privs_2, lw_okq q := List.forall_mem_cons.mpr ⟨lw_p16, List.forall_mem_cons.mpr ⟨lw_p17, List.forall_mem_cons.mpr ⟨lw_p18, List.forall_mem_cons.mpr ⟨lw_p19, List.forall_mem_cons.mpr ⟨lw_p20, List.forall_mem_cons.mpr ⟨lw_p21, List.forall_mem_cons.mpr ⟨lw_p22, List.forall_mem_cons.mpr ⟨lw_p23, List.forall_mem_cons.mpr ⟨lw_p24, List.forall_mem_cons.mpr ⟨lw_p25, List.forall_mem_cons.mpr ⟨lw_p26, List.forall_mem_cons.mpr ⟨lw_p27, List.forall_mem_cons.mpr ⟨lw_p28, List.forall_mem_cons.mpr ⟨lw_p29, fun _ h => absurd h List.not_mem_nil⟩⟩⟩⟩⟩⟩⟩⟩⟩⟩⟩⟩⟩⟩
def lw_privs : List (MethodName × Nat) := lw_privs_1 ++ (lw_privs_2)
def lw_tbl : List Cond := k2_sels lw_privs ++ tables_1
theorem lw_privs_ok : ∀ q ∈ lw_privs, lw_okq q := by
  show ∀ q ∈ lw_privs_1 ++ (lw_privs_2), lw_okq q
  exact List.forall_mem_append.mpr ⟨lw_r1, lw_r2⟩
end
section
/-! ===== BEGIN words of one list among another's, by their places ===== -/
theorem goodIn_r {big : List Cond} (ws : List Cond) (ps : List Nat) (hp : ws = ps.filterMap (fun i => big[i]?)) (h : ws.all goodWord = true) : GoodIn big ws := by
  intro w hw
  have h1 := List.all_eq_true.mp h w hw
  rw [hp] at hw
  obtain ⟨i, -, hi⟩ := List.mem_filterMap.mp hw
  have hm : w ∈ big := by first | exact List.mem_of_getElem? hi | exact List.getElem?_mem hi
  exact ⟨hm, good_of_word h1⟩
theorem goodIn_app {big a b : List Cond} (ha : GoodIn big a) (hb : GoodIn big b) : GoodIn big (a ++ b) := fun w h => (List.mem_append.mp h).elim (ha w) (hb w)
theorem goodIn_ca {big a b : List Cond} {c : Cond} (ha : GoodIn big (c :: a)) (hb : GoodIn big b) : GoodIn big (c :: (a ++ b)) := fun w h => (List.mem_cons.mp h).elim (fun e => ha w (List.mem_cons.mpr (Or.inl e))) (fun h => (List.mem_append.mp h).elim (fun h => ha w (List.mem_cons.mpr (Or.inr h))) (hb w))
theorem goodIn_sub {big ws : List Cond} (hm : ∀ w ∈ ws, w ∈ big) (h : ws.all goodWord = true) : GoodIn big ws := fun w hw => ⟨hm w hw, good_of_word (List.all_eq_true.mp h w hw)⟩
/-! ===== END ===== -/

/-! ===== BEGIN exceptions that leave a method, and their catching by the caller (launches without stack traces) ===== -/
section VXA
/-! The laws vx_back, vx_callV, vx_callS, vx_callSW, vx_throw0, vx_throwS follow proofs of the library, with one case more: JvmDerived/Free/Laws.lean (Back.of_free), Shelf42/LK1.lean (callV, callS), Shelf/KitTraced.lean (throwNew0V, throwNewS). -/
/-- where a method has thrown q: the class by its name, the cell, what was written, the world -/
def vx_T (XC : String → State → State → Prop) (st : State) (q : Addr) (t : State) (mc ms : Nat) (free : Addr → Prop) : Prop :=
  ∃ (E : String) (ce : Cell) (L : List Loc), XC E st t ∧ t.heap[q]? = some ce ∧ ce.vm = .none ∧ st.vm.findClass E = some ce.cls ∧ st.WarmedH t.vm ∧ st.sameButNew ({ t with vm := st.vm } : State) L mc ms ∧ ∀ z ∈ L, free z.base
def vx_Q (Qc : Array Value → State → Outcome → State → Prop) (XC : String → State → State → Prop) (mc ms : Nat) (free : Addr → Prop) : Array Value → State → Outcome → State → Prop := fun a st o t =>
  (Qc a st o t ∧ ∃ L, FrameEnd st o t L mc ms ∧ ∀ q ∈ L, free q.base) ∨ ∃ q, o = .threw q ∧ vx_T XC st q t mc ms free
/-- a callee that returns or throws -/
def vx_Met (l : Launch) (y : MethodName) (ws : List Cond) (rm : Room) (Pc : Array Value → State → Prop) (Qc : Array Value → State → Outcome → State → Prop) (XC : String → State → State → Prop) (mc ms : Nat) (free : Addr → Prop) : Prop :=
  MetFree l y (headSpec ws rm) Pc (fun _ _ _ _ _ => True) (vx_Q Qc XC mc ms free)
def vx_Post (XC : String → State → State → Prop) (mc ms : Nat) (free : Addr → Prop) : Pt → Array Value → Addr → Pt → Prop := fun A a q B =>
  ∃ (g : JFrame) (mk : MethodId) (t : State) (L : List Loc) (E : String) (ce : Cell), B.U.heap = t.heap ∧ B.U.vm = t.vm ∧ XC E (A.U.calling g mk a) t ∧ t.heap[q]? = some ce ∧ ce.vm = .none ∧ A.U.vm.findClass E = some ce.cls ∧ B.locs = A.locs ++ L ∧ (∀ z ∈ L, free z.base) ∧ B.cells = A.cells + mc ∧ B.slots = A.slots + ms
def vx_Back (l : Launch) (R : Room) (p : Program) (e : Env) (below : List Frame) (s : State) (sargs : Array Value) (y : MethodName) (len W9 : Nat)
    (Pre : Pt → Array Value → Prop) (Post : Pt → Array Value → Option Value → Pt → Prop) (PostX : Pt → Array Value → Addr → Pt → Prop) : Prop :=
  ∀ (m : MethodId) (meth : Method) (c : Code) (A : Pt) (g : JFrame) (ig : Instr) (mk : MethodId) (a : Array Value),
    Stand p l e R s m sargs below meth c A.U A.locs A.cells A.slots → g.method = m → g.locals.size = c.maxLocals → decode c.code g.pc = .ok (ig, len) →
    2 * g.monitorRoom + (g.stack.map fun v => v.category).sum ≤ W9 → A.U.methodNamed? y = some mk → Pre A a →
    (∃ (v : Option Value) (B : Pt), Stand p l e R s m sargs below meth c B.U B.locs B.cells B.slots ∧ Post A a v B ∧
      Steps p.tables e below (doInvoke e (A.U.setTop g) [] mk a).1 (B.U.setTop { g with pc := g.pc + len, stack := v.toList ++ g.stack })) ∨
    (∃ (q : Addr) (B : Pt), Stand p l e R s m sargs below meth c B.U B.locs B.cells B.slots ∧ PostX A a q B ∧
      Steps p.tables e below (doInvoke e (A.U.setTop g) [] mk a).1 ((B.U.setTop g).pushFrame (.throwing q)))
section Payer
variable {l : Launch} {R : Room} {p : Program} {e : Env} {below : List Frame} {s : State} {sargs : Array Value} {y : MethodName} {len W9 : Nat}
theorem vx_back {ws : List Cond} {rm : Room} {Pc : Array Value → State → Prop} {Qc : Array Value → State → Outcome → State → Prop} {XC : String → State → State → Prop} {mc ms : Nat} {free : Addr → Prop} {bytes : ByteArray} {maxL : Nat} {ret : Option FieldType}
    (hM : vx_Met l y ws rm Pc Qc XC mc ms free) (hblind : FrameBlind Pc) (hrc : rm.cells = mc) (hrs : rm.slots = ms)
    (hframes : rm.frames + 1 ≤ R.frames) (hlocals : W9 + (maxL + 11) + rm.locals ≤ R.locals)
    (hws : ∀ w ∈ ws, ∀ a' U, s.WarmedH U.vm → w.before a' U = true) (hcode : Cond.code y bytes maxL ret ∈ ws) (hinit : ∀ a' U, s.WarmedH U.vm → (Cond.initialized y.cls).before a' U = true) :
    vx_Back l R p e below s sargs y len W9 (PreOf R mc ms Pc) (PostOf Qc mc ms free) (vx_Post XC mc ms free) := by
  intro m meth c A g ig mk a X hg hsize hdg hW hn hp
  have h1 : (headSpec ws rm).pre.before a A.U = true := atoms_intro fun w hw => hws w hw _ _ X.warmed
  have h2 : (Cond.code y bytes maxL ret).before a A.U = true := hws _ hcode _ _ X.warmed
  have h3 : (Cond.initialized y.cls).before a A.U = true := hinit _ _ X.warmed
  have h4 : A.cells + (headSpec ws rm).room.cells ≤ R.cells := by rw [show (headSpec ws rm).room.cells = mc from hrc]; exact hp.1
  have h5 : A.slots + (headSpec ws rm).room.slots ≤ R.slots := by rw [show (headSpec ws rm).room.slots = ms from hrs]; exact hp.2.1
  have hPc : Pc a (A.U.calling g mk a) := hblind _ _ _ _ hp.2.2
  obtain ⟨U, Ls, c0, s0⟩ := A
  dsimp only [Pt.U, Pt.locs, Pt.cells, Pt.slots] at h1 h2 h3 h4 h5 X hn hPc ⊢
  obtain ⟨methY, cY, hmY, hcY, -, hlY, -, -, -, -⟩ := Cond.code_spec hn h2
  obtain ⟨kY, hkY, -⟩ := className_of_methodNamed hn
  have hinitY : kY.init = .initialized := Cond.initialized_spec (findClass_of_methodNamed hn) hkY h3
  have h : At U g.method c below := by rw [hg]; exact X.here
  have hlocals9 : W9 + (maxL + 11) + (headSpec ws rm).room.locals ≤ R.locals := hlocals
  have happ : (headSpec ws rm).appliesLoose y e.platform (U.calling g mk a) = true :=
    Spec.appliesLoose_calling (g := g) h hdg hn hkY hinitY
      (X.room_calling (g := g) (R' := (headSpec ws rm).room) hsize hmY hcY hframes (by rw [hlY]; omega) h4 h5) h1
  obtain ⟨mid, hmid⟩ := h.above
  have hfr : (U.setTop g).frames = (.java g :: mid) ++ below := by rw [State.frames_setTop' g h.top, hmid]; rfl
  obtain ⟨o, s₂, hsteps, -, hend, hq⟩ := Steps.callFree hM p X.admits X.cas X.clock (acts := []) hfr happ hPc trivial
  have hq' : vx_Q Qc XC mc ms free a (U.calling g mk a) o s₂ := hq
  rw [State.frames_setTop' g h.top] at hend
  obtain ⟨g₀, hg0⟩ := Option.isSome_iff_exists.mp h.top
  obtain ⟨r, hr⟩ := State.topJava?_eq_some.mp hg0
  have hr' : (({ U with heap := s₂.heap, slotsUsed := s₂.slotsUsed } : State).setVm s₂.vm).frames = .java g₀ :: r := hr
  rcases hq' with ⟨hqc, L, hfe, hL⟩ | ⟨q, rfl, E, ce, L, hx, hce, hcv, hcl, hW₂, hsm, hL⟩
  · obtain ⟨⟨v, rfl⟩, hW₂, e2, q2, q3, q4, q5, q6⟩ := id hfe
    have e3 : s₂ = ({ (U.calling g mk a).setFrames s₂.frames with heap := s₂.heap, slotsUsed := s₂.slotsUsed } : State).setVm s₂.vm := by
      have : s₂ = ({ s₂ with vm := (U.calling g mk a).vm } : State).setVm s₂.vm := rfl
      rw [e2] at this
      exact this
    obtain ⟨c₂, i₂, len₂, hc₂, hd₂, hf₂⟩ := hend
    have hW' : U.WarmedH s₂.vm := hW₂
    have hcc : c₂ = c := by
      have h1 : s₂.code? g.method = U.code? g.method := by
        rw [State.code?_eq, State.code?_eq, hW'.alike.method?]
      exact Option.some.inj (hc₂.symm.trans (h1.trans h.code))
    subst hcc
    have hlen : len₂ = len := by rw [hdg] at hd₂; cases hd₂; rfl
    subst hlen
    have hs₂ : s₂ = (({ U with heap := s₂.heap, slotsUsed := s₂.slotsUsed } : State).setVm s₂.vm).setTop { g with pc := g.pc + len₂, stack := v.toList ++ g.stack } := by
      refine e3.trans ?_
      rw [hf₂, State.calling_eq h.top, State.setFrames_setFrames, State.setTop_of_frames _ hr', hr]
      rfl
    have hsame : U.sameButNew ({ U with heap := s₂.heap, slotsUsed := s₂.slotsUsed } : State) L mc ms := by
      refine ⟨?_, q2, q3, q4, q5, q6⟩
      obtain ⟨t, ht, -⟩ := State.frames_cons hr
      show ({ U with heap := s₂.heap, slotsUsed := s₂.slotsUsed } : State) = { U.setFrames U.frames with heap := s₂.heap, slotsUsed := s₂.slotsUsed }
      rw [State.setFrames_self ht]
    subst hg
    refine Or.inl ⟨v, ⟨(({ U with heap := s₂.heap, slotsUsed := s₂.slotsUsed } : State).setVm s₂.vm), Ls ++ L, c0 + mc, s0 + ms⟩,
      ⟨X.admits, X.cas, X.clock, X.frames, X.room, X.hears, X.method, X.code, (X.here.setHeapUsed s₂.heap s₂.slotsUsed).setVm hW'.alike, X.tail, State.WarmedH.trans X.warmed hW', X.limits, X.bytes, X.same.trans (hsame.setVm s.vm)⟩,
      ⟨g, mk, s₂, L, rfl, rfl, hqc, rfl, hL, rfl, rfl⟩, ?_⟩
    show Steps p.tables e below _ ((({ U with heap := s₂.heap, slotsUsed := s₂.slotsUsed } : State).setVm s₂.vm).setTop { g with pc := g.pc + len₂, stack := v.toList ++ g.stack })
    rw [← hs₂]
    exact hsteps
  · obtain ⟨e2, q2, q3, q4, q5, q6⟩ := id hsm
    have e3 : s₂ = ({ (U.calling g mk a).setFrames s₂.frames with heap := s₂.heap, slotsUsed := s₂.slotsUsed } : State).setVm s₂.vm := by
      have : s₂ = ({ s₂ with vm := (U.calling g mk a).vm } : State).setVm s₂.vm := rfl
      rw [e2] at this
      exact this
    have hf₂ : s₂.frames = .throwing q :: .java g :: U.frames.tail := hend
    have hW' : U.WarmedH s₂.vm := hW₂
    have hs₂ : s₂ = ((({ U with heap := s₂.heap, slotsUsed := s₂.slotsUsed } : State).setVm s₂.vm).setTop g).pushFrame (.throwing q) := by
      refine e3.trans ?_
      rw [hf₂, State.calling_eq h.top, State.setFrames_setFrames, State.pushFrame, State.frames_setTop _ hr', State.setTop_of_frames _ hr', State.setFrames_setFrames, hr]
      rfl
    have hsame : U.sameButNew ({ U with heap := s₂.heap, slotsUsed := s₂.slotsUsed } : State) L mc ms := by
      refine ⟨?_, q2, q3, q4, q5, q6⟩
      obtain ⟨t, ht, -⟩ := State.frames_cons hr
      show ({ U with heap := s₂.heap, slotsUsed := s₂.slotsUsed } : State) = { U.setFrames U.frames with heap := s₂.heap, slotsUsed := s₂.slotsUsed }
      rw [State.setFrames_self ht]
    subst hg
    refine Or.inr ⟨q, ⟨(({ U with heap := s₂.heap, slotsUsed := s₂.slotsUsed } : State).setVm s₂.vm), Ls ++ L, c0 + mc, s0 + ms⟩,
      ⟨X.admits, X.cas, X.clock, X.frames, X.room, X.hears, X.method, X.code, (X.here.setHeapUsed s₂.heap s₂.slotsUsed).setVm hW'.alike, X.tail, State.WarmedH.trans X.warmed hW', X.limits, X.bytes, X.same.trans (hsame.setVm s.vm)⟩,
      ⟨g, mk, s₂, L, E, ce, rfl, rfl, hx, hce, hcv, hcl, rfl, hL, rfl, rfl⟩, ?_⟩
    show Steps p.tables e below _ (((({ U with heap := s₂.heap, slotsUsed := s₂.slotsUsed } : State).setVm s₂.vm).setTop g).pushFrame (.throwing q))
    rw [← hs₂]
    exact hsteps
end Payer
section Calls
variable {p : Program} {l : Launch} {e : Env} {R : Room} {s : State} {m : MethodId} {args : Array Value} {below : List Frame} {meth : Method} {c : Code} {T : State} {locs : List Loc} {cells slots : Nat}
theorem vx_callV (X : Stand p l e R s m args below meth c T locs cells slots) (hexec : p.tables.exec = Jvm.exec) {own C : String} {index : Nat} {y : MethodName} {bytes : ByteArray} {maxL : Nat} {ret : Option FieldType}
    (hown : s.vm.findClass own = some m.cls) (hlink : (Cond.methodLink own index y).before args s = true) (hinst : (Cond.instanceMethod y).before args s = true) (hsel : (Cond.selects C y y).before args s = true)
    (hcode : (Cond.code y bytes maxL ret).before args s = true) (hy : y.cls ≠ "java/lang/invoke/MethodHandle" ∧ y.cls ≠ "java/lang/invoke/VarHandle")
    {W9 : Nat} {Pre : Pt → Array Value → Prop} {Post : Pt → Array Value → Option Value → Pt → Prop} {PostX : Pt → Array Value → Addr → Pt → Prop} (hK : vx_Back l R p e below s args y 3 W9 Pre Post PostX)
    {b : Addr} {cellB : Cell} (hcell : T.heap[b]? = some cellB) (hobj : cellB.vm.isStatics = false) (hcls : s.vm.findClass C = some cellB.cls)
    {g : JFrame} (hg : g.method = m) (hsize : g.locals.size = c.maxLocals) {argsL rest : List Value} (hlen : ∀ sig, parseMethodDescriptor y.desc = some sig → argsL.length = sig.parameters.length)
    (hstack : g.stack = argsL.reverse ++ .ref b :: rest) (hW : 2 * g.monitorRoom + (rest.map fun v => v.category).sum ≤ W9) (hdg : decode c.code g.pc = .ok (.invokevirtual index, 3))
    (hpre : ∀ vm₁, s.WarmedH vm₁ → Pre ⟨T.setVm vm₁, locs, cells, slots⟩ (Value.ref b :: argsL).toArray) :
    (∃ (v : Option Value) (vm₁ : Vm) (B : Pt), s.WarmedH vm₁ ∧ Stand p l e R s m args below meth c B.U B.locs B.cells B.slots ∧ Post ⟨T.setVm vm₁, locs, cells, slots⟩ (Value.ref b :: argsL).toArray v B ∧
      ∀ target, Steps p.tables e below (B.U.setTop { g with pc := g.pc + 3, stack := v.toList ++ rest }) target → Steps p.tables e below (T.setTop g) target) ∨
    (∃ (q : Addr) (vm₁ : Vm) (B : Pt), s.WarmedH vm₁ ∧ Stand p l e R s m args below meth c B.U B.locs B.cells B.slots ∧ PostX ⟨T.setVm vm₁, locs, cells, slots⟩ (Value.ref b :: argsL).toArray q B ∧
      Steps p.tables e below (T.setTop g) ((B.U.setTop { g with stack := rest }).pushFrame (.throwing q))) := by
  obtain ⟨mk, methM, hnamed, hmethM, hstM, habM⟩ := Cond.instanceMethod_spec hinst
  obtain ⟨methM', cM, hmethM', -, -, -, -, -, -, hsigM⟩ := Cond.code_spec hnamed hcode
  cases hmethM.symm.trans hmethM'
  obtain ⟨c2, r2, m2, q1, q2, q3, q4, kP, hkP, hkPi⟩ := Cond.selects_spec hsel
  cases hcls.symm.trans q1
  cases (State.methodFound?_of_named hnamed hy).symm.trans q2
  cases hnamed.symm.trans q3
  have hselP : selectMethod e.platform s.vm cellB.cls mk = .method mk := by rw [Launch.admits_selectMethod X.admits]; exact q4
  obtain ⟨vm₁, X₁, hstep₁⟩ := X.invokevirtual hexec hown hlink hnamed hmethM hstM hkP hkPi hy (a := b) (cell := cellB) hcell
    (fun z h => by rw [h] at hobj; cases hobj) hselP hmethM habM hkP hkPi (g := g) hg (argsL := argsL) (rest := rest) (hlen _ hsigM) hstack hdg
  rcases hK m meth c ⟨T.setVm vm₁, locs, cells, slots⟩ { g with stack := rest } (.invokevirtual index) mk (Value.ref b :: argsL).toArray X₁ hg hsize hdg hW (X₁.named hnamed) (hpre vm₁ X₁.warmed) with ⟨v, B, X', hpost, hsteps⟩ | ⟨q, B, X', hpost, hsteps⟩
  · exact Or.inl ⟨v, vm₁, B, X₁.warmed, X', hpost, fun target h => hstep₁ _ fun acts => by rw [doInvoke_state]; exact hsteps.trans h⟩
  · exact Or.inr ⟨q, vm₁, B, X₁.warmed, X', hpost, hstep₁ _ fun acts => by rw [doInvoke_state]; exact hsteps⟩
theorem vx_callS (X : Stand p l e R s m args below meth c T locs cells slots) (hexec : p.tables.exec = Jvm.exec) {own : String} {index : Nat} {y : MethodName} {bytes : ByteArray} {maxL : Nat} {ret : Option FieldType}
    (hown : s.vm.findClass own = some m.cls) (hlink : (Cond.methodLink own index y).before args s = true) (hstat : (Cond.static y).before args s = true) (hinit : (Cond.initialized y.cls).before args s = true)
    (hcode : (Cond.code y bytes maxL ret).before args s = true) (hy : y.cls ≠ "java/lang/invoke/MethodHandle" ∧ y.cls ≠ "java/lang/invoke/VarHandle")
    {W9 : Nat} {Pre : Pt → Array Value → Prop} {Post : Pt → Array Value → Option Value → Pt → Prop} {PostX : Pt → Array Value → Addr → Pt → Prop} (hK : vx_Back l R p e below s args y 3 W9 Pre Post PostX)
    {g : JFrame} (hg : g.method = m) (hsize : g.locals.size = c.maxLocals) {argsL rest : List Value} (hlen : ∀ sig, parseMethodDescriptor y.desc = some sig → argsL.length = sig.parameters.length)
    (hstack : g.stack = argsL.reverse ++ rest) (hW : 2 * g.monitorRoom + (rest.map fun v => v.category).sum ≤ W9) (hdg : decode c.code g.pc = .ok (.invokestatic index, 3))
    (hpre : ∀ vm₁, s.WarmedH vm₁ → Pre ⟨T.setVm vm₁, locs, cells, slots⟩ argsL.toArray) :
    (∃ (v : Option Value) (vm₁ : Vm) (B : Pt), s.WarmedH vm₁ ∧ Stand p l e R s m args below meth c B.U B.locs B.cells B.slots ∧ Post ⟨T.setVm vm₁, locs, cells, slots⟩ argsL.toArray v B ∧
      ∀ target, Steps p.tables e below (B.U.setTop { g with pc := g.pc + 3, stack := v.toList ++ rest }) target → Steps p.tables e below (T.setTop g) target) ∨
    (∃ (q : Addr) (vm₁ : Vm) (B : Pt), s.WarmedH vm₁ ∧ Stand p l e R s m args below meth c B.U B.locs B.cells B.slots ∧ PostX ⟨T.setVm vm₁, locs, cells, slots⟩ argsL.toArray q B ∧
      Steps p.tables e below (T.setTop g) ((B.U.setTop { g with stack := rest }).pushFrame (.throwing q))) := by
  obtain ⟨mk, hnamed⟩ := Cond.code_named hcode
  obtain ⟨methM, cM, hmethM, -, -, -, -, -, -, hsigM⟩ := Cond.code_spec hnamed hcode
  have hstatic : methM.isStatic = true := Cond.static_spec hnamed hmethM hstat
  obtain ⟨kP, hkP, -⟩ := className_of_methodNamed hnamed
  have hinitP : kP.init = .initialized := Cond.initialized_spec (findClass_of_methodNamed hnamed) hkP hinit
  obtain ⟨vm₁, X₁, hstep₁⟩ := X.invokestatic hexec hown hlink hnamed hmethM hstatic hkP hinitP hy (g := g) hg (argsL := argsL) (rest := rest) (hlen _ hsigM) hstack hdg
  rcases hK m meth c ⟨T.setVm vm₁, locs, cells, slots⟩ { g with stack := rest } (.invokestatic index) mk argsL.toArray X₁ hg hsize hdg hW (X₁.named hnamed) (hpre vm₁ X₁.warmed) with ⟨v, B, X', hpost, hsteps⟩ | ⟨q, B, X', hpost, hsteps⟩
  · exact Or.inl ⟨v, vm₁, B, X₁.warmed, X', hpost, fun target h => hstep₁ _ fun acts => by rw [doInvoke_state]; exact hsteps.trans h⟩
  · exact Or.inr ⟨q, vm₁, B, X₁.warmed, X', hpost, hstep₁ _ fun acts => by rw [doInvoke_state]; exact hsteps⟩
end Calls
theorem vx_cls {s : State} {T : State} {vm₁ : Vm} {E : String} {k : ClassId} (hW : s.WarmedH vm₁) (h : (T.setVm vm₁).vm.findClass E = some k) : s.vm.findClass E = some k := by
  have h1 : vm₁.findClass E = some k := h
  rw [hW.alike.findClass] at h1
  exact h1
/-- the method's frame g, with q thrown over it -/
def vx_W (p : Program) (l : Launch) (e : Env) (R : Room) (s : State) (m : MethodId) (args : Array Value) (below : List Frame) (meth : Method) (c : Code) (H : Heap) (locs : List Loc) (cells slots : Nat) (Q : State → Prop) (g : JFrame) (q : Addr) : Prop :=
  ∀ T : State, T.heap = H → Stand p l e R s m args below meth c T locs cells slots → ∃ t, Steps p.tables e below ((T.setTop g).pushFrame (.throwing q)) t ∧ Q t
def vx_Run (p : Program) (l : Launch) (e : Env) (R : Room) (s : State) (m : MethodId) (args : Array Value) (below : List Frame) (meth : Method) (c : Code) (H : Heap) (locs : List Loc) (cells slots mc ms : Nat) (g : JFrame) (rest : List Value) (Qa : State → Outcome → State → Prop) (XC : String → State → State → Prop) (free : Addr → Prop) : Prop :=
  ∀ T : State, T.heap = H → Stand p l e R s m args below meth c T locs cells slots →
    (∃ (v : Option Value) (st₀ t T' : State) (L : List Loc), st₀.heap = H ∧ Stand p l e R s m args below meth c T' (locs ++ L) (cells + mc) (slots + ms) ∧ (∀ q ∈ L, free q.base) ∧ T'.heap = t.heap ∧ T'.vm = t.vm ∧ Qa st₀ (.returned v) t ∧
      Goes p e below T g T' { g with pc := g.pc + 3, stack := v.toList ++ rest }) ∨
    (∃ (q : Addr) (st₀ t T' : State) (L : List Loc) (E : String) (ce : Cell), st₀.heap = H ∧ Stand p l e R s m args below meth c T' (locs ++ L) (cells + mc) (slots + ms) ∧ (∀ z ∈ L, free z.base) ∧ T'.heap = t.heap ∧ T'.vm = t.vm ∧ XC E st₀ t ∧ t.heap[q]? = some ce ∧ ce.vm = .none ∧ s.vm.findClass E = some ce.cls ∧
      Steps p.tables e below (T.setTop g) ((T'.setTop { g with stack := rest }).pushFrame (.throwing q)))
def vx_X {S : Type} (px : S → Prop) (B : String → S → State → Prop) (A : Nat → Prop) : String → State → State → Prop := fun E st t => ∃ u : S, px u ∧ B E u t ∧ va_F A st t
section Runs
variable {p : Program} {l : Launch} {e : Env} {R : Room} {s : State} {m : MethodId} {args : Array Value} {below : List Frame} {meth : Method} {c : Code} {H : Heap} {locs : List Loc} {cells slots : Nat}
variable {y : MethodName} {bytes cc : ByteArray} {maxL nL mc ms n index : Nat} {ret : Option FieldType} {ws : List Cond} {rm : Room} {Pc : Array Value → State → Prop} {Qc : Array Value → State → Outcome → State → Prop} {XC : String → State → State → Prop} {free : Addr → Prop} {Ts : List Cond} {own C : String} {b : Addr} {As rest : List Value} {g : JFrame}
theorem vx_callBack (cb : CallB R s args own index y bytes maxL ret ws rm mc ms n) (hM : vx_Met l y ws rm Pc Qc XC mc ms free) (hbl : FrameBlind Pc) : vx_Back l R p e below s args y 3 8 (PreOf R mc ms Pc) (PostOf Qc mc ms free) (vx_Post XC mc ms free) := by
  obtain ⟨hrc, hrs, hfr, hlo, hws, hcw, -, hini, -⟩ := cb
  exact vx_back (bytes := bytes) (maxL := maxL) (ret := ret) hM hbl hrc hrs hfr hlo hws hcw (fun a' U hW => word_at hW (Or.inl (by first | rfl | simp [Cond.onTables, Cond.keeps, Cond.steady])) hini)
theorem vx_runV (S : CallFix p m c cc nL s args Ts own) (hM : vx_Met l y ws rm Pc Qc XC mc ms free) (cw : CallW R s args own C index y bytes maxL ret ws rm mc ms n) (hp : PreV s H C b Pc As)
    (hg : g.method = m) (hn : As.length = n) (hsize : g.locals.size = nL) (hstack : g.stack = As.reverse ++ .ref b :: rest) (hW : 2 * g.monitorRoom + (rest.map fun v => v.category).sum ≤ 8) (hdg : decode cc g.pc = .ok (.invokevirtual index, 3)) (hf : cells + mc ≤ R.cells ∧ slots + ms ≤ R.slots) :
    vx_Run p l e R s m args below meth c H locs cells slots mc ms g rest (Qc (Value.ref b :: As).toArray) XC free := by
  have hK : vx_Back l R p e below s args y 3 8 (PreOf R mc ms Pc) (PostOf Qc mc ms free) (vx_Post XC mc ms free) := vx_callBack cw.1 hM hp.1
  obtain ⟨⟨-, -, -, -, -, -, hcode, -, hy, hlen, hl⟩, hin, hse⟩ := cw
  obtain ⟨hx, hb, hml, ho, -⟩ := S
  obtain ⟨-, ⟨cellB, hcB, hoB, hclB⟩, hPc⟩ := hp
  intro T hT X
  rcases vx_callV X hx (C := C) (bytes := bytes) (maxL := maxL) (ret := ret) ho hl hin hse hcode hy hK (by rw [hT]; exact hcB) hoB hclB hg (hsize.trans hml.symm) (argsL := As) (rest := rest) (fun sig h => hn.trans (hlen sig h)) hstack hW (by rw [hb]; exact hdg)
    (fun vm₁ hW₁ => ⟨hf.1, hf.2, hPc (T.setVm vm₁) hT hW₁⟩) with ⟨v, vm₁, ⟨U', l2, c2, s2⟩, hW₁, X', ⟨g', mk, t, L, e1, e2, hq, h1, hL, h2, h3⟩, st⟩ | ⟨q, vm₁, ⟨U', l2, c2, s2⟩, hW₁, X', ⟨g', mk, t, L, E, ce, e1, e2, hq, hce, hcv, hcl, h1, hL, h2, h3⟩, st⟩
  · dsimp only [Pt.U, Pt.locs, Pt.cells, Pt.slots] at X' e1 e2 h1 h2 h3 st
    subst h1; subst h2; subst h3
    exact Or.inl ⟨v, (T.setVm vm₁).calling g' mk (Value.ref b :: As).toArray, t, U', L, hT, X', hL, e1, e2, hq, st⟩
  · dsimp only [Pt.U, Pt.locs, Pt.cells, Pt.slots] at X' e1 e2 h1 h2 h3 st hcl
    subst h1; subst h2; subst h3
    exact Or.inr ⟨q, (T.setVm vm₁).calling g' mk (Value.ref b :: As).toArray, t, U', L, E, ce, hT, X', hL, e1, e2, hq, hce, hcv, vx_cls hW₁ hcl, st⟩
theorem vx_runS (S : CallFix p m c cc nL s args Ts own) (hM : vx_Met l y ws rm Pc Qc XC mc ms free) (cw : CallB R s args own index y bytes maxL ret ws rm mc ms n ∧ (Cond.static y).before args s = true) (hp : PreS s H Pc As)
    (hg : g.method = m) (hn : As.length = n) (hsize : g.locals.size = nL) (hstack : g.stack = As.reverse ++ rest) (hW : 2 * g.monitorRoom + (rest.map fun v => v.category).sum ≤ 8) (hdg : decode cc g.pc = .ok (.invokestatic index, 3)) (hf : cells + mc ≤ R.cells ∧ slots + ms ≤ R.slots) :
    vx_Run p l e R s m args below meth c H locs cells slots mc ms g rest (Qc As.toArray) XC free := by
  have hK : vx_Back l R p e below s args y 3 8 (PreOf R mc ms Pc) (PostOf Qc mc ms free) (vx_Post XC mc ms free) := vx_callBack cw.1 hM hp.1
  obtain ⟨⟨-, -, -, -, -, -, hcode, hini, hy, hlen, hl⟩, hstt⟩ := cw
  obtain ⟨hx, hb, hml, ho, -⟩ := S
  intro T hT X
  rcases vx_callS X hx (bytes := bytes) (maxL := maxL) (ret := ret) ho hl hstt hini hcode hy hK hg (hsize.trans hml.symm) (argsL := As) (rest := rest) (fun sig h => hn.trans (hlen sig h)) hstack hW (by rw [hb]; exact hdg)
    (fun vm₁ hW₁ => ⟨hf.1, hf.2, hp.2 (T.setVm vm₁) hT hW₁⟩) with ⟨v, vm₁, ⟨U', l2, c2, s2⟩, hW₁, X', ⟨g', mk, t, L, e1, e2, hq, h1, hL, h2, h3⟩, st⟩ | ⟨q, vm₁, ⟨U', l2, c2, s2⟩, hW₁, X', ⟨g', mk, t, L, E, ce, e1, e2, hq, hce, hcv, hcl, h1, hL, h2, h3⟩, st⟩
  · dsimp only [Pt.U, Pt.locs, Pt.cells, Pt.slots] at X' e1 e2 h1 h2 h3 st
    subst h1; subst h2; subst h3
    exact Or.inl ⟨v, (T.setVm vm₁).calling g' mk As.toArray, t, U', L, hT, X', hL, e1, e2, hq, st⟩
  · dsimp only [Pt.U, Pt.locs, Pt.cells, Pt.slots] at X' e1 e2 h1 h2 h3 st hcl
    subst h1; subst h2; subst h3
    exact Or.inr ⟨q, (T.setVm vm₁).calling g' mk As.toArray, t, U', L, E, ce, hT, X', hL, e1, e2, hq, hce, hcv, vx_cls hW₁ hcl, st⟩
end Runs
section Rows
variable {p : Program} {l : Launch} {e : Env} {R : Room} {s : State} {m : MethodId} {args : Array Value} {below : List Frame} {meth : Method} {c : Code} {H : Heap} {locs : List Loc} {cells slots : Nat} {Q : State → Prop}
variable {mc ms : Nat} {free : Addr → Prop} {A0 A1 : Nat → Prop} {H0 : Heap} {a : Array Value} {pc : Nat} {ls : Array Slot} {st0 rest : List Value}
theorem vx_keep {st₀ t T' : State} {L : List Loc} (h0 : st₀.heap = H) (e1 : T'.heap = t.heap) (hS : va_S A0 H0 H locs) (hA : ∀ q, q < H.size → A1 q → A0 q) (hf : ∀ q, free q → A0 q) (hL : ∀ q ∈ L, free q.base) (hF : va_F A1 st₀ t) :
    H.size ≤ T'.heap.size ∧ (∀ q : Nat, q < H.size → ¬ A1 q → T'.heap[q]? = H[q]?) ∧ va_S A0 H0 T'.heap (locs ++ L) := by
  obtain ⟨hz, hk⟩ := hF
  rw [h0] at hz hk
  exact ⟨by rw [e1]; exact hz, fun q h1 h2 => by rw [e1]; exact hk q h1 h2,
    ⟨Nat.le_trans hS.1 (by rw [e1]; exact hz), fun q h1 h2 => by rw [e1, hk q (Nat.lt_of_lt_of_le h1 hS.1) (fun z => h2 (hA q (Nat.lt_of_lt_of_le h1 hS.1) z))]; exact hS.2.1 q h1 h2, fun q hq => by
      rcases List.mem_append.mp hq with h | h
      · exact hS.2.2 q h
      · exact hf _ (hL q h)⟩⟩
theorem vx_calli {S SX : Type} {post : Int32 → S → Prop} {px : SX → Prop} {B : S → State → Prop} {BX : String → SX → State → Prop} {AX : Nat → Prop} (hr : vx_Run p l e R s m args below meth c H locs cells slots mc ms (F0 m pc ls st0) rest (va_Qi post B A1 a) (vx_X px BX AX) free) (hS : va_S A0 H0 H locs) (hA : ∀ q, q < H.size → A1 q → A0 q) (hf : ∀ q, free q → A0 q) (hAX : ∀ q, q < H.size → AX q → A0 q)
    (kx : ∀ (E : String) (ce : Cell) (q9 : Addr) (u : SX) (t : State) (H1 : Heap) (locs1 : List Loc), t.heap = H1 → s.vm.Alike t.vm → px u → BX E u t → H.size ≤ H1.size → (∀ q : Nat, q < H.size → ¬ AX q → H1[q]? = H[q]?) → va_S A0 H0 H1 locs1 → H1[q9]? = some ce → ce.vm = .none → s.vm.findClass E = some ce.cls → vx_W p l e R s m args below meth c H1 locs1 (cells + mc) (slots + ms) Q (F0 m pc ls rest) q9)
    (kk : ∀ (r : Int32) (u : S) (t : State) (H1 : Heap) (locs1 : List Loc), t.heap = H1 → s.vm.Alike t.vm → post r u → B u t → H.size ≤ H1.size → (∀ q : Nat, q < H.size → ¬ A1 q → H1[q]? = H[q]?) → va_S A0 H0 H1 locs1 → W p l e R s m args below meth c H1 locs1 (cells + mc) (slots + ms) Q (F0 m (pc + 3) ls (.int r :: rest))) : W p l e R s m args below meth c H locs cells slots Q (F0 m pc ls st0) := by
  intro T hT X
  rcases hr T hT X with ⟨v, st₀, t, T', L, h0, X', hL, e1, e2, ⟨⟨r, u, hv, hp, hb⟩, hF⟩, st⟩ | ⟨q, st₀, t, T', L, E, ce, h0, X', hL, e1, e2, ⟨u, hp, hb, hF⟩, hce, hcv, hcl, st⟩
  · cases hv
    obtain ⟨k1, k2, k3⟩ := vx_keep h0 e1 hS hA hf hL hF
    obtain ⟨t2, a1, b1⟩ := kk r u t T'.heap (locs ++ L) e1.symm (by rw [← e2]; exact X'.warmed.alike) hp hb k1 k2 k3 T' rfl X'
    exact ⟨t2, st t2 a1, b1⟩
  · obtain ⟨k1, k2, k3⟩ := vx_keep h0 e1 hS hAX hf hL hF
    obtain ⟨t2, a1, b1⟩ := kx E ce q u t T'.heap (locs ++ L) e1.symm (by rw [← e2]; exact X'.warmed.alike) hp hb k1 k2 k3 (by rw [e1]; exact hce) hcv hcl T' rfl X'
    exact ⟨t2, st.trans a1, b1⟩
theorem vx_calll {S SX : Type} {post : Int64 → S → Prop} {px : SX → Prop} {B : S → State → Prop} {BX : String → SX → State → Prop} {AX : Nat → Prop} (hr : vx_Run p l e R s m args below meth c H locs cells slots mc ms (F0 m pc ls st0) rest (va_Ql post B A1 a) (vx_X px BX AX) free) (hS : va_S A0 H0 H locs) (hA : ∀ q, q < H.size → A1 q → A0 q) (hf : ∀ q, free q → A0 q) (hAX : ∀ q, q < H.size → AX q → A0 q)
    (kx : ∀ (E : String) (ce : Cell) (q9 : Addr) (u : SX) (t : State) (H1 : Heap) (locs1 : List Loc), t.heap = H1 → s.vm.Alike t.vm → px u → BX E u t → H.size ≤ H1.size → (∀ q : Nat, q < H.size → ¬ AX q → H1[q]? = H[q]?) → va_S A0 H0 H1 locs1 → H1[q9]? = some ce → ce.vm = .none → s.vm.findClass E = some ce.cls → vx_W p l e R s m args below meth c H1 locs1 (cells + mc) (slots + ms) Q (F0 m pc ls rest) q9)
    (kk : ∀ (r : Int64) (u : S) (t : State) (H1 : Heap) (locs1 : List Loc), t.heap = H1 → s.vm.Alike t.vm → post r u → B u t → H.size ≤ H1.size → (∀ q : Nat, q < H.size → ¬ A1 q → H1[q]? = H[q]?) → va_S A0 H0 H1 locs1 → W p l e R s m args below meth c H1 locs1 (cells + mc) (slots + ms) Q (F0 m (pc + 3) ls (.long r :: rest))) : W p l e R s m args below meth c H locs cells slots Q (F0 m pc ls st0) := by
  intro T hT X
  rcases hr T hT X with ⟨v, st₀, t, T', L, h0, X', hL, e1, e2, ⟨⟨r, u, hv, hp, hb⟩, hF⟩, st⟩ | ⟨q, st₀, t, T', L, E, ce, h0, X', hL, e1, e2, ⟨u, hp, hb, hF⟩, hce, hcv, hcl, st⟩
  · cases hv
    obtain ⟨k1, k2, k3⟩ := vx_keep h0 e1 hS hA hf hL hF
    obtain ⟨t2, a1, b1⟩ := kk r u t T'.heap (locs ++ L) e1.symm (by rw [← e2]; exact X'.warmed.alike) hp hb k1 k2 k3 T' rfl X'
    exact ⟨t2, st t2 a1, b1⟩
  · obtain ⟨k1, k2, k3⟩ := vx_keep h0 e1 hS hAX hf hL hF
    obtain ⟨t2, a1, b1⟩ := kx E ce q u t T'.heap (locs ++ L) e1.symm (by rw [← e2]; exact X'.warmed.alike) hp hb k1 k2 k3 (by rw [e1]; exact hce) hcv hcl T' rfl X'
    exact ⟨t2, st.trans a1, b1⟩
theorem vx_callf {S SX : Type} {post : UInt32 → S → Prop} {px : SX → Prop} {B : S → State → Prop} {BX : String → SX → State → Prop} {AX : Nat → Prop} (hr : vx_Run p l e R s m args below meth c H locs cells slots mc ms (F0 m pc ls st0) rest (va_Qf post B A1 a) (vx_X px BX AX) free) (hS : va_S A0 H0 H locs) (hA : ∀ q, q < H.size → A1 q → A0 q) (hf : ∀ q, free q → A0 q) (hAX : ∀ q, q < H.size → AX q → A0 q)
    (kx : ∀ (E : String) (ce : Cell) (q9 : Addr) (u : SX) (t : State) (H1 : Heap) (locs1 : List Loc), t.heap = H1 → s.vm.Alike t.vm → px u → BX E u t → H.size ≤ H1.size → (∀ q : Nat, q < H.size → ¬ AX q → H1[q]? = H[q]?) → va_S A0 H0 H1 locs1 → H1[q9]? = some ce → ce.vm = .none → s.vm.findClass E = some ce.cls → vx_W p l e R s m args below meth c H1 locs1 (cells + mc) (slots + ms) Q (F0 m pc ls rest) q9)
    (kk : ∀ (r : UInt32) (u : S) (t : State) (H1 : Heap) (locs1 : List Loc), t.heap = H1 → s.vm.Alike t.vm → post r u → B u t → H.size ≤ H1.size → (∀ q : Nat, q < H.size → ¬ A1 q → H1[q]? = H[q]?) → va_S A0 H0 H1 locs1 → W p l e R s m args below meth c H1 locs1 (cells + mc) (slots + ms) Q (F0 m (pc + 3) ls (.float r :: rest))) : W p l e R s m args below meth c H locs cells slots Q (F0 m pc ls st0) := by
  intro T hT X
  rcases hr T hT X with ⟨v, st₀, t, T', L, h0, X', hL, e1, e2, ⟨⟨r, u, hv, hp, hb⟩, hF⟩, st⟩ | ⟨q, st₀, t, T', L, E, ce, h0, X', hL, e1, e2, ⟨u, hp, hb, hF⟩, hce, hcv, hcl, st⟩
  · cases hv
    obtain ⟨k1, k2, k3⟩ := vx_keep h0 e1 hS hA hf hL hF
    obtain ⟨t2, a1, b1⟩ := kk r u t T'.heap (locs ++ L) e1.symm (by rw [← e2]; exact X'.warmed.alike) hp hb k1 k2 k3 T' rfl X'
    exact ⟨t2, st t2 a1, b1⟩
  · obtain ⟨k1, k2, k3⟩ := vx_keep h0 e1 hS hAX hf hL hF
    obtain ⟨t2, a1, b1⟩ := kx E ce q u t T'.heap (locs ++ L) e1.symm (by rw [← e2]; exact X'.warmed.alike) hp hb k1 k2 k3 (by rw [e1]; exact hce) hcv hcl T' rfl X'
    exact ⟨t2, st.trans a1, b1⟩
theorem vx_calld {S SX : Type} {post : UInt64 → S → Prop} {px : SX → Prop} {B : S → State → Prop} {BX : String → SX → State → Prop} {AX : Nat → Prop} (hr : vx_Run p l e R s m args below meth c H locs cells slots mc ms (F0 m pc ls st0) rest (va_Qd post B A1 a) (vx_X px BX AX) free) (hS : va_S A0 H0 H locs) (hA : ∀ q, q < H.size → A1 q → A0 q) (hf : ∀ q, free q → A0 q) (hAX : ∀ q, q < H.size → AX q → A0 q)
    (kx : ∀ (E : String) (ce : Cell) (q9 : Addr) (u : SX) (t : State) (H1 : Heap) (locs1 : List Loc), t.heap = H1 → s.vm.Alike t.vm → px u → BX E u t → H.size ≤ H1.size → (∀ q : Nat, q < H.size → ¬ AX q → H1[q]? = H[q]?) → va_S A0 H0 H1 locs1 → H1[q9]? = some ce → ce.vm = .none → s.vm.findClass E = some ce.cls → vx_W p l e R s m args below meth c H1 locs1 (cells + mc) (slots + ms) Q (F0 m pc ls rest) q9)
    (kk : ∀ (r : UInt64) (u : S) (t : State) (H1 : Heap) (locs1 : List Loc), t.heap = H1 → s.vm.Alike t.vm → post r u → B u t → H.size ≤ H1.size → (∀ q : Nat, q < H.size → ¬ A1 q → H1[q]? = H[q]?) → va_S A0 H0 H1 locs1 → W p l e R s m args below meth c H1 locs1 (cells + mc) (slots + ms) Q (F0 m (pc + 3) ls (.double r :: rest))) : W p l e R s m args below meth c H locs cells slots Q (F0 m pc ls st0) := by
  intro T hT X
  rcases hr T hT X with ⟨v, st₀, t, T', L, h0, X', hL, e1, e2, ⟨⟨r, u, hv, hp, hb⟩, hF⟩, st⟩ | ⟨q, st₀, t, T', L, E, ce, h0, X', hL, e1, e2, ⟨u, hp, hb, hF⟩, hce, hcv, hcl, st⟩
  · cases hv
    obtain ⟨k1, k2, k3⟩ := vx_keep h0 e1 hS hA hf hL hF
    obtain ⟨t2, a1, b1⟩ := kk r u t T'.heap (locs ++ L) e1.symm (by rw [← e2]; exact X'.warmed.alike) hp hb k1 k2 k3 T' rfl X'
    exact ⟨t2, st t2 a1, b1⟩
  · obtain ⟨k1, k2, k3⟩ := vx_keep h0 e1 hS hAX hf hL hF
    obtain ⟨t2, a1, b1⟩ := kx E ce q u t T'.heap (locs ++ L) e1.symm (by rw [← e2]; exact X'.warmed.alike) hp hb k1 k2 k3 (by rw [e1]; exact hce) hcv hcl T' rfl X'
    exact ⟨t2, st.trans a1, b1⟩
theorem vx_callv {S SX : Type} {post : S → Prop} {px : SX → Prop} {B : S → State → Prop} {BX : String → SX → State → Prop} {AX : Nat → Prop} (hr : vx_Run p l e R s m args below meth c H locs cells slots mc ms (F0 m pc ls st0) rest (va_Qv post B A1 a) (vx_X px BX AX) free) (hS : va_S A0 H0 H locs) (hA : ∀ q, q < H.size → A1 q → A0 q) (hf : ∀ q, free q → A0 q) (hAX : ∀ q, q < H.size → AX q → A0 q)
    (kx : ∀ (E : String) (ce : Cell) (q9 : Addr) (u : SX) (t : State) (H1 : Heap) (locs1 : List Loc), t.heap = H1 → s.vm.Alike t.vm → px u → BX E u t → H.size ≤ H1.size → (∀ q : Nat, q < H.size → ¬ AX q → H1[q]? = H[q]?) → va_S A0 H0 H1 locs1 → H1[q9]? = some ce → ce.vm = .none → s.vm.findClass E = some ce.cls → vx_W p l e R s m args below meth c H1 locs1 (cells + mc) (slots + ms) Q (F0 m pc ls rest) q9)
    (kk : ∀ (u : S) (t : State) (H1 : Heap) (locs1 : List Loc), t.heap = H1 → s.vm.Alike t.vm → post u → B u t → H.size ≤ H1.size → (∀ q : Nat, q < H.size → ¬ A1 q → H1[q]? = H[q]?) → va_S A0 H0 H1 locs1 → W p l e R s m args below meth c H1 locs1 (cells + mc) (slots + ms) Q (F0 m (pc + 3) ls (rest))) : W p l e R s m args below meth c H locs cells slots Q (F0 m pc ls st0) := by
  intro T hT X
  rcases hr T hT X with ⟨v, st₀, t, T', L, h0, X', hL, e1, e2, ⟨⟨u, hv, hp, hb⟩, hF⟩, st⟩ | ⟨q, st₀, t, T', L, E, ce, h0, X', hL, e1, e2, ⟨u, hp, hb, hF⟩, hce, hcv, hcl, st⟩
  · cases hv
    obtain ⟨k1, k2, k3⟩ := vx_keep h0 e1 hS hA hf hL hF
    obtain ⟨t2, a1, b1⟩ := kk u t T'.heap (locs ++ L) e1.symm (by rw [← e2]; exact X'.warmed.alike) hp hb k1 k2 k3 T' rfl X'
    exact ⟨t2, st t2 a1, b1⟩
  · obtain ⟨k1, k2, k3⟩ := vx_keep h0 e1 hS hAX hf hL hF
    obtain ⟨t2, a1, b1⟩ := kx E ce q u t T'.heap (locs ++ L) e1.symm (by rw [← e2]; exact X'.warmed.alike) hp hb k1 k2 k3 (by rw [e1]; exact hce) hcv hcl T' rfl X'
    exact ⟨t2, st.trans a1, b1⟩
end Rows
section Ends
variable {p : Program} {l : Launch} {e : Env} {R : Room} {s : State} {m : MethodId} {args : Array Value} {below : List Frame} {meth : Method} {c : Code} {H : Heap} {locs : List Loc} {cells slots : Nat} {Q : State → Prop}
variable {mc ms : Nat} {free : Addr → Prop} {A0 A1 : Nat → Prop} {H0 : Heap} {a : Array Value} {ls : Array Slot} {st0 rest : List Value}
variable {Qc : Array Value → State → Outcome → State → Prop} {XC : String → State → State → Prop}
/-- what a body that may throw owes at its end -/
def vx_MQ (below : List Frame) (Qc : Array Value → State → Outcome → State → Prop) (XC : String → State → State → Prop) (a : Array Value) (s : State) (mc ms : Nat) (free : Addr → Prop) : State → Prop := fun t =>
  ∃ o, t.status = .running ∧ Ended t below o ∧ vx_Q Qc XC mc ms free a s o t
theorem vx_ret {g : JFrame} {mc ms : Nat} (k : W p l e R s m args below meth c H locs cells slots (MQ below Qc args s mc ms free) g) : W p l e R s m args below meth c H locs cells slots (vx_MQ below Qc XC args s mc ms free) g := by
  intro T hT X
  obtain ⟨t, a1, o, b1, b2, b3, b4⟩ := k T hT X
  exact ⟨t, a1, o, b1, b2, Or.inl ⟨b3, b4⟩⟩
/-- not caught here: it goes on to the caller -/
theorem vx_widen {g : JFrame} {q : Addr} {k n : Nat} (h1 : cells ≤ k) (h2 : slots ≤ n) (kk : vx_W p l e R s m args below meth c H locs k n Q g q) : vx_W p l e R s m args below meth c H locs cells slots Q g q := fun T hT X => kk T hT (stand_widen X h1 h2)
theorem vx_out {pc : Nat} {E : String} {ce : Cell} {q : Addr} {mc ms : Nat} (hout : ∀ x ∈ c.exceptionTable.toList, covers x pc = false) (hlocks : meth.locks = false) (hcell : H[q]? = some ce) (hv : ce.vm = .none) (hcl : s.vm.findClass E = some ce.cls)
    (hx : ∀ t : State, t.heap = H → s.vm.Alike t.vm → XC E s t) (hf : ∀ z ∈ locs, free z.base) (hc : cells ≤ mc) (hs : slots ≤ ms) :
    vx_W p l e R s m args below meth c H locs cells slots (vx_MQ below Qc XC args s mc ms free) (F0 m pc ls rest) q := by
  intro T hT X
  obtain ⟨st1, hrun, hend, hW, hsm⟩ := X.leaveThrown q (g := F0 m pc ls rest) rfl rfl rfl hout hlocks
  have hcell9 : (T.setFrames (.throwing q :: below)).heap[q]? = some ce := by
    show T.heap[q]? = some ce
    rw [hT]; exact hcell
  exact ⟨_, st1, .threw q, hrun, hend, Or.inr ⟨q, rfl, E, ce, locs, hx _ hT hW.alike, hcell9, hv, hcl, hW, hsm.mono hc hs, hf⟩⟩
theorem vx_frame {U : State} {k n : Nat} (h : s.sameButNew ({ U with vm := s.vm } : State) locs k n) : s.heap.size ≤ U.heap.size ∧ ∀ q : Nat, q < s.heap.size → (∀ z ∈ locs, z.base ≠ q) → U.heap[q]? = s.heap[q]? := by
  obtain ⟨-, h2, -, -, -, h6⟩ := h
  refine ⟨h2, fun q hq hz => ?_⟩
  obtain ⟨c9, e1, e2, e3, e4⟩ := h6 q _ (Array.getElem?_eq_getElem hq)
  have hs : c9.slots = (s.heap[q]).slots := Array.ext_getElem? fun i => e4 i fun hm => hz _ hm rfl
  have h9 : c9 = s.heap[q] := by
    rw [hs] at e2
    exact e2
  have e5 : U.heap[q]? = some c9 := e1
  rw [e5, h9, Array.getElem?_eq_getElem hq]
/-- the words of a throw but the four that speak of the heap -/
def vx_no (w : Cond) : Bool := decide (w ≠ .isRef (.static Bundle.tN "UNASSIGNED_STACK" Bundle.steD)) && decide (w ≠ .isRef (.static Bundle.tN "SUPPRESSED_SENTINEL" Bundle.listD)) && decide (w ≠ .laysStatic Bundle.tN "UNASSIGNED_STACK" Bundle.steD) && decide (w ≠ .laysStatic Bundle.tN "SUPPRESSED_SENTINEL" Bundle.listD)
def vx_at0 (own : String) (ic : Nat) (X : String) (names : List String) : List Cond := (Bundle.ownAtoms0 own ic X names).filter vx_no
def vx_atS (own : String) (ic : Nat) (X : String) (names : List String) : List Cond := (Bundle.ownAtoms own ic X names).filter vx_no
/-- a word that the tables alone decide, or a good one -/
def vx_ot (w : Cond) : Bool := w.onTables || goodWord w
theorem vx_ot_at {args a' : Array Value} {s U : State} {w : Cond} (hW : s.WarmedH U.vm) (hvm : s.vm = U.vm) (hg : vx_ot w = true) (h : w.before args s = true) : w.before a' U = true := by
  simp only [vx_ot, Bool.or_eq_true] at hg
  rcases hg with hg | hg
  · exact va_tabs hg hvm h
  · exact word_at hW (good_of_word hg) h
/-- a list's words: the good ones out of the method's own list, the others by premises of their own -/
theorem vx_hat {args : Array Value} {s : State} {L B : List Cond} (h1 : ∀ w ∈ L.filter goodWord, w.before args s = true) (h2 : ∀ w ∈ L.filter (fun w => !goodWord w), w ∈ B) (h3 : ∀ w ∈ B, w.before args s = true) : ∀ w ∈ L, w.before args s = true := by
  intro w hw
  by_cases g : goodWord w = true
  · exact h1 w (List.mem_filter.mpr ⟨hw, g⟩)
  · refine h3 w (h2 w (List.mem_filter.mpr ⟨hw, ?_⟩))
    show (!goodWord w) = true
    cases hgw : goodWord w
    · rfl
    · exact absurd hgw g
theorem vx_c {args : Array Value} {s : State} {w : Cond} {B : List Cond} (h : w.before args s = true) (t : ∀ w ∈ B, w.before args s = true) : ∀ w' ∈ w :: B, w'.before args s = true := fun w' h' => (List.mem_cons.mp h').elim (fun e => by rw [e]; exact h) (t w')
theorem vx_n {args : Array Value} {s : State} : ∀ w ∈ ([] : List Cond), w.before args s = true := fun _ h => nomatch h
theorem vx_own {args : Array Value} {s : State} {L : List Cond} (h1 : ∀ w ∈ L.filter vx_no, w.before args s = true)
    (hU : (Cond.isRef (.static Bundle.tN "UNASSIGNED_STACK" Bundle.steD)).before args s = true) (hN : (Cond.isRef (.static Bundle.tN "SUPPRESSED_SENTINEL" Bundle.listD)).before args s = true)
    (lU : (Cond.laysStatic Bundle.tN "UNASSIGNED_STACK" Bundle.steD).before args s = true) (lN : (Cond.laysStatic Bundle.tN "SUPPRESSED_SENTINEL" Bundle.listD).before args s = true) : ∀ w ∈ L, w.before args s = true := by
  intro w hw
  by_cases e1 : w = .isRef (.static Bundle.tN "UNASSIGNED_STACK" Bundle.steD)
  · rw [e1]; exact hU
  · by_cases e2 : w = .isRef (.static Bundle.tN "SUPPRESSED_SENTINEL" Bundle.listD)
    · rw [e2]; exact hN
    · by_cases e3 : w = .laysStatic Bundle.tN "UNASSIGNED_STACK" Bundle.steD
      · rw [e3]; exact lU
      · by_cases e4 : w = .laysStatic Bundle.tN "SUPPRESSED_SENTINEL" Bundle.listD
        · rw [e4]; exact lN
        · exact h1 w (List.mem_filter.mpr ⟨hw, by unfold vx_no; rw [decide_eq_true e1, decide_eq_true e2, decide_eq_true e3, decide_eq_true e4]; rfl⟩)
/-- where a static field lies, its class's statics cell in H -/
def vx_L (C n d : String) (A : Nat → Prop) (U : State) (H : Heap) : Prop := ∃ (c : ClassId) (k : Class) (i : Nat) (f : Field) (a : Nat) (cell : Cell), U.vm.findClass C = some c ∧ U.fieldFound? C n d = some (c, k, i, f) ∧ f.isStatic = true ∧ k.statics = some a ∧ H[a]? = some cell ∧ cell.vm.isStatics = true ∧ cell.cls = c ∧ f.slot < cell.slots.size ∧ k.staticTypes[f.slot]? = some f.type ∧ ¬ A a
theorem vx_L.moved {C n d : String} {A : Nat → Prop} {u U : State} {H : Heap} (hvm : u.vm.Alike U.vm) (h : vx_L C n d A u H) : vx_L C n d A U H := by
  obtain ⟨c, k, i, f, a, cell, h1, h2, h3, h4, h5, h6, h7, h8, h9, h10⟩ := h
  obtain ⟨k', hi', he⟩ := State.fieldFound?_setVm hvm h2
  exact ⟨c, k', i, f, a, cell, by rw [hvm.findClass]; exact h1, hi', h3, by rw [he]; exact h4, h5, h6, h7, h8, by rw [he]; exact h9, h10⟩
theorem vx_L.kept {C n d : String} {A : Nat → Prop} {U : State} {H H1 : Heap} (h : vx_L C n d A U H) (hq : ∀ a : Nat, a < H.size → ¬ A a → H1[a]? = H[a]?) : vx_L C n d A U H1 := by
  obtain ⟨c, k, i, f, a, cell, h1, h2, h3, h4, h5, h6, h7, h8, h9, h10⟩ := h
  exact ⟨c, k, i, f, a, cell, h1, h2, h3, h4, by rw [hq a (Array.getElem?_eq_some_iff.mp h5).1 h10]; exact h5, h6, h7, h8, h9, h10⟩
theorem vx_L.narrow {C n d : String} {A B : Nat → Prop} {U : State} {H : Heap} (h : vx_L C n d A U H) (hAB : ∀ q, B q → A q) : vx_L C n d B U H := by
  obtain ⟨c, k, i, f, a, cell, h1, h2, h3, h4, h5, h6, h7, h8, h9, h10⟩ := h
  exact ⟨c, k, i, f, a, cell, h1, h2, h3, h4, h5, h6, h7, h8, h9, fun z => h10 (hAB _ z)⟩
theorem vx_L.word {C n d : String} {A : Nat → Prop} {s : State} {args : Array Value} (h : vx_L C n d A s s.heap) : (Cond.laysStatic C n d).before args s = true := by
  obtain ⟨c, k, i, f, a, cell, h1, h2, h3, h4, h5, h6, h7, h8, h9, -⟩ := h
  show (Cond.laysStatic C n d).holds args s none s [] = true
  exact Cond.laysStatic_of h1 h2 h3 h4 h5 h6 h7 h8 h9
/-- .. and what it holds: null or some reference -/
def vx_Zq (C n d : String) (A : Nat → Prop) (U : State) (H : Heap) : Prop := va_Zq C n d A U H ∧ vx_L C n d A U H
theorem vx_Zq.moved {C n d : String} {A : Nat → Prop} {u U : State} {H : Heap} (hvm : u.vm.Alike U.vm) (h : vx_Zq C n d A u H) : vx_Zq C n d A U H := ⟨va_Zq.moved hvm h.1, vx_L.moved hvm h.2⟩
theorem vx_Zq.kept {C n d : String} {A : Nat → Prop} {U : State} {H H1 : Heap} (h : vx_Zq C n d A U H) (hq : ∀ a : Nat, a < H.size → ¬ A a → H1[a]? = H[a]?) : vx_Zq C n d A U H1 := ⟨va_Zq.kept h.1 hq, vx_L.kept h.2 hq⟩
theorem vx_Zq.narrow {C n d : String} {A B : Nat → Prop} {U : State} {H : Heap} (h : vx_Zq C n d A U H) (hAB : ∀ q, B q → A q) : vx_Zq C n d B U H := ⟨va_Zq.narrow h.1 hAB, vx_L.narrow h.2 hAB⟩
theorem vx_Zqof {args : Array Value} {s : State} {C n d : String} {A : Nat → Prop} (hl : (Cond.laysStatic C n d).before args s = true) (hini : (Cond.initialized C).before args s = true) (h : (Cond.isRef (.static C n d)).before args s = true) (hA : ∀ a : Nat, a < s.heap.size → ¬ A a) : vx_Zq C n d A s s.heap := by
  refine ⟨va_Zqof hl hini h hA, ?_⟩
  obtain ⟨c, k, i, f, a, cell, h1, h2, h3, h4, h5, h6, h7, h8, h9⟩ := Cond.laysStatic_spec hl
  exact ⟨c, k, i, f, a, cell, h1, h2, h3, h4, h5, h6, h7, h8, h9, hA a (Array.getElem?_eq_some_iff.mp h5).1⟩
theorem vx_isRef {C n d : String} {v : Value} {A : Nat → Prop} {s : State} {args : Array Value} (h : va_Z C n d v A s s.heap) (hv : v.isRef = true) : (Cond.isRef (.static C n d)).before args s = true := by
  obtain ⟨cf, kf, fi, f, a, cell, h1, h2, h3, h4, h5, h6, h7, -⟩ := h
  have he : (Term.static C n d).eval args s none [] s = some v := by
    simp [Term.eval, State.fieldNamed?, h1, h2, h4, h5, h6, h7]
  simp only [Cond.before, Cond.holds, Cond.value, he]
  cases v <;> simp_all [Value.isRef]
theorem vx_isRefq {C n d : String} {A : Nat → Prop} {s : State} {args : Array Value} (h : va_Zq C n d A s s.heap) : (Cond.isRef (.static C n d)).before args s = true := by
  rcases h with h | ⟨t, h⟩
  · exact vx_isRef h rfl
  · exact vx_isRef h rfl
/-- the same frame, seen from here: as if the method were called anew in this heap -/
theorem vx_rebase {T : State} (X : Stand p l e R s m args below meth c T locs cells slots) {R' : Room} (hf : R'.frames ≤ R.frames) (hl : R'.locals ≤ R.locals) (hc : cells + R'.cells ≤ R.cells) (hs : slots + R'.slots ≤ R.slots) :
    Stand p l e R' ((T.setVm s.vm).setFrames (.invoking m args :: below)) m args below meth c T [] 0 0 := by
  have htop : (T.setVm s.vm).topJava?.isSome := X.here.top
  have hF : ((T.setVm s.vm).setFrames (.invoking m args :: below)).frames = .invoking m args :: below := State.frames_setFrames _ (State.cur_lt_of_top htop)
  obtain ⟨g₀, hg0⟩ := Option.isSome_iff_exists.mp htop
  obtain ⟨r, hr⟩ := State.topJava?_eq_some.mp hg0
  have hl9 : e.platform.stackLimits (T.setVm s.vm).me = e.platform.stackLimits s.me := X.limits
  have hb9 : (T.setVm s.vm).me.stackBytes = s.me.stackBytes := X.bytes
  refine ⟨X.admits, X.cas, X.clock, hF, ?_, X.hears, X.method, X.code, X.here, X.tail, X.warmed, ?_, ?_, ?_⟩
  · have h := X.room
    have hU : ((T.setVm s.vm).setFrames (.invoking m args :: below)).localsInUse = s.localsInUse := by
      rw [State.localsInUse_invoking hF (meth := meth) (c := c) X.method X.code, State.localsInUse_invoking X.frames X.method X.code]
    simp only [State.hasRoom, Bool.and_eq_true, decide_eq_true_eq] at h ⊢
    obtain ⟨⟨⟨⟨h1, h2, h3, h4, h5, h6⟩, h7⟩, h8⟩, h9⟩ := h
    rw [X.frames, List.length_cons] at h2 h3
    have q1 := X.heapSize
    have q2 := X.used
    simp only [hF, hU, List.length_cons, State.stackLimits_setFrames, State.stackBytes_setFrames, hl9, hb9]
    refine ⟨⟨⟨⟨by omega, by omega, by omega, by omega, by omega, h6⟩, ?_⟩, ?_⟩, X.book⟩
    · show T.heap.size + R'.cells ≤ e.platform.maxCells
      omega
    · show T.slotsUsed + R'.slots ≤ e.platform.maxSlots
      omega
  · rw [State.stackLimits_setFrames]; rfl
  · rw [State.stackBytes_setFrames]; rfl
  · refine ⟨?_, Nat.le_refl _, Nat.le_refl _, ?_, ?_, fun a c9 h9 => ⟨c9, h9, rfl, rfl, fun _ _ => rfl⟩⟩
    · obtain ⟨t, ht, -⟩ := State.frames_cons hr
      show T.setVm s.vm = { ((T.setVm s.vm).setFrames (.invoking m args :: below)).setFrames (T.setVm s.vm).frames with heap := T.heap, slotsUsed := T.slotsUsed }
      rw [State.setFrames_setFrames, State.setFrames_self ht]
      rfl
    · show T.slotsUsed = T.slotsUsed + ((T.heap.toList.drop T.heap.size).map (·.slots.size)).sum
      rw [List.drop_eq_nil_of_le (Nat.le_of_eq Array.length_toList)]
      rfl
    · show ((T.heap.toList.drop T.heap.size).map (·.slots.size)).sum ≤ 0
      rw [List.drop_eq_nil_of_le (Nat.le_of_eq Array.length_toList)]
      exact Nat.le_refl _
/-- 'throw new E()': new; dup; invokespecial; athrow -/
theorem vx_throw0 {cc : ByteArray} {pc : Nat} (hexec : p.tables.exec = Jvm.exec) (hb : c.code = cc) (hl : l.stackTraces = false) {own cls : String} {names : List String} {ik ic mc ms : Nat} {A : Nat → Prop}
    (hown : s.vm.findClass own = some m.cls) (hcls : Bundle.fit cls = true) (hnames : ∀ n ∈ names, Bundle.fit n = true)
    (hk : (Cond.classLink own ik cls).before args s = true) (hini : (Cond.initialized cls).before args s = true) (hat : ∀ w ∈ vx_at0 own ic cls names, w.before args s = true)
    (hgood : ∀ w ∈ Cond.classLink own ik cls :: Cond.initialized cls :: vx_at0 own ic cls names, vx_ot w = true)
    (hU : vx_Zq Bundle.tN "UNASSIGNED_STACK" Bundle.steD A s s.heap) (hN : vx_Zq Bundle.tN "SUPPRESSED_SENTINEL" Bundle.listD A s s.heap) (hS : va_S A s.heap H locs) (hsize : ls.size = c.maxLocals)
    (d0 : decode cc pc = .ok (.new ik, 3)) (d3 : decode cc (pc + 3) = .ok (.dup, 1)) (d4 : decode cc (pc + 4) = .ok (.invokespecial ic, 3)) (d7 : decode cc (pc + 7) = .ok (.athrow, 1))
    (hout : ∀ x ∈ c.exceptionTable.toList, covers x (pc + 7) = false)
    (hRframes : names.length + 3 < R.frames) (hRlocals : (rest.map fun v => v.category).sum + (13 * (names.length + 1) + 42) ≤ R.locals) (hRcells : cells + 1 ≤ R.cells) (hRslots : slots + 6 ≤ R.slots) (hlocks : meth.locks = false)
    (hx : ∀ t : State, s.vm.Alike t.vm → H.size ≤ t.heap.size → (∀ q : Nat, q < H.size → t.heap[q]? = H[q]?) → XC cls s t)
    (hf : ∀ z ∈ locs, free z.base) (hc : cells + 1 ≤ mc) (hs : slots + 6 ≤ ms) :
    W p l e R s m args below meth c H locs cells slots (vx_MQ below Qc XC args s mc ms free) (F0 m pc ls rest) := by
  intro T hT X
  have htr : e.platform.stackTraces = false := (show e.platform.stackTraces = l.stackTraces by rw [X.admits.platform]).trans hl
  have Y := vx_rebase X (R' := { frames := R.frames, locals := R.locals, cells := 1, slots := 6 }) (Nat.le_refl _) (Nat.le_refl _) hRcells hRslots
  obtain ⟨s', hA⟩ : ∃ z, z = (T.setVm s.vm).setFrames (.invoking m args :: below) := ⟨_, rfl⟩
  rw [← hA] at Y
  have hvm : s'.vm = s.vm := by rw [hA]; rfl
  have hhp : s'.heap = H := by rw [hA]; exact hT
  have hW0 : s.WarmedH s'.vm := by rw [hvm]; exact State.WarmedH.refl s
  have hat' : ∀ w ∈ vx_at0 own ic cls names, w.before args s' = true := fun w hw => vx_ot_at hW0 hvm.symm (hgood w (List.mem_cons_of_mem _ (List.mem_cons_of_mem _ hw))) (hat w hw)
  have hk' : (Cond.classLink own ik cls).before args s' = true := vx_ot_at hW0 hvm.symm (hgood _ List.mem_cons_self) hk
  have hini' : (Cond.initialized cls).before args s' = true := vx_ot_at hW0 hvm.symm (hgood _ (List.mem_cons_of_mem _ List.mem_cons_self)) hini
  have hU' : vx_Zq Bundle.tN "UNASSIGNED_STACK" Bundle.steD A s' s'.heap := by rw [hhp]; exact vx_Zq.moved hW0.alike (hU.kept hS.2.1)
  have hN' : vx_Zq Bundle.tN "SUPPRESSED_SENTINEL" Bundle.listD A s' s'.heap := by rw [hhp]; exact vx_Zq.moved hW0.alike (hN.kept hS.2.1)
  have h : ∀ w ∈ Bundle.ownAtoms0 own ic cls names, w.before args s' = true := vx_own hat' (vx_isRefq hU'.1) (vx_isRefq hN'.1) hU'.2.word hN'.2.word
  have hown' : s'.vm.findClass own = some m.cls := by rw [hvm]; exact hown
  have hins : (Cond.instantiable cls 6).before args s' = true := h _ (by simp [Bundle.ownAtoms0])
  obtain ⟨vm₁, cX, kX, hfX, hkX, -, -, X₁, st1⟩ := Y.newCold hexec (own := own) (C := cls) (index := ik) (n := 6) hown' hk' hins hini'
    (g := F0 m pc ls rest) rfl (by rw [hb]; exact d0) (Nat.le_refl _) (Nat.le_refl _)
  generalize hT1 : (T.setVm vm₁).pushCell { cls := cX, slots := kX.instanceTypes.map defaultValue, vm := .none } = T1 at X₁ st1
  have hcat : (Value.ref T.heap.size).category = 1 := rfl
  have hcellA : T1.heap[T.heap.size]? = some (freshCell cX kX) := by rw [← hT1]; exact State.heap_pushCell_size _ _
  have d3' : decode c.code (pc + 3) = .ok (.dup, 1) := by rw [hb]; exact d3
  obtain ⟨U, hsteps, hrun, hend, hW, hsame, ce, hce, hO⟩ := X₁.ctorThrow0 hexec htr (own := own) (cls := cls) (names := names) (ic := ic) hown' hcls hnames h (fun x hx => nomatch hx) hfX hkX hcellA (by rw [hhp, hT]; exact Nat.le_refl _)
    (g := { method := m, pc := pc + 4, locals := ls, stack := .ref T.heap.size :: .ref T.heap.size :: rest, locked := none }) rfl hsize rfl rfl (rest := rest) rfl
    (by rw [hb]; exact d4) (by rw [hb]; exact d7) hout hRframes (by simp only [List.map_cons, List.sum_cons, hcat]; omega) hlocks
  obtain ⟨f1, f2⟩ := vx_frame hsame
  rw [hhp] at f1 f2
  have hWs : s.WarmedH U.vm := State.WarmedH.trans hW0 hW
  have hcl : s.vm.findClass cls = some ce.cls := by
    have h9 := hO.cls
    rw [hvm] at h9
    exact h9
  have hall : s.sameButNew ({ U with vm := s.vm } : State) locs mc ms := by
    subst hA
    obtain ⟨e1, e2⟩ := hsame
    rw [State.setFrames_setFrames] at e1
    have h2 : (T.setVm s.vm).sameButNew ({ U with vm := s.vm } : State) [] (0 + 1) (0 + 6) := ⟨e1, e2⟩
    have h3 := X.same.trans h2
    rw [List.append_nil] at h3
    exact h3.mono hc hs
  refine ⟨U, ?_, .threw T.heap.size, hrun, hend, Or.inr ⟨T.heap.size, rfl, cls, ce, locs, hx U hWs.alike f1 (fun q hq => f2 q hq (fun z hz => nomatch hz)), hce, hO.vm, hcl, hWs, hall, hf⟩⟩
  refine st1 _ ?_
  show Steps p.tables e below (T1.setTop { method := m, pc := pc + 3, locals := ls, stack := .ref T.heap.size :: rest, locked := none }) _
  jvm_step X₁.here [X₁.here.top, hexec, d3', Value.category]
  exact hsteps
/-- 'throw new E("text")': new; dup; ldc; invokespecial; athrow -/
theorem vx_throwS {cc : ByteArray} {pc : Nat} (hexec : p.tables.exec = Jvm.exec) (hb : c.code = cc) (hl : l.stackTraces = false) {own cls text : String} {names : List String} {ik is ic mc ms sa : Nat} {A : Nat → Prop}
    (hown : s.vm.findClass own = some m.cls) (hcls : Bundle.fit cls = true) (hnames : ∀ n ∈ names, Bundle.fit n = true)
    (hk : (Cond.classLink own ik cls).before args s = true) (hini : (Cond.initialized cls).before args s = true) (hstr : vk_R own is text sa s) (hat : ∀ w ∈ vx_atS own ic cls names, w.before args s = true)
    (hgood : ∀ w ∈ Cond.classLink own ik cls :: Cond.initialized cls :: vx_atS own ic cls names, vx_ot w = true)
    (hU : vx_Zq Bundle.tN "UNASSIGNED_STACK" Bundle.steD A s s.heap) (hN : vx_Zq Bundle.tN "SUPPRESSED_SENTINEL" Bundle.listD A s s.heap) (hS : va_S A s.heap H locs) (hsize : ls.size = c.maxLocals)
    (d0 : decode cc pc = .ok (.new ik, 3)) (d3 : decode cc (pc + 3) = .ok (.dup, 1)) (d4 : decode cc (pc + 4) = .ok (.ldc is, 2)) (d6 : decode cc (pc + 6) = .ok (.invokespecial ic, 3)) (d9 : decode cc (pc + 9) = .ok (.athrow, 1))
    (hout : ∀ x ∈ c.exceptionTable.toList, covers x (pc + 9) = false)
    (hRframes : names.length + 3 < R.frames) (hRlocals : (rest.map fun v => v.category).sum + (13 * (names.length + 1) + 43) ≤ R.locals) (hRcells : cells + 1 ≤ R.cells) (hRslots : slots + 6 ≤ R.slots) (hlocks : meth.locks = false)
    (hx : ∀ t : State, s.vm.Alike t.vm → H.size ≤ t.heap.size → (∀ q : Nat, q < H.size → t.heap[q]? = H[q]?) → XC cls s t)
    (hf : ∀ z ∈ locs, free z.base) (hc : cells + 1 ≤ mc) (hs : slots + 6 ≤ ms) :
    W p l e R s m args below meth c H locs cells slots (vx_MQ below Qc XC args s mc ms free) (F0 m pc ls rest) := by
  intro T hT X
  have htr : e.platform.stackTraces = false := (show e.platform.stackTraces = l.stackTraces by rw [X.admits.platform]).trans hl
  have Y := vx_rebase X (R' := { frames := R.frames, locals := R.locals, cells := 1, slots := 6 }) (Nat.le_refl _) (Nat.le_refl _) hRcells hRslots
  obtain ⟨s', hA⟩ : ∃ z, z = (T.setVm s.vm).setFrames (.invoking m args :: below) := ⟨_, rfl⟩
  rw [← hA] at Y
  have hvm : s'.vm = s.vm := by rw [hA]; rfl
  have hhp : s'.heap = H := by rw [hA]; exact hT
  have hW0 : s.WarmedH s'.vm := by rw [hvm]; exact State.WarmedH.refl s
  have hat' : ∀ w ∈ vx_atS own ic cls names, w.before args s' = true := fun w hw => vx_ot_at hW0 hvm.symm (hgood w (List.mem_cons_of_mem _ (List.mem_cons_of_mem _ hw))) (hat w hw)
  have hk' : (Cond.classLink own ik cls).before args s' = true := vx_ot_at hW0 hvm.symm (hgood _ List.mem_cons_self) hk
  have hini' : (Cond.initialized cls).before args s' = true := vx_ot_at hW0 hvm.symm (hgood _ (List.mem_cons_of_mem _ List.mem_cons_self)) hini
  have hU' : vx_Zq Bundle.tN "UNASSIGNED_STACK" Bundle.steD A s' s'.heap := by rw [hhp]; exact vx_Zq.moved hW0.alike (hU.kept hS.2.1)
  have hN' : vx_Zq Bundle.tN "SUPPRESSED_SENTINEL" Bundle.listD A s' s'.heap := by rw [hhp]; exact vx_Zq.moved hW0.alike (hN.kept hS.2.1)
  have h : ∀ w ∈ Bundle.ownAtoms own ic cls names, w.before args s' = true := vx_own hat' (vx_isRefq hU'.1) (vx_isRefq hN'.1) hU'.2.word hN'.2.word
  have hown' : s'.vm.findClass own = some m.cls := by rw [hvm]; exact hown
  have hins : (Cond.instantiable cls 6).before args s' = true := h _ (by simp [Bundle.ownAtoms])
  obtain ⟨vm₁, cX, kX, hfX, hkX, -, -, X₁, st1⟩ := Y.newCold hexec (own := own) (C := cls) (index := ik) (n := 6) hown' hk' hins hini'
    (g := F0 m pc ls rest) rfl (by rw [hb]; exact d0) (Nat.le_refl _) (Nat.le_refl _)
  generalize hT1 : (T.setVm vm₁).pushCell { cls := cX, slots := kX.instanceTypes.map defaultValue, vm := .none } = T1 at X₁ st1
  have hcat : (Value.ref T.heap.size).category = 1 := rfl
  have hcellA : T1.heap[T.heap.size]? = some (freshCell cX kX) := by rw [← hT1]; exact State.heap_pushCell_size _ _
  have d3' : decode c.code (pc + 3) = .ok (.dup, 1) := by rw [hb]; exact d3
  have d4' : decode c.code (pc + 4) = .ok (.ldc is, 2) := by rw [hb]; exact d4
  have hstr' : vk_R own is text sa s' := vk_R.warm hW0 hstr
  obtain ⟨U, hsteps, hrun, hend, hW, hsame, ce, hce, hO⟩ := X₁.ctorThrowS hexec htr (own := own) (cls := cls) (names := names) (ic := ic) hown' hcls hnames h (fun x hx => nomatch hx) hfX hkX hcellA (by rw [hhp, hT]; exact Nat.le_refl _) (msg := .ref sa) rfl
    (g := { method := m, pc := pc + 6, locals := ls, stack := .ref sa :: .ref T.heap.size :: .ref T.heap.size :: rest, locked := none }) rfl hsize rfl rfl (rest := rest) rfl
    (by rw [hb]; exact d6) (by rw [hb]; exact d9) hout hRframes (by simp only [List.map_cons, List.sum_cons, hcat]; omega) hlocks
  obtain ⟨f1, f2⟩ := vx_frame hsame
  rw [hhp] at f1 f2
  have hWs : s.WarmedH U.vm := State.WarmedH.trans hW0 hW
  have hcl : s.vm.findClass cls = some ce.cls := by
    have h9 := hO.cls
    rw [hvm] at h9
    exact h9
  have hall : s.sameButNew ({ U with vm := s.vm } : State) locs mc ms := by
    subst hA
    obtain ⟨e1, e2⟩ := hsame
    rw [State.setFrames_setFrames] at e1
    have h2 : (T.setVm s.vm).sameButNew ({ U with vm := s.vm } : State) [] (0 + 1) (0 + 6) := ⟨e1, e2⟩
    have h3 := X.same.trans h2
    rw [List.append_nil] at h3
    exact h3.mono hc hs
  refine ⟨U, ?_, .threw T.heap.size, hrun, hend, Or.inr ⟨T.heap.size, rfl, cls, ce, locs, hx U hWs.alike f1 (fun q hq => f2 q hq (fun z hz => nomatch hz)), hce, hO.vm, hcl, hWs, hall, hf⟩⟩
  refine st1 _ ?_
  show Steps p.tables e below (T1.setTop { method := m, pc := pc + 3, locals := ls, stack := .ref T.heap.size :: rest, locked := none }) _
  jvm_step X₁.here [X₁.here.top, hexec, d3', Value.category]
  exact X₁.ldcString hexec (own := own) (text := text) (index := is) (a := sa) hown' hstr'.1 hstr'.2
    (g := { method := m, pc := pc + 4, locals := ls, stack := .ref T.heap.size :: .ref T.heap.size :: rest, locked := none }) rfl d4' _ hsteps
/-- 'throw new E("text")', the text by a wide index -/
theorem vx_throwSW {cc : ByteArray} {pc : Nat} (hexec : p.tables.exec = Jvm.exec) (hb : c.code = cc) (hl : l.stackTraces = false) {own cls text : String} {names : List String} {ik is ic mc ms sa : Nat} {A : Nat → Prop}
    (hown : s.vm.findClass own = some m.cls) (hcls : Bundle.fit cls = true) (hnames : ∀ n ∈ names, Bundle.fit n = true)
    (hk : (Cond.classLink own ik cls).before args s = true) (hini : (Cond.initialized cls).before args s = true) (hstr : vk_R own is text sa s) (hat : ∀ w ∈ vx_atS own ic cls names, w.before args s = true)
    (hgood : ∀ w ∈ Cond.classLink own ik cls :: Cond.initialized cls :: vx_atS own ic cls names, vx_ot w = true)
    (hU : vx_Zq Bundle.tN "UNASSIGNED_STACK" Bundle.steD A s s.heap) (hN : vx_Zq Bundle.tN "SUPPRESSED_SENTINEL" Bundle.listD A s s.heap) (hS : va_S A s.heap H locs) (hsize : ls.size = c.maxLocals)
    (d0 : decode cc pc = .ok (.new ik, 3)) (d3 : decode cc (pc + 3) = .ok (.dup, 1)) (d4 : decode cc (pc + 4) = .ok (.ldc_w is, 3)) (d7 : decode cc (pc + 7) = .ok (.invokespecial ic, 3)) (d10 : decode cc (pc + 10) = .ok (.athrow, 1))
    (hout : ∀ x ∈ c.exceptionTable.toList, covers x (pc + 10) = false)
    (hRframes : names.length + 3 < R.frames) (hRlocals : (rest.map fun v => v.category).sum + (13 * (names.length + 1) + 43) ≤ R.locals) (hRcells : cells + 1 ≤ R.cells) (hRslots : slots + 6 ≤ R.slots) (hlocks : meth.locks = false)
    (hx : ∀ t : State, s.vm.Alike t.vm → H.size ≤ t.heap.size → (∀ q : Nat, q < H.size → t.heap[q]? = H[q]?) → XC cls s t)
    (hf : ∀ z ∈ locs, free z.base) (hc : cells + 1 ≤ mc) (hs : slots + 6 ≤ ms) :
    W p l e R s m args below meth c H locs cells slots (vx_MQ below Qc XC args s mc ms free) (F0 m pc ls rest) := by
  intro T hT X
  have htr : e.platform.stackTraces = false := (show e.platform.stackTraces = l.stackTraces by rw [X.admits.platform]).trans hl
  have Y := vx_rebase X (R' := { frames := R.frames, locals := R.locals, cells := 1, slots := 6 }) (Nat.le_refl _) (Nat.le_refl _) hRcells hRslots
  obtain ⟨s', hA⟩ : ∃ z, z = (T.setVm s.vm).setFrames (.invoking m args :: below) := ⟨_, rfl⟩
  rw [← hA] at Y
  have hvm : s'.vm = s.vm := by rw [hA]; rfl
  have hhp : s'.heap = H := by rw [hA]; exact hT
  have hW0 : s.WarmedH s'.vm := by rw [hvm]; exact State.WarmedH.refl s
  have hat' : ∀ w ∈ vx_atS own ic cls names, w.before args s' = true := fun w hw => vx_ot_at hW0 hvm.symm (hgood w (List.mem_cons_of_mem _ (List.mem_cons_of_mem _ hw))) (hat w hw)
  have hk' : (Cond.classLink own ik cls).before args s' = true := vx_ot_at hW0 hvm.symm (hgood _ List.mem_cons_self) hk
  have hini' : (Cond.initialized cls).before args s' = true := vx_ot_at hW0 hvm.symm (hgood _ (List.mem_cons_of_mem _ List.mem_cons_self)) hini
  have hU' : vx_Zq Bundle.tN "UNASSIGNED_STACK" Bundle.steD A s' s'.heap := by rw [hhp]; exact vx_Zq.moved hW0.alike (hU.kept hS.2.1)
  have hN' : vx_Zq Bundle.tN "SUPPRESSED_SENTINEL" Bundle.listD A s' s'.heap := by rw [hhp]; exact vx_Zq.moved hW0.alike (hN.kept hS.2.1)
  have h : ∀ w ∈ Bundle.ownAtoms own ic cls names, w.before args s' = true := vx_own hat' (vx_isRefq hU'.1) (vx_isRefq hN'.1) hU'.2.word hN'.2.word
  have hown' : s'.vm.findClass own = some m.cls := by rw [hvm]; exact hown
  have hins : (Cond.instantiable cls 6).before args s' = true := h _ (by simp [Bundle.ownAtoms])
  obtain ⟨vm₁, cX, kX, hfX, hkX, -, -, X₁, st1⟩ := Y.newCold hexec (own := own) (C := cls) (index := ik) (n := 6) hown' hk' hins hini'
    (g := F0 m pc ls rest) rfl (by rw [hb]; exact d0) (Nat.le_refl _) (Nat.le_refl _)
  generalize hT1 : (T.setVm vm₁).pushCell { cls := cX, slots := kX.instanceTypes.map defaultValue, vm := .none } = T1 at X₁ st1
  have hcat : (Value.ref T.heap.size).category = 1 := rfl
  have hcellA : T1.heap[T.heap.size]? = some (freshCell cX kX) := by rw [← hT1]; exact State.heap_pushCell_size _ _
  have d3' : decode c.code (pc + 3) = .ok (.dup, 1) := by rw [hb]; exact d3
  have d4' : decode c.code (pc + 4) = .ok (.ldc_w is, 3) := by rw [hb]; exact d4
  have hstr' : vk_R own is text sa s' := vk_R.warm hW0 hstr
  obtain ⟨U, hsteps, hrun, hend, hW, hsame, ce, hce, hO⟩ := X₁.ctorThrowS hexec htr (own := own) (cls := cls) (names := names) (ic := ic) hown' hcls hnames h (fun x hx => nomatch hx) hfX hkX hcellA (by rw [hhp, hT]; exact Nat.le_refl _) (msg := .ref sa) rfl
    (g := { method := m, pc := pc + 7, locals := ls, stack := .ref sa :: .ref T.heap.size :: .ref T.heap.size :: rest, locked := none }) rfl hsize rfl rfl (rest := rest) rfl
    (by rw [hb]; exact d7) (by rw [hb]; exact d10) hout hRframes (by simp only [List.map_cons, List.sum_cons, hcat]; omega) hlocks
  obtain ⟨f1, f2⟩ := vx_frame hsame
  rw [hhp] at f1 f2
  have hWs : s.WarmedH U.vm := State.WarmedH.trans hW0 hW
  have hcl : s.vm.findClass cls = some ce.cls := by
    have h9 := hO.cls
    rw [hvm] at h9
    exact h9
  have hall : s.sameButNew ({ U with vm := s.vm } : State) locs mc ms := by
    subst hA
    obtain ⟨e1, e2⟩ := hsame
    rw [State.setFrames_setFrames] at e1
    have h2 : (T.setVm s.vm).sameButNew ({ U with vm := s.vm } : State) [] (0 + 1) (0 + 6) := ⟨e1, e2⟩
    have h3 := X.same.trans h2
    rw [List.append_nil] at h3
    exact h3.mono hc hs
  refine ⟨U, ?_, .threw T.heap.size, hrun, hend, Or.inr ⟨T.heap.size, rfl, cls, ce, locs, hx U hWs.alike f1 (fun q hq => f2 q hq (fun z hz => nomatch hz)), hce, hO.vm, hcl, hWs, hall, hf⟩⟩
  refine st1 _ ?_
  show Steps p.tables e below (T1.setTop { method := m, pc := pc + 3, locals := ls, stack := .ref T.heap.size :: rest, locked := none }) _
  jvm_step X₁.here [X₁.here.top, hexec, d3', Value.category]
  exact X₁.ldcStringW hexec (own := own) (text := text) (index := is) (a := sa) hown' hstr'.1 hstr'.2
    (g := { method := m, pc := pc + 4, locals := ls, stack := .ref T.heap.size :: .ref T.heap.size :: rest, locked := none }) rfl d4' _ hsteps
end Ends
section Bodies
variable {l : Launch}
theorem vx_ofW {y : MethodName} {ws ws' : List Cond} {rm : Room} {Pc : Array Value → State → Prop} {Qc : Array Value → State → Outcome → State → Prop} {XC : String → State → State → Prop} {mc ms : Nat} {free : Addr → Prop} {cc : ByteArray} {maxL : Nat} {ret : Option FieldType}
    (hy : plainName y.cls = true) (hw : ws = Cond.code y cc maxL ret :: ws')
    (body : ∀ p e s m args below meth c s₁, BodyLoose p l y (headSpec ws rm) cc maxL ret e s m args below meth c s₁ → c.maxLocals = maxL → (∀ x ∈ c.exceptionTable.toList, False) → Pc args s →
      W p l e (headSpec ws rm).room s m args below meth c s.heap [] 0 0 (vx_MQ below Qc XC args s mc ms free) (entryFrame m args maxL)) : vx_Met l y ws rm Pc Qc XC mc ms free := by
  refine MetFree.of_bodyS (code := cc) (maxLocals := maxL) (ret := ret) hy ?_ ?_
  · intro args s m h hn
    obtain ⟨meth, c, h1, h2, h3, h4, h5, h6, -, -⟩ := Cond.code_spec hn (atoms_spec (ws := ws) h _ (by rw [hw]; exact List.mem_cons_self))
    exact ⟨meth, c, h1, h2, h3, h4, h5, h6⟩
  · intro p e s m args below meth c s₁ B hml hP _
    have hh0 : s₁.heap = s.heap := by rw [B.state]; rfl
    have ht : ∀ x ∈ c.exceptionTable.toList, False := by
      obtain ⟨meth9, c9, h1, h2, -, -, -, -, h7, -⟩ := Cond.code_spec B.named (atoms_spec (ws := ws) B.pre _ (by rw [hw]; exact List.mem_cons_self))
      cases Option.some.inj (h1.symm.trans B.method)
      cases Option.some.inj (h2.symm.trans (Stand.of_body B).code)
      intro x hx
      rw [Array.isEmpty_iff.mp h7] at hx
      cases hx
    obtain ⟨t, a1, o, b1, b2, b3⟩ := body p e s m args below meth c s₁ B hml ht hP s₁ hh0 (Stand.of_body B)
    exact ⟨t, o, a1, b1, b2, b3⟩
/-- the table of a body with handlers -/
theorem vx_table {p : Program} {x y : MethodName} {S : Spec} {cc bytes : ByteArray} {maxL maxL' : Nat} {ret ret' : Option FieldType} {e : Env} {s s₁ : State} {m : MethodId} {args : Array Value} {below : List Frame} {meth : Method} {c : Code} {hh : List (Nat × Nat × Nat × Nat)}
    (B : BodyLoose p l y S cc maxL ret e s m args below meth c s₁) (h : (Cond.codeWith y bytes maxL' ret' hh).before args s = true) : c.exceptionTable.toList = tableOf hh := by
  obtain ⟨m9, meth9, c9, hn9, h1, h2, -, -, h6, -⟩ := Cond.codeWith_spec h
  cases Option.some.inj (hn9.symm.trans B.named)
  cases Option.some.inj (h1.symm.trans B.method)
  cases Option.some.inj (h2.symm.trans (Stand.of_body B).code)
  rw [← h6, table_eq]
end Bodies
end VXA
/-! ===== END ===== -/
/-! ===== BEGIN a static call of a method with an exception table ===== -/
section VXS
variable {p : Program} {l : Launch} {e : Env} {R : Room} {s : State} {m : MethodId} {args : Array Value} {below : List Frame} {meth : Method} {c : Code} {T : State} {H : Heap} {locs : List Loc} {cells slots : Nat}
abbrev vx_CSW (R : Room) (s : State) (args : Array Value) (own : String) (index : Nat) (y : MethodName) (bytes : ByteArray) (maxL : Nat) (ret : Option FieldType) (hh : List (Nat × Nat × Nat × Nat)) (ws : List Cond) (rm : Room) (mc ms n : Nat) : Prop :=
  (rm.cells = mc ∧ rm.slots = ms ∧ rm.frames + 1 ≤ R.frames ∧ 8 + (maxL + 11) + rm.locals ≤ R.locals ∧ (∀ w ∈ ws, ∀ (a' : Array Value) (U : State), s.WarmedH U.vm → w.before a' U = true) ∧ Cond.codeWith y bytes maxL ret hh ∈ ws) ∧
  (Cond.codeWith y bytes maxL ret hh).before args s = true ∧ (Cond.initialized y.cls).before args s = true ∧ (y.cls ≠ "java/lang/invoke/MethodHandle" ∧ y.cls ≠ "java/lang/invoke/VarHandle") ∧
  (∀ sig, parseMethodDescriptor y.desc = some sig → n = sig.parameters.length) ∧ (Cond.methodLink own index y).before args s = true ∧ (Cond.static y).before args s = true
theorem vx_cwSW {own : String} {index maxL mc ms : Nat} {y : MethodName} {bytes : ByteArray} {ret : Option FieldType} {hh : List (Nat × Nat × Nat × Nat)} {Ts ws ws' : List Cond} {rm : Room} (n : Nat) (ht : ∀ w ∈ Ts, w.before args s = true) (hT : GoodIn Ts (va_wsS own index y ws)) (hw : ws = Cond.codeWith y bytes maxL ret hh :: ws') (hrc : rm.cells = mc) (hrs : rm.slots = ms)
    (hd : y.cls ≠ "java/lang/invoke/MethodHandle" ∧ y.cls ≠ "java/lang/invoke/VarHandle" ∧ (parseMethodDescriptor y.desc).map (fun d => d.parameters.length) = some n) (hR : rm.frames + 1 ≤ R.frames ∧ 8 + (maxL + 11) + rm.locals ≤ R.locals) :
    vx_CSW R s args own index y bytes maxL ret hh ws rm mc ms n := by
  have ok : ∀ w ∈ va_wsS own index y ws, w.before args s = true := fun w h => ht w (hT w h).1
  have hG : GoodIn Ts ws := fun w h => hT w (by unfold va_wsS; exact List.mem_append_right _ h)
  have hc : Cond.codeWith y bytes maxL ret hh ∈ ws := by rw [hw]; exact List.mem_cons_self
  refine ⟨⟨hrc, hrs, hR.1, hR.2, pay_in ht hG, hc⟩, ht _ (hG _ hc).1, ok _ (by simp [va_wsS]), ⟨hd.1, hd.2.1⟩, fun sig h => ?_, ok _ (by simp [va_wsS]), ok _ (by simp [va_wsS])⟩
  have h2 := hd.2.2
  rw [h] at h2
  exact (Option.some.inj h2).symm
theorem vx_callSW (X : Stand p l e R s m args below meth c T locs cells slots) (hexec : p.tables.exec = Jvm.exec) {own : String} {index : Nat} {y : MethodName} {bytes : ByteArray} {maxL : Nat} {ret : Option FieldType} {hh : List (Nat × Nat × Nat × Nat)}
    (hown : s.vm.findClass own = some m.cls) (hlink : (Cond.methodLink own index y).before args s = true) (hstat : (Cond.static y).before args s = true) (hinit : (Cond.initialized y.cls).before args s = true)
    (hcode : (Cond.codeWith y bytes maxL ret hh).before args s = true) (hy : y.cls ≠ "java/lang/invoke/MethodHandle" ∧ y.cls ≠ "java/lang/invoke/VarHandle")
    {W9 : Nat} {Pre : Pt → Array Value → Prop} {Post : Pt → Array Value → Option Value → Pt → Prop} (hK : Back l R p e below s args y 3 W9 Pre Post)
    {g : JFrame} (hg : g.method = m) (hsize : g.locals.size = c.maxLocals) {argsL rest : List Value} (hlen : ∀ sig, parseMethodDescriptor y.desc = some sig → argsL.length = sig.parameters.length)
    (hstack : g.stack = argsL.reverse ++ rest) (hW : 2 * g.monitorRoom + (rest.map fun v => v.category).sum ≤ W9) (hdg : decode c.code g.pc = .ok (.invokestatic index, 3))
    (hpre : ∀ vm₁, s.WarmedH vm₁ → Pre ⟨T.setVm vm₁, locs, cells, slots⟩ argsL.toArray) :
    ∃ (v : Option Value) (vm₁ : Vm) (B : Pt), s.WarmedH vm₁ ∧ Stand p l e R s m args below meth c B.U B.locs B.cells B.slots ∧ Post ⟨T.setVm vm₁, locs, cells, slots⟩ argsL.toArray v B ∧
      ∀ target, Steps p.tables e below (B.U.setTop { g with pc := g.pc + 3, stack := v.toList ++ rest }) target → Steps p.tables e below (T.setTop g) target := by
  obtain ⟨mk, methM, cM, hnamed, hmethM, -, -, -, -, -, -, hsigM⟩ := Cond.codeWith_spec hcode
  have hstatic : methM.isStatic = true := Cond.static_spec hnamed hmethM hstat
  obtain ⟨kP, hkP, -⟩ := className_of_methodNamed hnamed
  have hinitP : kP.init = .initialized := Cond.initialized_spec (findClass_of_methodNamed hnamed) hkP hinit
  obtain ⟨vm₁, X₁, hstep₁⟩ := X.invokestatic hexec hown hlink hnamed hmethM hstatic hkP hinitP hy (g := g) hg (argsL := argsL) (rest := rest) (hlen _ hsigM) hstack hdg
  obtain ⟨v, B, X', hpost, hsteps⟩ := hK m meth c ⟨T.setVm vm₁, locs, cells, slots⟩ { g with stack := rest } (.invokestatic index) mk argsL.toArray X₁ hg hsize hdg hW (X₁.named hnamed) (hpre vm₁ X₁.warmed)
  exact ⟨v, vm₁, B, X₁.warmed, X', hpost, fun target h => hstep₁ _ fun acts => by rw [doInvoke_state]; exact hsteps.trans h⟩
theorem vx_runSW {y : MethodName} {bytes cc : ByteArray} {maxL nL mc ms n index : Nat} {ret : Option FieldType} {hh : List (Nat × Nat × Nat × Nat)} {ws : List Cond} {rm : Room} {Pc : Array Value → State → Prop} {Qc : Array Value → State → Outcome → State → Prop} {free : Addr → Prop} {Ts : List Cond} {own : String} {As rest : List Value} {g : JFrame}
    (S : CallFix p m c cc nL s args Ts own) (hM : Met l y ws rm Pc Qc mc ms free) (cw : vx_CSW R s args own index y bytes maxL ret hh ws rm mc ms n) (hp : PreS s H Pc As)
    (hg : g.method = m) (hn : As.length = n) (hsize : g.locals.size = nL) (hstack : g.stack = As.reverse ++ rest) (hW : 2 * g.monitorRoom + (rest.map fun v => v.category).sum ≤ 8) (hdg : decode cc g.pc = .ok (.invokestatic index, 3)) (hf : cells + mc ≤ R.cells ∧ slots + ms ≤ R.slots) :
    va_Run p l e R s m args below meth c H locs cells slots mc ms g rest (Qc As.toArray) (free) := by
  obtain ⟨⟨hrc, hrs, hfr, hlo, hws, hcw⟩, hcode, hini, hy, hlen, hl, hstt⟩ := cw
  have hK : Back l R p e below s args y 3 8 (PreOf R mc ms Pc) (PostOf Qc mc ms free) := va_backW (hh := hh) (bytes := bytes) (maxL := maxL) (ret := ret) hM hp.1 hrc hrs hfr hlo hws hcw (fun a' U hW => word_at hW (Or.inl (by first | rfl | simp [Cond.onTables, Cond.keeps, Cond.steady])) hini)
  obtain ⟨hx, hb, hml, ho, -⟩ := S
  intro T hT X
  obtain ⟨v, vm₁, ⟨U', l2, c2, s2⟩, hW₁, X', ⟨g', mk, t, L, e1, e2, hq, h1, hL, h2, h3⟩, st⟩ := vx_callSW X hx (hh := hh) (bytes := bytes) (maxL := maxL) (ret := ret) ho hl hstt hini hcode hy hK hg (hsize.trans hml.symm) (argsL := As) (rest := rest) (fun sig h => hn.trans (hlen sig h)) hstack hW (by rw [hb]; exact hdg)
    (fun vm₁ hW₁ => ⟨hf.1, hf.2, hp.2 (T.setVm vm₁) hT hW₁⟩)
  dsimp only [Pt.U, Pt.locs, Pt.cells, Pt.slots] at X' e1 e2 h1 h2 h3 st
  subst h1; subst h2; subst h3
  exact ⟨v, (T.setVm vm₁).calling g' mk As.toArray, t, U', L, hT, X', hL, e1, e2, hq, st⟩
/-- a thing of a world lies in the heap -/
theorem vx_lt {D : va_G} {cl : List vw_C} {ws : va_W} {H1 : Heap} (h : va_P D cl ws H1) {k : Nat} {q : Nat × va_E} (hk : ws[k]? = some q) : q.1 < H1.size := (h k q hk).lt
end VXS
/-! ===== END ===== -/
/-! ===== BEGIN methods with a table of their own: called by a name, returning or throwing ===== -/
section VXH
/-! vx_backW, vx_callVX, vx_callSX, vx_callVW, vx_runVW, vx_runVX, vx_runSX, vx_ofWH follow the same proofs as their sisters above (Free/Laws.lean, Shelf42/LK1.lean); vx_outP calls Shelf42/NT130.lean (outThrough). -/
section
variable {l : Launch} {R : Room} {p : Program} {e : Env} {below : List Frame} {s : State} {sargs : Array Value} {y : MethodName} {len W9 : Nat}
theorem vx_backW {ws : List Cond} {rm : Room} {Pc : Array Value → State → Prop} {Qc : Array Value → State → Outcome → State → Prop} {XC : String → State → State → Prop} {mc ms : Nat} {free : Addr → Prop} {bytes : ByteArray} {maxL : Nat} {ret : Option FieldType} {hh : List (Nat × Nat × Nat × Nat)}
    (hM : vx_Met l y ws rm Pc Qc XC mc ms free) (hblind : FrameBlind Pc) (hrc : rm.cells = mc) (hrs : rm.slots = ms)
    (hframes : rm.frames + 1 ≤ R.frames) (hlocals : W9 + (maxL + 11) + rm.locals ≤ R.locals)
    (hws : ∀ w ∈ ws, ∀ a' U, s.WarmedH U.vm → w.before a' U = true) (hcode : Cond.codeWith y bytes maxL ret hh ∈ ws) (hinit : ∀ a' U, s.WarmedH U.vm → (Cond.initialized y.cls).before a' U = true) :
    vx_Back l R p e below s sargs y len W9 (PreOf R mc ms Pc) (PostOf Qc mc ms free) (vx_Post XC mc ms free) := by
  intro m meth c A g ig mk a X hg hsize hdg hW hn hp
  have h1 : (headSpec ws rm).pre.before a A.U = true := atoms_intro fun w hw => hws w hw _ _ X.warmed
  have h2 : (Cond.codeWith y bytes maxL ret hh).before a A.U = true := hws _ hcode _ _ X.warmed
  have h3 : (Cond.initialized y.cls).before a A.U = true := hinit _ _ X.warmed
  have h4 : A.cells + (headSpec ws rm).room.cells ≤ R.cells := by rw [show (headSpec ws rm).room.cells = mc from hrc]; exact hp.1
  have h5 : A.slots + (headSpec ws rm).room.slots ≤ R.slots := by rw [show (headSpec ws rm).room.slots = ms from hrs]; exact hp.2.1
  have hPc : Pc a (A.U.calling g mk a) := hblind _ _ _ _ hp.2.2
  obtain ⟨U, Ls, c0, s0⟩ := A
  dsimp only [Pt.U, Pt.locs, Pt.cells, Pt.slots] at h1 h2 h3 h4 h5 X hn hPc ⊢
  obtain ⟨m9, methY, cY, hn9, hmY, hcY, -, hlY, -⟩ := Cond.codeWith_spec h2
  cases Option.some.inj (hn9.symm.trans hn)
  obtain ⟨kY, hkY, -⟩ := className_of_methodNamed hn
  have hinitY : kY.init = .initialized := Cond.initialized_spec (findClass_of_methodNamed hn) hkY h3
  have h : At U g.method c below := by rw [hg]; exact X.here
  have hlocals9 : W9 + (maxL + 11) + (headSpec ws rm).room.locals ≤ R.locals := hlocals
  have happ : (headSpec ws rm).appliesLoose y e.platform (U.calling g mk a) = true :=
    Spec.appliesLoose_calling (g := g) h hdg hn hkY hinitY
      (X.room_calling (g := g) (R' := (headSpec ws rm).room) hsize hmY hcY hframes (by rw [hlY]; omega) h4 h5) h1
  obtain ⟨mid, hmid⟩ := h.above
  have hfr : (U.setTop g).frames = (.java g :: mid) ++ below := by rw [State.frames_setTop' g h.top, hmid]; rfl
  obtain ⟨o, s₂, hsteps, -, hend, hq⟩ := Steps.callFree hM p X.admits X.cas X.clock (acts := []) hfr happ hPc trivial
  have hq' : vx_Q Qc XC mc ms free a (U.calling g mk a) o s₂ := hq
  rw [State.frames_setTop' g h.top] at hend
  obtain ⟨g₀, hg0⟩ := Option.isSome_iff_exists.mp h.top
  obtain ⟨r, hr⟩ := State.topJava?_eq_some.mp hg0
  have hr' : (({ U with heap := s₂.heap, slotsUsed := s₂.slotsUsed } : State).setVm s₂.vm).frames = .java g₀ :: r := hr
  rcases hq' with ⟨hqc, L, hfe, hL⟩ | ⟨q, rfl, E, ce, L, hx, hce, hcv, hcl, hW₂, hsm, hL⟩
  · obtain ⟨⟨v, rfl⟩, hW₂, e2, q2, q3, q4, q5, q6⟩ := id hfe
    have e3 : s₂ = ({ (U.calling g mk a).setFrames s₂.frames with heap := s₂.heap, slotsUsed := s₂.slotsUsed } : State).setVm s₂.vm := by
      have : s₂ = ({ s₂ with vm := (U.calling g mk a).vm } : State).setVm s₂.vm := rfl
      rw [e2] at this
      exact this
    obtain ⟨c₂, i₂, len₂, hc₂, hd₂, hf₂⟩ := hend
    have hW' : U.WarmedH s₂.vm := hW₂
    have hcc : c₂ = c := by
      have h1 : s₂.code? g.method = U.code? g.method := by
        rw [State.code?_eq, State.code?_eq, hW'.alike.method?]
      exact Option.some.inj (hc₂.symm.trans (h1.trans h.code))
    subst hcc
    have hlen : len₂ = len := by rw [hdg] at hd₂; cases hd₂; rfl
    subst hlen
    have hs₂ : s₂ = (({ U with heap := s₂.heap, slotsUsed := s₂.slotsUsed } : State).setVm s₂.vm).setTop { g with pc := g.pc + len₂, stack := v.toList ++ g.stack } := by
      refine e3.trans ?_
      rw [hf₂, State.calling_eq h.top, State.setFrames_setFrames, State.setTop_of_frames _ hr', hr]
      rfl
    have hsame : U.sameButNew ({ U with heap := s₂.heap, slotsUsed := s₂.slotsUsed } : State) L mc ms := by
      refine ⟨?_, q2, q3, q4, q5, q6⟩
      obtain ⟨t, ht, -⟩ := State.frames_cons hr
      show ({ U with heap := s₂.heap, slotsUsed := s₂.slotsUsed } : State) = { U.setFrames U.frames with heap := s₂.heap, slotsUsed := s₂.slotsUsed }
      rw [State.setFrames_self ht]
    subst hg
    refine Or.inl ⟨v, ⟨(({ U with heap := s₂.heap, slotsUsed := s₂.slotsUsed } : State).setVm s₂.vm), Ls ++ L, c0 + mc, s0 + ms⟩,
      ⟨X.admits, X.cas, X.clock, X.frames, X.room, X.hears, X.method, X.code, (X.here.setHeapUsed s₂.heap s₂.slotsUsed).setVm hW'.alike, X.tail, State.WarmedH.trans X.warmed hW', X.limits, X.bytes, X.same.trans (hsame.setVm s.vm)⟩,
      ⟨g, mk, s₂, L, rfl, rfl, hqc, rfl, hL, rfl, rfl⟩, ?_⟩
    show Steps p.tables e below _ ((({ U with heap := s₂.heap, slotsUsed := s₂.slotsUsed } : State).setVm s₂.vm).setTop { g with pc := g.pc + len₂, stack := v.toList ++ g.stack })
    rw [← hs₂]
    exact hsteps
  · obtain ⟨e2, q2, q3, q4, q5, q6⟩ := id hsm
    have e3 : s₂ = ({ (U.calling g mk a).setFrames s₂.frames with heap := s₂.heap, slotsUsed := s₂.slotsUsed } : State).setVm s₂.vm := by
      have : s₂ = ({ s₂ with vm := (U.calling g mk a).vm } : State).setVm s₂.vm := rfl
      rw [e2] at this
      exact this
    have hf₂ : s₂.frames = .throwing q :: .java g :: U.frames.tail := hend
    have hW' : U.WarmedH s₂.vm := hW₂
    have hs₂ : s₂ = ((({ U with heap := s₂.heap, slotsUsed := s₂.slotsUsed } : State).setVm s₂.vm).setTop g).pushFrame (.throwing q) := by
      refine e3.trans ?_
      rw [hf₂, State.calling_eq h.top, State.setFrames_setFrames, State.pushFrame, State.frames_setTop _ hr', State.setTop_of_frames _ hr', State.setFrames_setFrames, hr]
      rfl
    have hsame : U.sameButNew ({ U with heap := s₂.heap, slotsUsed := s₂.slotsUsed } : State) L mc ms := by
      refine ⟨?_, q2, q3, q4, q5, q6⟩
      obtain ⟨t, ht, -⟩ := State.frames_cons hr
      show ({ U with heap := s₂.heap, slotsUsed := s₂.slotsUsed } : State) = { U.setFrames U.frames with heap := s₂.heap, slotsUsed := s₂.slotsUsed }
      rw [State.setFrames_self ht]
    subst hg
    refine Or.inr ⟨q, ⟨(({ U with heap := s₂.heap, slotsUsed := s₂.slotsUsed } : State).setVm s₂.vm), Ls ++ L, c0 + mc, s0 + ms⟩,
      ⟨X.admits, X.cas, X.clock, X.frames, X.room, X.hears, X.method, X.code, (X.here.setHeapUsed s₂.heap s₂.slotsUsed).setVm hW'.alike, X.tail, State.WarmedH.trans X.warmed hW', X.limits, X.bytes, X.same.trans (hsame.setVm s.vm)⟩,
      ⟨g, mk, s₂, L, E, ce, rfl, rfl, hx, hce, hcv, hcl, rfl, hL, rfl, rfl⟩, ?_⟩
    show Steps p.tables e below _ (((({ U with heap := s₂.heap, slotsUsed := s₂.slotsUsed } : State).setVm s₂.vm).setTop g).pushFrame (.throwing q))
    rw [← hs₂]
    exact hsteps
end
variable {p : Program} {l : Launch} {e : Env} {R : Room} {s : State} {m : MethodId} {args : Array Value} {below : List Frame} {meth : Method} {c : Code} {T : State} {H : Heap} {locs : List Loc} {cells slots : Nat}
theorem vx_callVX (X : Stand p l e R s m args below meth c T locs cells slots) (hexec : p.tables.exec = Jvm.exec) {own C : String} {index : Nat} {y : MethodName} {bytes : ByteArray} {maxL : Nat} {ret : Option FieldType} {hh : List (Nat × Nat × Nat × Nat)}
    (hown : s.vm.findClass own = some m.cls) (hlink : (Cond.methodLink own index y).before args s = true) (hinst : (Cond.instanceMethod y).before args s = true) (hsel : (Cond.selects C y y).before args s = true)
    (hcode : (Cond.codeWith y bytes maxL ret hh).before args s = true) (hy : y.cls ≠ "java/lang/invoke/MethodHandle" ∧ y.cls ≠ "java/lang/invoke/VarHandle")
    {W9 : Nat} {Pre : Pt → Array Value → Prop} {Post : Pt → Array Value → Option Value → Pt → Prop} {PostX : Pt → Array Value → Addr → Pt → Prop} (hK : vx_Back l R p e below s args y 3 W9 Pre Post PostX)
    {b : Addr} {cellB : Cell} (hcell : T.heap[b]? = some cellB) (hobj : cellB.vm.isStatics = false) (hcls : s.vm.findClass C = some cellB.cls)
    {g : JFrame} (hg : g.method = m) (hsize : g.locals.size = c.maxLocals) {argsL rest : List Value} (hlen : ∀ sig, parseMethodDescriptor y.desc = some sig → argsL.length = sig.parameters.length)
    (hstack : g.stack = argsL.reverse ++ .ref b :: rest) (hW : 2 * g.monitorRoom + (rest.map fun v => v.category).sum ≤ W9) (hdg : decode c.code g.pc = .ok (.invokevirtual index, 3))
    (hpre : ∀ vm₁, s.WarmedH vm₁ → Pre ⟨T.setVm vm₁, locs, cells, slots⟩ (Value.ref b :: argsL).toArray) :
    (∃ (v : Option Value) (vm₁ : Vm) (B : Pt), s.WarmedH vm₁ ∧ Stand p l e R s m args below meth c B.U B.locs B.cells B.slots ∧ Post ⟨T.setVm vm₁, locs, cells, slots⟩ (Value.ref b :: argsL).toArray v B ∧
      ∀ target, Steps p.tables e below (B.U.setTop { g with pc := g.pc + 3, stack := v.toList ++ rest }) target → Steps p.tables e below (T.setTop g) target) ∨
    (∃ (q : Addr) (vm₁ : Vm) (B : Pt), s.WarmedH vm₁ ∧ Stand p l e R s m args below meth c B.U B.locs B.cells B.slots ∧ PostX ⟨T.setVm vm₁, locs, cells, slots⟩ (Value.ref b :: argsL).toArray q B ∧
      Steps p.tables e below (T.setTop g) ((B.U.setTop { g with stack := rest }).pushFrame (.throwing q))) := by
  obtain ⟨mk, methM, hnamed, hmethM, hstM, habM⟩ := Cond.instanceMethod_spec hinst
  obtain ⟨m8, methM', cM, hn8, hmethM', -, -, -, -, -, -, hsigM⟩ := Cond.codeWith_spec hcode
  cases Option.some.inj (hn8.symm.trans hnamed)
  cases hmethM.symm.trans hmethM'
  obtain ⟨c2, r2, m2, q1, q2, q3, q4, kP, hkP, hkPi⟩ := Cond.selects_spec hsel
  cases hcls.symm.trans q1
  cases (State.methodFound?_of_named hnamed hy).symm.trans q2
  cases hnamed.symm.trans q3
  have hselP : selectMethod e.platform s.vm cellB.cls mk = .method mk := by rw [Launch.admits_selectMethod X.admits]; exact q4
  obtain ⟨vm₁, X₁, hstep₁⟩ := X.invokevirtual hexec hown hlink hnamed hmethM hstM hkP hkPi hy (a := b) (cell := cellB) hcell
    (fun z h => by rw [h] at hobj; cases hobj) hselP hmethM habM hkP hkPi (g := g) hg (argsL := argsL) (rest := rest) (hlen _ hsigM) hstack hdg
  rcases hK m meth c ⟨T.setVm vm₁, locs, cells, slots⟩ { g with stack := rest } (.invokevirtual index) mk (Value.ref b :: argsL).toArray X₁ hg hsize hdg hW (X₁.named hnamed) (hpre vm₁ X₁.warmed) with ⟨v, B, X', hpost, hsteps⟩ | ⟨q, B, X', hpost, hsteps⟩
  · exact Or.inl ⟨v, vm₁, B, X₁.warmed, X', hpost, fun target h => hstep₁ _ fun acts => by rw [doInvoke_state]; exact hsteps.trans h⟩
  · exact Or.inr ⟨q, vm₁, B, X₁.warmed, X', hpost, hstep₁ _ fun acts => by rw [doInvoke_state]; exact hsteps⟩
theorem vx_callSX (X : Stand p l e R s m args below meth c T locs cells slots) (hexec : p.tables.exec = Jvm.exec) {own : String} {index : Nat} {y : MethodName} {bytes : ByteArray} {maxL : Nat} {ret : Option FieldType} {hh : List (Nat × Nat × Nat × Nat)}
    (hown : s.vm.findClass own = some m.cls) (hlink : (Cond.methodLink own index y).before args s = true) (hstat : (Cond.static y).before args s = true) (hinit : (Cond.initialized y.cls).before args s = true)
    (hcode : (Cond.codeWith y bytes maxL ret hh).before args s = true) (hy : y.cls ≠ "java/lang/invoke/MethodHandle" ∧ y.cls ≠ "java/lang/invoke/VarHandle")
    {W9 : Nat} {Pre : Pt → Array Value → Prop} {Post : Pt → Array Value → Option Value → Pt → Prop} {PostX : Pt → Array Value → Addr → Pt → Prop} (hK : vx_Back l R p e below s args y 3 W9 Pre Post PostX)
    {g : JFrame} (hg : g.method = m) (hsize : g.locals.size = c.maxLocals) {argsL rest : List Value} (hlen : ∀ sig, parseMethodDescriptor y.desc = some sig → argsL.length = sig.parameters.length)
    (hstack : g.stack = argsL.reverse ++ rest) (hW : 2 * g.monitorRoom + (rest.map fun v => v.category).sum ≤ W9) (hdg : decode c.code g.pc = .ok (.invokestatic index, 3))
    (hpre : ∀ vm₁, s.WarmedH vm₁ → Pre ⟨T.setVm vm₁, locs, cells, slots⟩ argsL.toArray) :
    (∃ (v : Option Value) (vm₁ : Vm) (B : Pt), s.WarmedH vm₁ ∧ Stand p l e R s m args below meth c B.U B.locs B.cells B.slots ∧ Post ⟨T.setVm vm₁, locs, cells, slots⟩ argsL.toArray v B ∧
      ∀ target, Steps p.tables e below (B.U.setTop { g with pc := g.pc + 3, stack := v.toList ++ rest }) target → Steps p.tables e below (T.setTop g) target) ∨
    (∃ (q : Addr) (vm₁ : Vm) (B : Pt), s.WarmedH vm₁ ∧ Stand p l e R s m args below meth c B.U B.locs B.cells B.slots ∧ PostX ⟨T.setVm vm₁, locs, cells, slots⟩ argsL.toArray q B ∧
      Steps p.tables e below (T.setTop g) ((B.U.setTop { g with stack := rest }).pushFrame (.throwing q))) := by
  obtain ⟨mk, methM, cM, hnamed, hmethM, -, -, -, -, -, -, hsigM⟩ := Cond.codeWith_spec hcode
  have hstatic : methM.isStatic = true := Cond.static_spec hnamed hmethM hstat
  obtain ⟨kP, hkP, -⟩ := className_of_methodNamed hnamed
  have hinitP : kP.init = .initialized := Cond.initialized_spec (findClass_of_methodNamed hnamed) hkP hinit
  obtain ⟨vm₁, X₁, hstep₁⟩ := X.invokestatic hexec hown hlink hnamed hmethM hstatic hkP hinitP hy (g := g) hg (argsL := argsL) (rest := rest) (hlen _ hsigM) hstack hdg
  rcases hK m meth c ⟨T.setVm vm₁, locs, cells, slots⟩ { g with stack := rest } (.invokestatic index) mk argsL.toArray X₁ hg hsize hdg hW (X₁.named hnamed) (hpre vm₁ X₁.warmed) with ⟨v, B, X', hpost, hsteps⟩ | ⟨q, B, X', hpost, hsteps⟩
  · exact Or.inl ⟨v, vm₁, B, X₁.warmed, X', hpost, fun target h => hstep₁ _ fun acts => by rw [doInvoke_state]; exact hsteps.trans h⟩
  · exact Or.inr ⟨q, vm₁, B, X₁.warmed, X', hpost, hstep₁ _ fun acts => by rw [doInvoke_state]; exact hsteps⟩
theorem vx_callVW (X : Stand p l e R s m args below meth c T locs cells slots) (hexec : p.tables.exec = Jvm.exec) {own C : String} {index : Nat} {y : MethodName} {bytes : ByteArray} {maxL : Nat} {ret : Option FieldType} {hh : List (Nat × Nat × Nat × Nat)}
    (hown : s.vm.findClass own = some m.cls) (hlink : (Cond.methodLink own index y).before args s = true) (hinst : (Cond.instanceMethod y).before args s = true) (hsel : (Cond.selects C y y).before args s = true)
    (hcode : (Cond.codeWith y bytes maxL ret hh).before args s = true) (hy : y.cls ≠ "java/lang/invoke/MethodHandle" ∧ y.cls ≠ "java/lang/invoke/VarHandle")
    {W9 : Nat} {Pre : Pt → Array Value → Prop} {Post : Pt → Array Value → Option Value → Pt → Prop} (hK : Back l R p e below s args y 3 W9 Pre Post)
    {b : Addr} {cellB : Cell} (hcell : T.heap[b]? = some cellB) (hobj : cellB.vm.isStatics = false) (hcls : s.vm.findClass C = some cellB.cls)
    {g : JFrame} (hg : g.method = m) (hsize : g.locals.size = c.maxLocals) {argsL rest : List Value} (hlen : ∀ sig, parseMethodDescriptor y.desc = some sig → argsL.length = sig.parameters.length)
    (hstack : g.stack = argsL.reverse ++ .ref b :: rest) (hW : 2 * g.monitorRoom + (rest.map fun v => v.category).sum ≤ W9) (hdg : decode c.code g.pc = .ok (.invokevirtual index, 3))
    (hpre : ∀ vm₁, s.WarmedH vm₁ → Pre ⟨T.setVm vm₁, locs, cells, slots⟩ (Value.ref b :: argsL).toArray) :
    ∃ (v : Option Value) (vm₁ : Vm) (B : Pt), s.WarmedH vm₁ ∧ Stand p l e R s m args below meth c B.U B.locs B.cells B.slots ∧ Post ⟨T.setVm vm₁, locs, cells, slots⟩ (Value.ref b :: argsL).toArray v B ∧
      ∀ target, Steps p.tables e below (B.U.setTop { g with pc := g.pc + 3, stack := v.toList ++ rest }) target → Steps p.tables e below (T.setTop g) target := by
  obtain ⟨mk, methM, hnamed, hmethM, hstM, habM⟩ := Cond.instanceMethod_spec hinst
  obtain ⟨m8, methM', cM, hn8, hmethM', -, -, -, -, -, -, hsigM⟩ := Cond.codeWith_spec hcode
  cases Option.some.inj (hn8.symm.trans hnamed)
  cases hmethM.symm.trans hmethM'
  obtain ⟨c2, r2, m2, q1, q2, q3, q4, kP, hkP, hkPi⟩ := Cond.selects_spec hsel
  cases hcls.symm.trans q1
  cases (State.methodFound?_of_named hnamed hy).symm.trans q2
  cases hnamed.symm.trans q3
  have hselP : selectMethod e.platform s.vm cellB.cls mk = .method mk := by rw [Launch.admits_selectMethod X.admits]; exact q4
  obtain ⟨vm₁, X₁, hstep₁⟩ := X.invokevirtual hexec hown hlink hnamed hmethM hstM hkP hkPi hy (a := b) (cell := cellB) hcell
    (fun z h => by rw [h] at hobj; cases hobj) hselP hmethM habM hkP hkPi (g := g) hg (argsL := argsL) (rest := rest) (hlen _ hsigM) hstack hdg
  obtain ⟨v, B, X', hpost, hsteps⟩ := hK m meth c ⟨T.setVm vm₁, locs, cells, slots⟩ { g with stack := rest } (.invokevirtual index) mk (Value.ref b :: argsL).toArray X₁ hg hsize hdg hW (X₁.named hnamed) (hpre vm₁ X₁.warmed)
  exact ⟨v, vm₁, B, X₁.warmed, X', hpost, fun target h => hstep₁ _ fun acts => by rw [doInvoke_state]; exact hsteps.trans h⟩
abbrev vx_CVW (R : Room) (s : State) (args : Array Value) (own C : String) (index : Nat) (y : MethodName) (bytes : ByteArray) (maxL : Nat) (ret : Option FieldType) (hh : List (Nat × Nat × Nat × Nat)) (ws : List Cond) (rm : Room) (mc ms n : Nat) : Prop :=
  (rm.cells = mc ∧ rm.slots = ms ∧ rm.frames + 1 ≤ R.frames ∧ 8 + (maxL + 11) + rm.locals ≤ R.locals ∧ (∀ w ∈ ws, ∀ (a' : Array Value) (U : State), s.WarmedH U.vm → w.before a' U = true) ∧ Cond.codeWith y bytes maxL ret hh ∈ ws) ∧
  (Cond.codeWith y bytes maxL ret hh).before args s = true ∧ (Cond.initialized y.cls).before args s = true ∧ (y.cls ≠ "java/lang/invoke/MethodHandle" ∧ y.cls ≠ "java/lang/invoke/VarHandle") ∧
  (∀ sig, parseMethodDescriptor y.desc = some sig → n = sig.parameters.length) ∧ (Cond.methodLink own index y).before args s = true ∧ (Cond.instanceMethod y).before args s = true ∧ (Cond.selects C y y).before args s = true
theorem vx_cwVW {own C : String} {index maxL mc ms : Nat} {y : MethodName} {bytes : ByteArray} {ret : Option FieldType} {hh : List (Nat × Nat × Nat × Nat)} {Ts ws ws' : List Cond} {rm : Room} (n : Nat) (ht : ∀ w ∈ Ts, w.before args s = true) (hT : GoodIn Ts (wsV own index C y ws)) (hw : ws = Cond.codeWith y bytes maxL ret hh :: ws') (hrc : rm.cells = mc) (hrs : rm.slots = ms)
    (hd : y.cls = C ∧ y.cls ≠ "java/lang/invoke/MethodHandle" ∧ y.cls ≠ "java/lang/invoke/VarHandle" ∧ (parseMethodDescriptor y.desc).map (fun d => d.parameters.length) = some n) (hR : rm.frames + 1 ≤ R.frames ∧ 8 + (maxL + 11) + rm.locals ≤ R.locals) :
    vx_CVW R s args own C index y bytes maxL ret hh ws rm mc ms n := by
  obtain ⟨hC, hd⟩ := hd
  subst hC
  have ok : ∀ w ∈ wsV own index y.cls y ws, w.before args s = true := fun w h => ht w (hT w h).1
  have hG : GoodIn Ts ws := fun w h => hT w (by unfold wsV; exact List.mem_append_right _ h)
  have hc : Cond.codeWith y bytes maxL ret hh ∈ ws := by rw [hw]; exact List.mem_cons_self
  refine ⟨⟨hrc, hrs, hR.1, hR.2, pay_in ht hG, hc⟩, ht _ (hG _ hc).1, ok _ (by simp [wsV]), ⟨hd.1, hd.2.1⟩, fun sig h => ?_, ok _ (by simp [wsV]), ok _ (by simp [wsV]), ok _ (by simp [wsV])⟩
  have h2 := hd.2.2
  rw [h] at h2
  exact (Option.some.inj h2).symm
theorem vx_runVW {y : MethodName} {bytes cc : ByteArray} {maxL nL mc ms n index : Nat} {ret : Option FieldType} {hh : List (Nat × Nat × Nat × Nat)} {ws : List Cond} {rm : Room} {Pc : Array Value → State → Prop} {Qc : Array Value → State → Outcome → State → Prop} {free : Addr → Prop} {Ts : List Cond} {own C : String} {b : Addr} {As rest : List Value} {g : JFrame}
    (S : CallFix p m c cc nL s args Ts own) (hM : Met l y ws rm Pc Qc mc ms free) (cw : vx_CVW R s args own C index y bytes maxL ret hh ws rm mc ms n) (hp : PreV s H C b Pc As)
    (hg : g.method = m) (hn : As.length = n) (hsize : g.locals.size = nL) (hstack : g.stack = As.reverse ++ .ref b :: rest) (hW : 2 * g.monitorRoom + (rest.map fun v => v.category).sum ≤ 8) (hdg : decode cc g.pc = .ok (.invokevirtual index, 3)) (hf : cells + mc ≤ R.cells ∧ slots + ms ≤ R.slots) :
    va_Run p l e R s m args below meth c H locs cells slots mc ms g rest (Qc (Value.ref b :: As).toArray) free := by
  obtain ⟨⟨hrc, hrs, hfr, hlo, hws, hcw⟩, hcode, hini, hy, hlen, hl, hin, hse⟩ := cw
  have hK : Back l R p e below s args y 3 8 (PreOf R mc ms Pc) (PostOf Qc mc ms free) := va_backW (hh := hh) (bytes := bytes) (maxL := maxL) (ret := ret) hM hp.1 hrc hrs hfr hlo hws hcw (fun a' U hW => word_at hW (Or.inl (by first | rfl | simp [Cond.onTables, Cond.keeps, Cond.steady])) hini)
  obtain ⟨hx, hb, hml, ho, -⟩ := S
  obtain ⟨-, ⟨cellB, hcB, hoB, hclB⟩, hPc⟩ := hp
  intro T hT X
  obtain ⟨v, vm₁, ⟨U', l2, c2, s2⟩, hW₁, X', ⟨g', mk, t, L, e1, e2, hq, h1, hL, h2, h3⟩, st⟩ := vx_callVW X hx (C := C) (hh := hh) (bytes := bytes) (maxL := maxL) (ret := ret) ho hl hin hse hcode hy hK (by rw [hT]; exact hcB) hoB hclB hg (hsize.trans hml.symm) (argsL := As) (rest := rest) (fun sig h => hn.trans (hlen sig h)) hstack hW (by rw [hb]; exact hdg)
    (fun vm₁ hW₁ => ⟨hf.1, hf.2, hPc (T.setVm vm₁) hT hW₁⟩)
  dsimp only [Pt.U, Pt.locs, Pt.cells, Pt.slots] at X' e1 e2 h1 h2 h3 st
  subst h1; subst h2; subst h3
  exact ⟨v, (T.setVm vm₁).calling g' mk (Value.ref b :: As).toArray, t, U', L, hT, X', hL, e1, e2, hq, st⟩
section
variable {y : MethodName} {bytes cc : ByteArray} {maxL nL mc ms n index : Nat} {ret : Option FieldType} {ws : List Cond} {rm : Room} {Pc : Array Value → State → Prop} {Qc : Array Value → State → Outcome → State → Prop} {XC : String → State → State → Prop} {free : Addr → Prop} {Ts : List Cond} {own C : String} {b : Addr} {As rest : List Value} {g : JFrame}
theorem vx_runVX {hh : List (Nat × Nat × Nat × Nat)} (S : CallFix p m c cc nL s args Ts own) (hM : vx_Met l y ws rm Pc Qc XC mc ms free) (cw : vx_CVW R s args own C index y bytes maxL ret hh ws rm mc ms n) (hp : PreV s H C b Pc As)
    (hg : g.method = m) (hn : As.length = n) (hsize : g.locals.size = nL) (hstack : g.stack = As.reverse ++ .ref b :: rest) (hW : 2 * g.monitorRoom + (rest.map fun v => v.category).sum ≤ 8) (hdg : decode cc g.pc = .ok (.invokevirtual index, 3)) (hf : cells + mc ≤ R.cells ∧ slots + ms ≤ R.slots) :
    vx_Run p l e R s m args below meth c H locs cells slots mc ms g rest (Qc (Value.ref b :: As).toArray) XC free := by
  obtain ⟨⟨hrc, hrs, hfr, hlo, hws, hcw⟩, hcode, hini, hy, hlen, hl, hin, hse⟩ := cw
  have hK : vx_Back l R p e below s args y 3 8 (PreOf R mc ms Pc) (PostOf Qc mc ms free) (vx_Post XC mc ms free) := vx_backW (hh := hh) (bytes := bytes) (maxL := maxL) (ret := ret) hM hp.1 hrc hrs hfr hlo hws hcw (fun a' U hW => word_at hW (Or.inl (by first | rfl | simp [Cond.onTables, Cond.keeps, Cond.steady])) hini)
  obtain ⟨hx, hb, hml, ho, -⟩ := S
  obtain ⟨-, ⟨cellB, hcB, hoB, hclB⟩, hPc⟩ := hp
  intro T hT X
  rcases vx_callVX X hx (C := C) (hh := hh) (bytes := bytes) (maxL := maxL) (ret := ret) ho hl hin hse hcode hy hK (by rw [hT]; exact hcB) hoB hclB hg (hsize.trans hml.symm) (argsL := As) (rest := rest) (fun sig h => hn.trans (hlen sig h)) hstack hW (by rw [hb]; exact hdg)
    (fun vm₁ hW₁ => ⟨hf.1, hf.2, hPc (T.setVm vm₁) hT hW₁⟩) with ⟨v, vm₁, ⟨U', l2, c2, s2⟩, hW₁, X', ⟨g', mk, t, L, e1, e2, hq, h1, hL, h2, h3⟩, st⟩ | ⟨q, vm₁, ⟨U', l2, c2, s2⟩, hW₁, X', ⟨g', mk, t, L, E, ce, e1, e2, hq, hce, hcv, hcl, h1, hL, h2, h3⟩, st⟩
  · dsimp only [Pt.U, Pt.locs, Pt.cells, Pt.slots] at X' e1 e2 h1 h2 h3 st
    subst h1; subst h2; subst h3
    exact Or.inl ⟨v, (T.setVm vm₁).calling g' mk (Value.ref b :: As).toArray, t, U', L, hT, X', hL, e1, e2, hq, st⟩
  · dsimp only [Pt.U, Pt.locs, Pt.cells, Pt.slots] at X' e1 e2 h1 h2 h3 st hcl
    subst h1; subst h2; subst h3
    exact Or.inr ⟨q, (T.setVm vm₁).calling g' mk (Value.ref b :: As).toArray, t, U', L, E, ce, hT, X', hL, e1, e2, hq, hce, hcv, vx_cls hW₁ hcl, st⟩
theorem vx_runSX {hh : List (Nat × Nat × Nat × Nat)} (S : CallFix p m c cc nL s args Ts own) (hM : vx_Met l y ws rm Pc Qc XC mc ms free) (cw : vx_CSW R s args own index y bytes maxL ret hh ws rm mc ms n) (hp : PreS s H Pc As)
    (hg : g.method = m) (hn : As.length = n) (hsize : g.locals.size = nL) (hstack : g.stack = As.reverse ++ rest) (hW : 2 * g.monitorRoom + (rest.map fun v => v.category).sum ≤ 8) (hdg : decode cc g.pc = .ok (.invokestatic index, 3)) (hf : cells + mc ≤ R.cells ∧ slots + ms ≤ R.slots) :
    vx_Run p l e R s m args below meth c H locs cells slots mc ms g rest (Qc As.toArray) XC free := by
  obtain ⟨⟨hrc, hrs, hfr, hlo, hws, hcw⟩, hcode, hini, hy, hlen, hl, hstt⟩ := cw
  have hK : vx_Back l R p e below s args y 3 8 (PreOf R mc ms Pc) (PostOf Qc mc ms free) (vx_Post XC mc ms free) := vx_backW (hh := hh) (bytes := bytes) (maxL := maxL) (ret := ret) hM hp.1 hrc hrs hfr hlo hws hcw (fun a' U hW => word_at hW (Or.inl (by first | rfl | simp [Cond.onTables, Cond.keeps, Cond.steady])) hini)
  obtain ⟨hx, hb, hml, ho, -⟩ := S
  intro T hT X
  rcases vx_callSX X hx (hh := hh) (bytes := bytes) (maxL := maxL) (ret := ret) ho hl hstt hini hcode hy hK hg (hsize.trans hml.symm) (argsL := As) (rest := rest) (fun sig h => hn.trans (hlen sig h)) hstack hW (by rw [hb]; exact hdg)
    (fun vm₁ hW₁ => ⟨hf.1, hf.2, hp.2 (T.setVm vm₁) hT hW₁⟩) with ⟨v, vm₁, ⟨U', l2, c2, s2⟩, hW₁, X', ⟨g', mk, t, L, e1, e2, hq, h1, hL, h2, h3⟩, st⟩ | ⟨q, vm₁, ⟨U', l2, c2, s2⟩, hW₁, X', ⟨g', mk, t, L, E, ce, e1, e2, hq, hce, hcv, hcl, h1, hL, h2, h3⟩, st⟩
  · dsimp only [Pt.U, Pt.locs, Pt.cells, Pt.slots] at X' e1 e2 h1 h2 h3 st
    subst h1; subst h2; subst h3
    exact Or.inl ⟨v, (T.setVm vm₁).calling g' mk As.toArray, t, U', L, hT, X', hL, e1, e2, hq, st⟩
  · dsimp only [Pt.U, Pt.locs, Pt.cells, Pt.slots] at X' e1 e2 h1 h2 h3 st hcl
    subst h1; subst h2; subst h3
    exact Or.inr ⟨q, (T.setVm vm₁).calling g' mk As.toArray, t, U', L, E, ce, hT, X', hL, e1, e2, hq, hce, hcv, vx_cls hW₁ hcl, st⟩
end
end VXH
theorem vx_ofWH {l : Launch} {y : MethodName} {ws ws' : List Cond} {rm : Room} {Pc : Array Value → State → Prop} {Qc : Array Value → State → Outcome → State → Prop} {XC : String → State → State → Prop} {mc ms : Nat} {free : Addr → Prop} {cc : ByteArray} {maxL : Nat} {ret : Option FieldType} {hh : List (Nat × Nat × Nat × Nat)}
    (hy : plainName y.cls = true) (hw : ws = Cond.codeWith y cc maxL ret hh :: ws')
    (body : ∀ p e s m args below meth c s₁, BodyLoose p l y (headSpec ws rm) cc maxL ret e s m args below meth c s₁ → c.maxLocals = maxL → Pc args s →
      W p l e (headSpec ws rm).room s m args below meth c s.heap [] 0 0 (vx_MQ below Qc XC args s mc ms free) (entryFrame m args maxL)) : vx_Met l y ws rm Pc Qc XC mc ms free := by
  refine MetFree.of_bodyS (code := cc) (maxLocals := maxL) (ret := ret) hy ?_ ?_
  · intro args s m h hn
    obtain ⟨m9, meth, c, hn9, h1, h2, h3, h4, -, h5, h6, -⟩ := Cond.codeWith_spec (atoms_spec (ws := ws) h _ (by rw [hw]; exact List.mem_cons_self))
    cases hn.symm.trans hn9
    exact ⟨meth, c, h1, h2, h3, h4, h5, h6⟩
  · intro p e s m args below meth c s₁ B hml hP _
    have hh0 : s₁.heap = s.heap := by rw [B.state]; rfl
    obtain ⟨t, a1, o, b1, b2, b3⟩ := body p e s m args below meth c s₁ B hml hP s₁ hh0 (Stand.of_body B)
    exact ⟨t, o, a1, b1, b2, b3⟩
/-! ===== END ===== -/
end
section
/-! ===== BEGIN printed: names, fields, word lists, decode rows ===== -/
def RX0 : String := "WordMill"
def TX0 : u_T := fun k => match k with
  | 0 => ("WordMill", "memory", "[J", true)
  | 1 => ("WordMill", "pc", "I", false)
  | 2 => ("WordMill", "next", "I", false)
  | 3 => ("WordMill", "doneInAll", "I", false)
  | _ => ("WordMill", "doneInRun", "I", false)
def tyX0 : Nat → FieldType := fun k => match k with
  | 0 => .array .long
  | 1 => .int
  | 2 => .int
  | 3 => .int
  | _ => .int
abbrev wsX00 : List Cond := u_ws RX0 TX0 5
theorem nmX0 : ∀ a, a < 5 → ∀ b, b < 5 → a ≠ b → (TX0 a).2.1 ≠ (TX0 b).2.1 := by decide +kernel
theorem tyX0_ok : ∀ k, k < 5 → parseFieldDescriptor (TX0 k).2.2.1 = some (tyX0 k) := by decide +kernel
abbrev cX0_init : ByteArray := prog_1_method_1_code
def yX0_init : MethodName := ⟨RX0, "<init>", "()V"⟩
abbrev cX0_put : ByteArray := prog_1_method_2_code
def yX0_put : MethodName := ⟨RX0, "put", "(IJ)V"⟩
abbrev cX0_word : ByteArray := prog_1_method_3_code
def yX0_word : MethodName := ⟨RX0, "word", "(I)J"⟩
abbrev cX0_code : ByteArray := prog_1_method_4_code
def yX0_code : MethodName := ⟨RX0, "code", "(IIIZII)J"⟩
abbrev cX0_go : ByteArray := prog_1_method_5_code
def yX0_go : MethodName := ⟨RX0, "go", "(I)V"⟩
abbrev cX0_run : ByteArray := prog_1_method_6_code
def yX0_run : MethodName := ⟨RX0, "run", "(I)I"⟩
abbrev cX0_count : ByteArray := prog_1_method_7_code
def yX0_count : MethodName := ⟨RX0, "count", "(I)I"⟩
abbrev cX0_refuseOutside : ByteArray := prog_1_method_8_code
def yX0_refuseOutside : MethodName := ⟨RX0, "refuseOutside", "(II)V"⟩
abbrev cX0_step : ByteArray := prog_1_method_9_code
def yX0_step : MethodName := ⟨RX0, "step", "()I"⟩
abbrev cX0_effective : ByteArray := prog_1_method_10_code
def yX0_effective : MethodName := ⟨RX0, "effective", "(J)I"⟩
abbrev cX0_indexed : ByteArray := prog_1_method_11_code
def yX0_indexed : MethodName := ⟨RX0, "indexed", "(J)I"⟩
abbrev cX0_isIndirect : ByteArray := prog_1_method_12_code
def yX0_isIndirect : MethodName := ⟨RX0, "isIndirect", "(J)Z"⟩
abbrev cX0_perform : ByteArray := prog_1_method_13_code
def yX0_perform : MethodName := ⟨RX0, "perform", "(III)I"⟩
abbrev cX0_performOnMemory : ByteArray := prog_1_method_14_code
def yX0_performOnMemory : MethodName := ⟨RX0, "performOnMemory", "(III)I"⟩
abbrev cX0_combine : ByteArray := prog_1_method_15_code
def yX0_combine : MethodName := ⟨RX0, "combine", "(IIJ)I"⟩
abbrev cX0_isOfHalves : ByteArray := prog_1_method_16_code
def yX0_isOfHalves : MethodName := ⟨RX0, "isOfHalves", "(I)Z"⟩
abbrev cX0_ofWords : ByteArray := prog_1_method_17_code
def yX0_ofWords : MethodName := ⟨RX0, "ofWords", "(IJJ)J"⟩
abbrev cX0_ofHalves : ByteArray := prog_1_method_18_code
def yX0_ofHalves : MethodName := ⟨RX0, "ofHalves", "(IJJ)J"⟩
abbrev cX0_shifted : ByteArray := prog_1_method_19_code
def yX0_shifted : MethodName := ⟨RX0, "shifted", "(JI)J"⟩
abbrev cX0_divide : ByteArray := prog_1_method_20_code
def yX0_divide : MethodName := ⟨RX0, "divide", "(IJ)I"⟩
abbrev cX0_exchange : ByteArray := prog_1_method_21_code
def yX0_exchange : MethodName := ⟨RX0, "exchange", "(II)I"⟩
abbrev cX0_jump : ByteArray := prog_1_method_22_code
def yX0_jump : MethodName := ⟨RX0, "jump", "(I)I"⟩
abbrev cX0_leaveNextPlaceAndJump : ByteArray := prog_1_method_23_code
def yX0_leaveNextPlaceAndJump : MethodName := ⟨RX0, "leaveNextPlaceAndJump", "(I)I"⟩
abbrev cX0_pushNextPlace : ByteArray := prog_1_method_24_code
def yX0_pushNextPlace : MethodName := ⟨RX0, "pushNextPlace", "(II)I"⟩
abbrev cX0_push : ByteArray := prog_1_method_25_code
def yX0_push : MethodName := ⟨RX0, "push", "(IJ)I"⟩
abbrev cX0_popToMemory : ByteArray := prog_1_method_26_code
def yX0_popToMemory : MethodName := ⟨RX0, "popToMemory", "(II)I"⟩
abbrev cX0_popToPc : ByteArray := prog_1_method_27_code
def yX0_popToPc : MethodName := ⟨RX0, "popToPc", "(I)I"⟩
abbrev cX0_moveTop : ByteArray := prog_1_method_28_code
def yX0_moveTop : MethodName := ⟨RX0, "moveTop", "(II)V"⟩
abbrev cX0_isTest : ByteArray := prog_1_method_29_code
def yX0_isTest : MethodName := ⟨RX0, "isTest", "(I)Z"⟩
abbrev cX0_test : ByteArray := prog_1_method_30_code
def yX0_test : MethodName := ⟨RX0, "test", "(III)I"⟩
abbrev cX0_changeAndJump : ByteArray := prog_1_method_31_code
def yX0_changeAndJump : MethodName := ⟨RX0, "changeAndJump", "(IIII)I"⟩
abbrev cX0_changeAndSkip : ByteArray := prog_1_method_32_code
def yX0_changeAndSkip : MethodName := ⟨RX0, "changeAndSkip", "(IIII)I"⟩
abbrev cX0_skipIf : ByteArray := prog_1_method_33_code
def yX0_skipIf : MethodName := ⟨RX0, "skipIf", "(Z)I"⟩
abbrev cX0_holds : ByteArray := prog_1_method_34_code
def yX0_holds : MethodName := ⟨RX0, "holds", "(IJJ)Z"⟩
abbrev cX0_number : ByteArray := prog_1_method_35_code
def yX0_number : MethodName := ⟨RX0, "number", "(J)J"⟩
abbrev cX0_rightHalf : ByteArray := prog_1_method_36_code
def yX0_rightHalf : MethodName := ⟨RX0, "rightHalf", "(J)I"⟩
abbrev cX0_leftHalf : ByteArray := prog_1_method_37_code
def yX0_leftHalf : MethodName := ⟨RX0, "leftHalf", "(J)I"⟩
abbrev cX0_store : ByteArray := prog_1_method_38_code
def yX0_store : MethodName := ⟨RX0, "store", "(IJ)V"⟩
def RX1 : String := "WordMillModel"
def TX1 : u_T := fun k => match k with
  | 0 => ("WordMillModel", "thrown", "I", false)
  | 1 => ("WordMillModel", "memory", "[J", true)
  | 2 => ("WordMillModel", "pc", "I", false)
  | 3 => ("WordMillModel", "latest", "I", false)
  | 4 => ("WordMillModel", "fault", "I", false)
  | _ => ("WordMillModel", "done", "J", false)
def tyX1 : Nat → FieldType := fun k => match k with
  | 0 => .int
  | 1 => .array .long
  | 2 => .int
  | 3 => .int
  | 4 => .int
  | _ => .long
abbrev wsX10 : List Cond := u_ws RX1 TX1 6
theorem nmX1 : ∀ a, a < 6 → ∀ b, b < 6 → a ≠ b → (TX1 a).2.1 ≠ (TX1 b).2.1 := by decide +kernel
theorem tyX1_ok : ∀ k, k < 6 → parseFieldDescriptor (TX1 k).2.2.1 = some (tyX1 k) := by decide +kernel
abbrev cX1_init : ByteArray := prog_3_method_1_code
def yX1_init : MethodName := ⟨RX1, "<init>", "()V"⟩
abbrev cX1_thrown : ByteArray := prog_3_method_2_code
def yX1_thrown : MethodName := ⟨RX1, "thrown", "()I"⟩
abbrev cX1_bad : ByteArray := prog_3_method_3_code
def yX1_bad : MethodName := ⟨RX1, "bad", "(Z)Z"⟩
abbrev cX1_isPlace : ByteArray := prog_3_method_4_code
def yX1_isPlace : MethodName := ⟨RX1, "isPlace", "(J)Z"⟩
abbrev cX1_put : ByteArray := prog_3_method_5_code
def yX1_put : MethodName := ⟨RX1, "put", "(IJ)V"⟩
abbrev cX1_word : ByteArray := prog_3_method_6_code
def yX1_word : MethodName := ⟨RX1, "word", "(I)J"⟩
abbrev cX1_code : ByteArray := prog_3_method_7_code
def yX1_code : MethodName := ⟨RX1, "code", "(IIIZII)J"⟩
abbrev cX1_go : ByteArray := prog_3_method_8_code
def yX1_go : MethodName := ⟨RX1, "go", "(I)V"⟩
abbrev cX1_number : ByteArray := prog_3_method_9_code
def yX1_number : MethodName := ⟨RX1, "number", "(J)J"⟩
abbrev cX1_at : ByteArray := prog_3_method_10_code
def yX1_at : MethodName := ⟨RX1, "at", "(J)J"⟩
abbrev cX1_effective : ByteArray := prog_3_method_11_code
def yX1_effective : MethodName := ⟨RX1, "effective", "(J)J"⟩
abbrev cX1_is : ByteArray := prog_3_method_12_code
def yX1_is : MethodName := ⟨RX1, "is", "(IJJ)Z"⟩
abbrev cX1_isKnown : ByteArray := prog_3_method_13_code
def yX1_isKnown : MethodName := ⟨RX1, "isKnown", "(I)Z"⟩
abbrev cX1_run : ByteArray := prog_3_method_14_code
def yX1_run : MethodName := ⟨RX1, "run", "(I)I"⟩
abbrev cX1_one : ByteArray := prog_3_method_15_code
def yX1_one : MethodName := ⟨RX1, "one", "(IIJ)V"⟩
abbrev cX1_needsWord : ByteArray := prog_3_method_16_code
def yX1_needsWord : MethodName := ⟨RX1, "needsWord", "(I)Z"⟩
abbrev cX1_tested : ByteArray := prog_3_method_17_code
def yX1_tested : MethodName := ⟨RX1, "tested", "(IIJJI)I"⟩
abbrev cX1_half : ByteArray := prog_3_method_18_code
def yX1_half : MethodName := ⟨RX1, "half", "(JJ)J"⟩
abbrev cX1_piled : ByteArray := prog_3_method_19_code
def yX1_piled : MethodName := ⟨RX1, "piled", "(IIJJI)I"⟩
abbrev cX1_moved : ByteArray := prog_3_method_20_code
def yX1_moved : MethodName := ⟨RX1, "moved", "(IIJJ)V"⟩
abbrev cX1_divided : ByteArray := prog_3_method_21_code
def yX1_divided : MethodName := ⟨RX1, "divided", "(IJJ)V"⟩
abbrev cX1_bits : ByteArray := prog_3_method_22_code
def yX1_bits : MethodName := ⟨RX1, "bits", "(IIJJ)V"⟩
abbrev cX1_count : ByteArray := prog_3_method_23_code
def yX1_count : MethodName := ⟨RX1, "count", "(I)I"⟩
def RJ9 : String := "java/lang/Math"
def TJ9 : u_T := fun k => match k with
  | _ => ("", "", "", false)
def tyJ9 : Nat → FieldType := fun k => match k with
  | _ => .int
abbrev wsJ90 : List Cond := u_ws RJ9 TJ9 0
theorem nmJ9 : ∀ a, a < 0 → ∀ b, b < 0 → a ≠ b → (TJ9 a).2.1 ≠ (TJ9 b).2.1 := by decide +kernel
theorem tyJ9_ok : ∀ k, k < 0 → parseFieldDescriptor (TJ9 k).2.2.1 = some (tyJ9 k) := by decide +kernel
abbrev cJ9_abs_067f4 : ByteArray := prog_6_method_61_code
def yJ9_abs_067f4 : MethodName := ⟨RJ9, "abs", "(J)J"⟩
def RL : String := "WordMillLaw"
abbrev cL_put : ByteArray := method_3_code
def yL_put : MethodName := ⟨RL, "put", "(LWordMill;IJ)I"⟩
abbrev cL_word : ByteArray := method_4_code
def yL_word : MethodName := ⟨RL, "word", "(LWordMill;I[J)I"⟩
abbrev cL_code : ByteArray := method_5_code
def yL_code : MethodName := ⟨RL, "code", "(LWordMill;IIIZII[J)I"⟩
abbrev cL_go : ByteArray := method_6_code
def yL_go : MethodName := ⟨RL, "go", "(LWordMill;I)I"⟩
abbrev cL_run : ByteArray := method_7_code
def yL_run : MethodName := ⟨RL, "run", "(LWordMill;I[J)I"⟩
abbrev cL_law : ByteArray := code
def yL_law : MethodName := ⟨RL, "law", "([I)Z"⟩
def wsX0_init : List Cond := .code yX0_init cX0_init 1 none :: ([.methodLink RX0 1 objectInit, .instanceMethod objectInit, .code objectInit ⟨#[0xb1]⟩ 1 none, .arrayClass .long, .fieldLink RX0 9 "WordMill" "memory" "[J", .fieldLink RX0 13 "WordMill" "pc" "I", .fieldLink RX0 17 "WordMill" "next" "I", .fieldLink RX0 20 "WordMill" "doneInAll" "I", .fieldLink RX0 23 "WordMill" "doneInRun" "I"] ++ wsX00)
def wsX0_refuseOutside : List Cond := .code yX0_refuseOutside cX0_refuseOutside 2 none :: ([.classLink RX0 40 "java/lang/IllegalArgumentException", .initialized "java/lang/IllegalArgumentException"] ++ (vx_at0 RX0 42 "java/lang/IllegalArgumentException" ["java/lang/RuntimeException", "java/lang/Exception"]).filter goodWord)
def wsX0_store : List Cond := .code yX0_store cX0_store 4 none :: ([.fieldLink RX0 9 "WordMill" "memory" "[J", .constantLong RX0 152 (68719476735)] ++ wsX00)
def wsX0_put : List Cond := .code yX0_put cX0_put 4 none :: ([.methodLink RX0 26 yX0_refuseOutside, .static yX0_refuseOutside, .initialized RX0, .code yX0_refuseOutside cX0_refuseOutside 2 none, .classLink RX0 40 "java/lang/IllegalArgumentException", .initialized "java/lang/IllegalArgumentException", .methodLink RX0 30 yX0_store, .instanceMethod yX0_store, .selects RX0 yX0_store yX0_store, .code yX0_store cX0_store 4 none, .fieldLink RX0 9 "WordMill" "memory" "[J", .constantLong RX0 152 (68719476735)] ++ wsX00 ++ (vx_at0 RX0 42 "java/lang/IllegalArgumentException" ["java/lang/RuntimeException", "java/lang/Exception"]).filter goodWord)
def wsX0_word : List Cond := .code yX0_word cX0_word 2 (some .long) :: ([.fieldLink RX0 9 "WordMill" "memory" "[J", .methodLink RX0 26 yX0_refuseOutside, .static yX0_refuseOutside, .initialized RX0, .code yX0_refuseOutside cX0_refuseOutside 2 none, .classLink RX0 40 "java/lang/IllegalArgumentException", .initialized "java/lang/IllegalArgumentException"] ++ wsX00 ++ (vx_at0 RX0 42 "java/lang/IllegalArgumentException" ["java/lang/RuntimeException", "java/lang/Exception"]).filter goodWord)
def wsX0_code : List Cond := .code yX0_code cX0_code 9 (some .long) :: ([.constant RX0 34 (262143), .methodLink RX0 26 yX0_refuseOutside, .static yX0_refuseOutside, .initialized RX0, .code yX0_refuseOutside cX0_refuseOutside 2 none, .classLink RX0 40 "java/lang/IllegalArgumentException", .initialized "java/lang/IllegalArgumentException", .methodLink RX0 30 yX0_store, .instanceMethod yX0_store, .selects RX0 yX0_store yX0_store, .code yX0_store cX0_store 4 none, .fieldLink RX0 9 "WordMill" "memory" "[J", .constantLong RX0 152 (68719476735)] ++ wsX00 ++ (vx_at0 RX0 42 "java/lang/IllegalArgumentException" ["java/lang/RuntimeException", "java/lang/Exception"]).filter goodWord)
def wsX0_go : List Cond := .code yX0_go cX0_go 2 none :: ([.fieldLink RX0 13 "WordMill" "pc" "I", .methodLink RX0 26 yX0_refuseOutside, .static yX0_refuseOutside, .initialized RX0, .code yX0_refuseOutside cX0_refuseOutside 2 none, .classLink RX0 40 "java/lang/IllegalArgumentException", .initialized "java/lang/IllegalArgumentException"] ++ wsX00 ++ (vx_at0 RX0 42 "java/lang/IllegalArgumentException" ["java/lang/RuntimeException", "java/lang/Exception"]).filter goodWord)
def wsX0_rightHalf : List Cond := .code yX0_rightHalf cX0_rightHalf 2 (some .int) :: ([.constant RX0 34 (262143)])
def wsX0_indexed : List Cond := .code yX0_indexed cX0_indexed 5 (some .int) :: ([.fieldLink RX0 9 "WordMill" "memory" "[J", .constant RX0 34 (262143), .methodLink RX0 58 yX0_rightHalf, .static yX0_rightHalf, .initialized RX0, .code yX0_rightHalf cX0_rightHalf 2 (some .int)] ++ wsX00)
def wsX0_isIndirect : List Cond := .code yX0_isIndirect cX0_isIndirect 2 (some .boolean) :: ([])
def wsX0_effective : List Cond := .code yX0_effective cX0_effective 7 (some .int) :: ([.fieldLink RX0 9 "WordMill" "memory" "[J", .methodLink RX0 51 yX0_indexed, .instanceMethod yX0_indexed, .selects RX0 yX0_indexed yX0_indexed, .initialized RX0, .code yX0_indexed cX0_indexed 5 (some .int), .constant RX0 34 (262143), .methodLink RX0 58 yX0_rightHalf, .static yX0_rightHalf, .code yX0_rightHalf cX0_rightHalf 2 (some .int), .methodLink RX0 54 yX0_isIndirect, .static yX0_isIndirect, .code yX0_isIndirect cX0_isIndirect 2 (some .boolean)] ++ wsX00)
def wsX0_isOfHalves : List Cond := .code yX0_isOfHalves cX0_isOfHalves 1 (some .boolean) :: ([])
def wsX0_leftHalf : List Cond := .code yX0_leftHalf cX0_leftHalf 2 (some .int) :: ([.constant RX0 34 (262143)])
def wsX0_ofHalves : List Cond := .code yX0_ofHalves cX0_ofHalves 5 (some .long) :: ([.constantLong RX0 130 (68719214592), .methodLink RX0 58 yX0_rightHalf, .static yX0_rightHalf, .initialized RX0, .code yX0_rightHalf cX0_rightHalf 2 (some .int), .constant RX0 34 (262143), .methodLink RX0 112 yX0_leftHalf, .static yX0_leftHalf, .code yX0_leftHalf cX0_leftHalf 2 (some .int)])
def wsX0_number : List Cond := .code yX0_number cX0_number 2 (some .long) :: ([])
def wsX0_shifted : List Cond := .code yX0_shifted cX0_shifted 4 (some .long) :: ([])
def wsX0_ofWords : List Cond := .code yX0_ofWords cX0_ofWords 5 (some .long) :: ([.methodLink RX0 119 Lib.MathLoose.abs_long.x, .static Lib.MathLoose.abs_long.x, .initialized "java/lang/Math", .code Lib.MathLoose.abs_long.x Lib.MathLoose.abs_long.code 2 (some .long), .constantLong RX0 128 (-1), .methodLink RX0 112 yX0_leftHalf, .static yX0_leftHalf, .initialized RX0, .code yX0_leftHalf cX0_leftHalf 2 (some .int), .constant RX0 34 (262143), .methodLink RX0 115 yX0_number, .static yX0_number, .code yX0_number cX0_number 2 (some .long), .methodLink RX0 124 yX0_shifted, .static yX0_shifted, .code yX0_shifted cX0_shifted 4 (some .long)])
def wsX0_combine_r1 : List Cond := [Cond.fieldLink RX0 9 "WordMill" "memory" "[J", Cond.methodLink RX0 102 yX0_isOfHalves, Cond.static yX0_isOfHalves, Cond.initialized RX0, Cond.code yX0_isOfHalves cX0_isOfHalves 1 (some .boolean), Cond.methodLink RX0 105 yX0_ofHalves, Cond.static yX0_ofHalves, Cond.code yX0_ofHalves cX0_ofHalves 5 (some .long), Cond.constantLong RX0 130 (68719214592), Cond.methodLink RX0 58 yX0_rightHalf, Cond.static yX0_rightHalf, Cond.code yX0_rightHalf cX0_rightHalf 2 (some .int), Cond.constant RX0 34 (262143), Cond.methodLink RX0 112 yX0_leftHalf, Cond.static yX0_leftHalf, Cond.code yX0_leftHalf cX0_leftHalf 2 (some .int), Cond.methodLink RX0 109 yX0_ofWords, Cond.static yX0_ofWords, Cond.code yX0_ofWords cX0_ofWords 5 (some .long), Cond.methodLink RX0 119 Lib.MathLoose.abs_long.x, Cond.static Lib.MathLoose.abs_long.x, Cond.initialized "java/lang/Math", Cond.code Lib.MathLoose.abs_long.x Lib.MathLoose.abs_long.code 2 (some .long), Cond.constantLong RX0 128 (-1)]
def wsX0_combine_r2 : List Cond := [Cond.methodLink RX0 115 yX0_number, Cond.static yX0_number, Cond.code yX0_number cX0_number 2 (some .long), Cond.methodLink RX0 124 yX0_shifted, Cond.static yX0_shifted, Cond.code yX0_shifted cX0_shifted 4 (some .long), Cond.methodLink RX0 30 yX0_store, Cond.instanceMethod yX0_store, Cond.selects RX0 yX0_store yX0_store, Cond.code yX0_store cX0_store 4 none, Cond.constantLong RX0 152 (68719476735)]
def wsX0_combine : List Cond := .code yX0_combine cX0_combine 7 (some .int) :: ((wsX0_combine_r1 ++ wsX0_combine_r2) ++ wsX00)
def wsX0_divide : List Cond := .code yX0_divide cX0_divide 8 (some .int) :: ([.fieldLink RX0 9 "WordMill" "memory" "[J", .constantLong RX0 128 (-1), .constantLong RX0 132 (-34359738368), .methodLink RX0 115 yX0_number, .static yX0_number, .initialized RX0, .code yX0_number cX0_number 2 (some .long), .methodLink RX0 30 yX0_store, .instanceMethod yX0_store, .selects RX0 yX0_store yX0_store, .code yX0_store cX0_store 4 none, .constantLong RX0 152 (68719476735)] ++ wsX00)
def wsX0_jump : List Cond := .code yX0_jump cX0_jump 2 (some .int) :: ([.fieldLink RX0 17 "WordMill" "next" "I"] ++ wsX00)
def wsX0_moveTop : List Cond := .code yX0_moveTop cX0_moveTop 5 none :: ([.fieldLink RX0 9 "WordMill" "memory" "[J", .constantLong RX0 130 (68719214592), .constant RX0 34 (262143), .methodLink RX0 58 yX0_rightHalf, .static yX0_rightHalf, .initialized RX0, .code yX0_rightHalf cX0_rightHalf 2 (some .int), .methodLink RX0 30 yX0_store, .instanceMethod yX0_store, .selects RX0 yX0_store yX0_store, .code yX0_store cX0_store 4 none, .constantLong RX0 152 (68719476735)] ++ wsX00)
def wsX0_push : List Cond := .code yX0_push cX0_push 5 (some .int) :: ([.fieldLink RX0 9 "WordMill" "memory" "[J", .constant RX0 34 (262143), .methodLink RX0 58 yX0_rightHalf, .static yX0_rightHalf, .initialized RX0, .code yX0_rightHalf cX0_rightHalf 2 (some .int), .methodLink RX0 134 yX0_moveTop, .instanceMethod yX0_moveTop, .selects RX0 yX0_moveTop yX0_moveTop, .code yX0_moveTop cX0_moveTop 5 none, .constantLong RX0 130 (68719214592), .methodLink RX0 30 yX0_store, .instanceMethod yX0_store, .selects RX0 yX0_store yX0_store, .code yX0_store cX0_store 4 none, .constantLong RX0 152 (68719476735)] ++ wsX00)
def wsX0_pushNextPlace_r1 : List Cond := [Cond.fieldLink RX0 17 "WordMill" "next" "I", Cond.methodLink RX0 93 yX0_push, Cond.instanceMethod yX0_push, Cond.selects RX0 yX0_push yX0_push, Cond.initialized RX0, Cond.code yX0_push cX0_push 5 (some .int), Cond.fieldLink RX0 9 "WordMill" "memory" "[J", Cond.constant RX0 34 (262143), Cond.methodLink RX0 58 yX0_rightHalf, Cond.static yX0_rightHalf, Cond.code yX0_rightHalf cX0_rightHalf 2 (some .int), Cond.methodLink RX0 134 yX0_moveTop, Cond.instanceMethod yX0_moveTop, Cond.selects RX0 yX0_moveTop yX0_moveTop, Cond.code yX0_moveTop cX0_moveTop 5 none, Cond.constantLong RX0 130 (68719214592), Cond.methodLink RX0 30 yX0_store, Cond.instanceMethod yX0_store, Cond.selects RX0 yX0_store yX0_store, Cond.code yX0_store cX0_store 4 none, Cond.constantLong RX0 152 (68719476735), Cond.methodLink RX0 69 yX0_jump, Cond.instanceMethod yX0_jump, Cond.selects RX0 yX0_jump yX0_jump]
def wsX0_pushNextPlace_r2 : List Cond := [Cond.code yX0_jump cX0_jump 2 (some .int)]
def wsX0_pushNextPlace : List Cond := .code yX0_pushNextPlace cX0_pushNextPlace 4 (some .int) :: ((wsX0_pushNextPlace_r1 ++ wsX0_pushNextPlace_r2) ++ wsX00)
def wsX0_popToPc : List Cond := .code yX0_popToPc cX0_popToPc 3 (some .int) :: ([.fieldLink RX0 9 "WordMill" "memory" "[J", .methodLink RX0 58 yX0_rightHalf, .static yX0_rightHalf, .initialized RX0, .code yX0_rightHalf cX0_rightHalf 2 (some .int), .constant RX0 34 (262143), .methodLink RX0 69 yX0_jump, .instanceMethod yX0_jump, .selects RX0 yX0_jump yX0_jump, .code yX0_jump cX0_jump 2 (some .int), .fieldLink RX0 17 "WordMill" "next" "I", .methodLink RX0 134 yX0_moveTop, .instanceMethod yX0_moveTop, .selects RX0 yX0_moveTop yX0_moveTop, .code yX0_moveTop cX0_moveTop 5 none, .constantLong RX0 130 (68719214592), .methodLink RX0 30 yX0_store, .instanceMethod yX0_store, .selects RX0 yX0_store yX0_store, .code yX0_store cX0_store 4 none, .constantLong RX0 152 (68719476735)] ++ wsX00)
def wsX0_exchange : List Cond := .code yX0_exchange cX0_exchange 5 (some .int) :: ([.fieldLink RX0 9 "WordMill" "memory" "[J", .methodLink RX0 30 yX0_store, .instanceMethod yX0_store, .selects RX0 yX0_store yX0_store, .initialized RX0, .code yX0_store cX0_store 4 none, .constantLong RX0 152 (68719476735)] ++ wsX00)
def wsX0_popToMemory : List Cond := .code yX0_popToMemory cX0_popToMemory 4 (some .int) :: ([.fieldLink RX0 9 "WordMill" "memory" "[J", .methodLink RX0 58 yX0_rightHalf, .static yX0_rightHalf, .initialized RX0, .code yX0_rightHalf cX0_rightHalf 2 (some .int), .constant RX0 34 (262143), .methodLink RX0 30 yX0_store, .instanceMethod yX0_store, .selects RX0 yX0_store yX0_store, .code yX0_store cX0_store 4 none, .constantLong RX0 152 (68719476735), .methodLink RX0 134 yX0_moveTop, .instanceMethod yX0_moveTop, .selects RX0 yX0_moveTop yX0_moveTop, .code yX0_moveTop cX0_moveTop 5 none, .constantLong RX0 130 (68719214592)] ++ wsX00)
def wsX0_leaveNextPlaceAndJump : List Cond := .code yX0_leaveNextPlaceAndJump cX0_leaveNextPlaceAndJump 2 (some .int) :: ([.fieldLink RX0 17 "WordMill" "next" "I", .methodLink RX0 30 yX0_store, .instanceMethod yX0_store, .selects RX0 yX0_store yX0_store, .initialized RX0, .code yX0_store cX0_store 4 none, .fieldLink RX0 9 "WordMill" "memory" "[J", .constantLong RX0 152 (68719476735), .methodLink RX0 69 yX0_jump, .instanceMethod yX0_jump, .selects RX0 yX0_jump yX0_jump, .code yX0_jump cX0_jump 2 (some .int)] ++ wsX00)
def wsX0_performOnMemory_r1 : List Cond := [Cond.fieldLink RX0 9 "WordMill" "memory" "[J", Cond.methodLink RX0 30 yX0_store, Cond.instanceMethod yX0_store, Cond.selects RX0 yX0_store yX0_store, Cond.initialized RX0, Cond.code yX0_store cX0_store 4 none, Cond.constantLong RX0 152 (68719476735), Cond.methodLink RX0 65 yX0_divide, Cond.instanceMethod yX0_divide, Cond.selects RX0 yX0_divide yX0_divide, Cond.code yX0_divide cX0_divide 8 (some .int), Cond.constantLong RX0 128 (-1), Cond.constantLong RX0 132 (-34359738368), Cond.methodLink RX0 115 yX0_number, Cond.static yX0_number, Cond.code yX0_number cX0_number 2 (some .long), Cond.methodLink RX0 90 yX0_exchange, Cond.instanceMethod yX0_exchange, Cond.selects RX0 yX0_exchange yX0_exchange, Cond.code yX0_exchange cX0_exchange 5 (some .int), Cond.methodLink RX0 93 yX0_push, Cond.instanceMethod yX0_push, Cond.selects RX0 yX0_push yX0_push, Cond.code yX0_push cX0_push 5 (some .int)]
def wsX0_performOnMemory_r2 : List Cond := [Cond.constant RX0 34 (262143), Cond.methodLink RX0 58 yX0_rightHalf, Cond.static yX0_rightHalf, Cond.code yX0_rightHalf cX0_rightHalf 2 (some .int), Cond.methodLink RX0 134 yX0_moveTop, Cond.instanceMethod yX0_moveTop, Cond.selects RX0 yX0_moveTop yX0_moveTop, Cond.code yX0_moveTop cX0_moveTop 5 none, Cond.constantLong RX0 130 (68719214592), Cond.methodLink RX0 96 yX0_popToMemory, Cond.instanceMethod yX0_popToMemory, Cond.selects RX0 yX0_popToMemory yX0_popToMemory, Cond.code yX0_popToMemory cX0_popToMemory 4 (some .int), Cond.methodLink RX0 99 yX0_leaveNextPlaceAndJump, Cond.instanceMethod yX0_leaveNextPlaceAndJump, Cond.selects RX0 yX0_leaveNextPlaceAndJump yX0_leaveNextPlaceAndJump, Cond.code yX0_leaveNextPlaceAndJump cX0_leaveNextPlaceAndJump 2 (some .int), Cond.fieldLink RX0 17 "WordMill" "next" "I", Cond.methodLink RX0 69 yX0_jump, Cond.instanceMethod yX0_jump, Cond.selects RX0 yX0_jump yX0_jump, Cond.code yX0_jump cX0_jump 2 (some .int), Cond.methodLink RX0 61 yX0_combine, Cond.instanceMethod yX0_combine]
def wsX0_performOnMemory_r3 : List Cond := [Cond.selects RX0 yX0_combine yX0_combine, Cond.code yX0_combine cX0_combine 7 (some .int), Cond.methodLink RX0 102 yX0_isOfHalves, Cond.static yX0_isOfHalves, Cond.code yX0_isOfHalves cX0_isOfHalves 1 (some .boolean), Cond.methodLink RX0 105 yX0_ofHalves, Cond.static yX0_ofHalves, Cond.code yX0_ofHalves cX0_ofHalves 5 (some .long), Cond.methodLink RX0 112 yX0_leftHalf, Cond.static yX0_leftHalf, Cond.code yX0_leftHalf cX0_leftHalf 2 (some .int), Cond.methodLink RX0 109 yX0_ofWords, Cond.static yX0_ofWords, Cond.code yX0_ofWords cX0_ofWords 5 (some .long), Cond.methodLink RX0 119 Lib.MathLoose.abs_long.x, Cond.static Lib.MathLoose.abs_long.x, Cond.initialized "java/lang/Math", Cond.code Lib.MathLoose.abs_long.x Lib.MathLoose.abs_long.code 2 (some .long), Cond.methodLink RX0 124 yX0_shifted, Cond.static yX0_shifted, Cond.code yX0_shifted cX0_shifted 4 (some .long)]
def wsX0_performOnMemory : List Cond := .code yX0_performOnMemory cX0_performOnMemory 4 (some .int) :: ((wsX0_performOnMemory_r1 ++ (wsX0_performOnMemory_r2 ++ wsX0_performOnMemory_r3)) ++ wsX00)
def wsX0_isTest : List Cond := .code yX0_isTest cX0_isTest 1 (some .boolean) :: ([])
def wsX0_holds : List Cond := .code yX0_holds cX0_holds 10 (some .boolean) :: ([.methodLink RX0 115 yX0_number, .static yX0_number, .initialized RX0, .code yX0_number cX0_number 2 (some .long)])
def wsX0_skipIf : List Cond := .code yX0_skipIf cX0_skipIf 2 (some .int) :: ([.fieldLink RX0 17 "WordMill" "next" "I", .methodLink RX0 69 yX0_jump, .instanceMethod yX0_jump, .selects RX0 yX0_jump yX0_jump, .initialized RX0, .code yX0_jump cX0_jump 2 (some .int)] ++ wsX00)
def wsX0_changeAndJump : List Cond := .code yX0_changeAndJump cX0_changeAndJump 5 (some .int) :: ([.fieldLink RX0 9 "WordMill" "memory" "[J", .methodLink RX0 30 yX0_store, .instanceMethod yX0_store, .selects RX0 yX0_store yX0_store, .initialized RX0, .code yX0_store cX0_store 4 none, .constantLong RX0 152 (68719476735), .methodLink RX0 137 yX0_holds, .static yX0_holds, .code yX0_holds cX0_holds 10 (some .boolean), .methodLink RX0 115 yX0_number, .static yX0_number, .code yX0_number cX0_number 2 (some .long), .methodLink RX0 69 yX0_jump, .instanceMethod yX0_jump, .selects RX0 yX0_jump yX0_jump, .code yX0_jump cX0_jump 2 (some .int), .fieldLink RX0 17 "WordMill" "next" "I"] ++ wsX00)
def wsX0_changeAndSkip : List Cond := .code yX0_changeAndSkip cX0_changeAndSkip 7 (some .int) :: ([.fieldLink RX0 9 "WordMill" "memory" "[J", .methodLink RX0 30 yX0_store, .instanceMethod yX0_store, .selects RX0 yX0_store yX0_store, .initialized RX0, .code yX0_store cX0_store 4 none, .constantLong RX0 152 (68719476735), .methodLink RX0 137 yX0_holds, .static yX0_holds, .code yX0_holds cX0_holds 10 (some .boolean), .methodLink RX0 115 yX0_number, .static yX0_number, .code yX0_number cX0_number 2 (some .long), .methodLink RX0 141 yX0_skipIf, .instanceMethod yX0_skipIf, .selects RX0 yX0_skipIf yX0_skipIf, .code yX0_skipIf cX0_skipIf 2 (some .int), .fieldLink RX0 17 "WordMill" "next" "I", .methodLink RX0 69 yX0_jump, .instanceMethod yX0_jump, .selects RX0 yX0_jump yX0_jump, .code yX0_jump cX0_jump 2 (some .int)] ++ wsX00)
def wsX0_test_r1 : List Cond := [Cond.fieldLink RX0 9 "WordMill" "memory" "[J", Cond.methodLink RX0 137 yX0_holds, Cond.static yX0_holds, Cond.initialized RX0, Cond.code yX0_holds cX0_holds 10 (some .boolean), Cond.methodLink RX0 115 yX0_number, Cond.static yX0_number, Cond.code yX0_number cX0_number 2 (some .long), Cond.methodLink RX0 141 yX0_skipIf, Cond.instanceMethod yX0_skipIf, Cond.selects RX0 yX0_skipIf yX0_skipIf, Cond.code yX0_skipIf cX0_skipIf 2 (some .int), Cond.fieldLink RX0 17 "WordMill" "next" "I", Cond.methodLink RX0 69 yX0_jump, Cond.instanceMethod yX0_jump, Cond.selects RX0 yX0_jump yX0_jump, Cond.code yX0_jump cX0_jump 2 (some .int), Cond.methodLink RX0 145 yX0_changeAndJump, Cond.instanceMethod yX0_changeAndJump, Cond.selects RX0 yX0_changeAndJump yX0_changeAndJump, Cond.code yX0_changeAndJump cX0_changeAndJump 5 (some .int), Cond.methodLink RX0 30 yX0_store, Cond.instanceMethod yX0_store, Cond.selects RX0 yX0_store yX0_store]
def wsX0_test_r2 : List Cond := [Cond.code yX0_store cX0_store 4 none, Cond.constantLong RX0 152 (68719476735), Cond.methodLink RX0 149 yX0_changeAndSkip, Cond.instanceMethod yX0_changeAndSkip, Cond.selects RX0 yX0_changeAndSkip yX0_changeAndSkip, Cond.code yX0_changeAndSkip cX0_changeAndSkip 7 (some .int)]
def wsX0_test : List Cond := .code yX0_test cX0_test 6 (some .int) :: ((wsX0_test_r1 ++ wsX0_test_r2) ++ wsX00)
def wsX0_perform_r1 : List Cond := [Cond.methodLink RX0 61 yX0_combine, Cond.instanceMethod yX0_combine, Cond.selects RX0 yX0_combine yX0_combine, Cond.initialized RX0, Cond.code yX0_combine cX0_combine 7 (some .int), Cond.fieldLink RX0 9 "WordMill" "memory" "[J", Cond.methodLink RX0 102 yX0_isOfHalves, Cond.static yX0_isOfHalves, Cond.code yX0_isOfHalves cX0_isOfHalves 1 (some .boolean), Cond.methodLink RX0 105 yX0_ofHalves, Cond.static yX0_ofHalves, Cond.code yX0_ofHalves cX0_ofHalves 5 (some .long), Cond.constantLong RX0 130 (68719214592), Cond.methodLink RX0 58 yX0_rightHalf, Cond.static yX0_rightHalf, Cond.code yX0_rightHalf cX0_rightHalf 2 (some .int), Cond.constant RX0 34 (262143), Cond.methodLink RX0 112 yX0_leftHalf, Cond.static yX0_leftHalf, Cond.code yX0_leftHalf cX0_leftHalf 2 (some .int), Cond.methodLink RX0 109 yX0_ofWords, Cond.static yX0_ofWords, Cond.code yX0_ofWords cX0_ofWords 5 (some .long), Cond.methodLink RX0 119 Lib.MathLoose.abs_long.x]
def wsX0_perform_r2 : List Cond := [Cond.static Lib.MathLoose.abs_long.x, Cond.initialized "java/lang/Math", Cond.code Lib.MathLoose.abs_long.x Lib.MathLoose.abs_long.code 2 (some .long), Cond.constantLong RX0 128 (-1), Cond.methodLink RX0 115 yX0_number, Cond.static yX0_number, Cond.code yX0_number cX0_number 2 (some .long), Cond.methodLink RX0 124 yX0_shifted, Cond.static yX0_shifted, Cond.code yX0_shifted cX0_shifted 4 (some .long), Cond.methodLink RX0 30 yX0_store, Cond.instanceMethod yX0_store, Cond.selects RX0 yX0_store yX0_store, Cond.code yX0_store cX0_store 4 none, Cond.constantLong RX0 152 (68719476735), Cond.methodLink RX0 65 yX0_divide, Cond.instanceMethod yX0_divide, Cond.selects RX0 yX0_divide yX0_divide, Cond.code yX0_divide cX0_divide 8 (some .int), Cond.constantLong RX0 132 (-34359738368), Cond.methodLink RX0 69 yX0_jump, Cond.instanceMethod yX0_jump, Cond.selects RX0 yX0_jump yX0_jump, Cond.code yX0_jump cX0_jump 2 (some .int)]
def wsX0_perform_r3 : List Cond := [Cond.fieldLink RX0 17 "WordMill" "next" "I", Cond.methodLink RX0 73 yX0_pushNextPlace, Cond.instanceMethod yX0_pushNextPlace, Cond.selects RX0 yX0_pushNextPlace yX0_pushNextPlace, Cond.code yX0_pushNextPlace cX0_pushNextPlace 4 (some .int), Cond.methodLink RX0 93 yX0_push, Cond.instanceMethod yX0_push, Cond.selects RX0 yX0_push yX0_push, Cond.code yX0_push cX0_push 5 (some .int), Cond.methodLink RX0 134 yX0_moveTop, Cond.instanceMethod yX0_moveTop, Cond.selects RX0 yX0_moveTop yX0_moveTop, Cond.code yX0_moveTop cX0_moveTop 5 none, Cond.methodLink RX0 77 yX0_popToPc, Cond.instanceMethod yX0_popToPc, Cond.selects RX0 yX0_popToPc yX0_popToPc, Cond.code yX0_popToPc cX0_popToPc 3 (some .int), Cond.methodLink RX0 80 yX0_performOnMemory, Cond.instanceMethod yX0_performOnMemory, Cond.selects RX0 yX0_performOnMemory yX0_performOnMemory, Cond.code yX0_performOnMemory cX0_performOnMemory 4 (some .int), Cond.methodLink RX0 90 yX0_exchange, Cond.instanceMethod yX0_exchange, Cond.selects RX0 yX0_exchange yX0_exchange]
def wsX0_perform_r4 : List Cond := [Cond.code yX0_exchange cX0_exchange 5 (some .int), Cond.methodLink RX0 96 yX0_popToMemory, Cond.instanceMethod yX0_popToMemory, Cond.selects RX0 yX0_popToMemory yX0_popToMemory, Cond.code yX0_popToMemory cX0_popToMemory 4 (some .int), Cond.methodLink RX0 99 yX0_leaveNextPlaceAndJump, Cond.instanceMethod yX0_leaveNextPlaceAndJump, Cond.selects RX0 yX0_leaveNextPlaceAndJump yX0_leaveNextPlaceAndJump, Cond.code yX0_leaveNextPlaceAndJump cX0_leaveNextPlaceAndJump 2 (some .int), Cond.methodLink RX0 83 yX0_isTest, Cond.static yX0_isTest, Cond.code yX0_isTest cX0_isTest 1 (some .boolean), Cond.methodLink RX0 87 yX0_test, Cond.instanceMethod yX0_test, Cond.selects RX0 yX0_test yX0_test, Cond.code yX0_test cX0_test 6 (some .int), Cond.methodLink RX0 137 yX0_holds, Cond.static yX0_holds, Cond.code yX0_holds cX0_holds 10 (some .boolean), Cond.methodLink RX0 141 yX0_skipIf, Cond.instanceMethod yX0_skipIf, Cond.selects RX0 yX0_skipIf yX0_skipIf, Cond.code yX0_skipIf cX0_skipIf 2 (some .int), Cond.methodLink RX0 145 yX0_changeAndJump]
def wsX0_perform_r5 : List Cond := [Cond.instanceMethod yX0_changeAndJump, Cond.selects RX0 yX0_changeAndJump yX0_changeAndJump, Cond.code yX0_changeAndJump cX0_changeAndJump 5 (some .int), Cond.methodLink RX0 149 yX0_changeAndSkip, Cond.instanceMethod yX0_changeAndSkip, Cond.selects RX0 yX0_changeAndSkip yX0_changeAndSkip, Cond.code yX0_changeAndSkip cX0_changeAndSkip 7 (some .int)]
def wsX0_perform : List Cond := .code yX0_perform cX0_perform 4 (some .int) :: ((wsX0_perform_r1 ++ (wsX0_perform_r2 ++ (wsX0_perform_r3 ++ (wsX0_perform_r4 ++ wsX0_perform_r5)))) ++ wsX00)
def wsX0_step_r1 : List Cond := [Cond.fieldLink RX0 9 "WordMill" "memory" "[J", Cond.fieldLink RX0 13 "WordMill" "pc" "I", Cond.fieldLink RX0 17 "WordMill" "next" "I", Cond.methodLink RX0 43 yX0_effective, Cond.instanceMethod yX0_effective, Cond.selects RX0 yX0_effective yX0_effective, Cond.initialized RX0, Cond.code yX0_effective cX0_effective 7 (some .int), Cond.methodLink RX0 51 yX0_indexed, Cond.instanceMethod yX0_indexed, Cond.selects RX0 yX0_indexed yX0_indexed, Cond.code yX0_indexed cX0_indexed 5 (some .int), Cond.constant RX0 34 (262143), Cond.methodLink RX0 58 yX0_rightHalf, Cond.static yX0_rightHalf, Cond.code yX0_rightHalf cX0_rightHalf 2 (some .int), Cond.methodLink RX0 54 yX0_isIndirect, Cond.static yX0_isIndirect, Cond.code yX0_isIndirect cX0_isIndirect 2 (some .boolean), Cond.methodLink RX0 47 yX0_perform, Cond.instanceMethod yX0_perform, Cond.selects RX0 yX0_perform yX0_perform, Cond.code yX0_perform cX0_perform 4 (some .int), Cond.methodLink RX0 61 yX0_combine]
def wsX0_step_r2 : List Cond := [Cond.instanceMethod yX0_combine, Cond.selects RX0 yX0_combine yX0_combine, Cond.code yX0_combine cX0_combine 7 (some .int), Cond.methodLink RX0 102 yX0_isOfHalves, Cond.static yX0_isOfHalves, Cond.code yX0_isOfHalves cX0_isOfHalves 1 (some .boolean), Cond.methodLink RX0 105 yX0_ofHalves, Cond.static yX0_ofHalves, Cond.code yX0_ofHalves cX0_ofHalves 5 (some .long), Cond.constantLong RX0 130 (68719214592), Cond.methodLink RX0 112 yX0_leftHalf, Cond.static yX0_leftHalf, Cond.code yX0_leftHalf cX0_leftHalf 2 (some .int), Cond.methodLink RX0 109 yX0_ofWords, Cond.static yX0_ofWords, Cond.code yX0_ofWords cX0_ofWords 5 (some .long), Cond.methodLink RX0 119 Lib.MathLoose.abs_long.x, Cond.static Lib.MathLoose.abs_long.x, Cond.initialized "java/lang/Math", Cond.code Lib.MathLoose.abs_long.x Lib.MathLoose.abs_long.code 2 (some .long), Cond.constantLong RX0 128 (-1), Cond.methodLink RX0 115 yX0_number, Cond.static yX0_number, Cond.code yX0_number cX0_number 2 (some .long)]
def wsX0_step_r3 : List Cond := [Cond.methodLink RX0 124 yX0_shifted, Cond.static yX0_shifted, Cond.code yX0_shifted cX0_shifted 4 (some .long), Cond.methodLink RX0 30 yX0_store, Cond.instanceMethod yX0_store, Cond.selects RX0 yX0_store yX0_store, Cond.code yX0_store cX0_store 4 none, Cond.constantLong RX0 152 (68719476735), Cond.methodLink RX0 65 yX0_divide, Cond.instanceMethod yX0_divide, Cond.selects RX0 yX0_divide yX0_divide, Cond.code yX0_divide cX0_divide 8 (some .int), Cond.constantLong RX0 132 (-34359738368), Cond.methodLink RX0 69 yX0_jump, Cond.instanceMethod yX0_jump, Cond.selects RX0 yX0_jump yX0_jump, Cond.code yX0_jump cX0_jump 2 (some .int), Cond.methodLink RX0 73 yX0_pushNextPlace, Cond.instanceMethod yX0_pushNextPlace, Cond.selects RX0 yX0_pushNextPlace yX0_pushNextPlace, Cond.code yX0_pushNextPlace cX0_pushNextPlace 4 (some .int), Cond.methodLink RX0 93 yX0_push, Cond.instanceMethod yX0_push, Cond.selects RX0 yX0_push yX0_push]
def wsX0_step_r4 : List Cond := [Cond.code yX0_push cX0_push 5 (some .int), Cond.methodLink RX0 134 yX0_moveTop, Cond.instanceMethod yX0_moveTop, Cond.selects RX0 yX0_moveTop yX0_moveTop, Cond.code yX0_moveTop cX0_moveTop 5 none, Cond.methodLink RX0 77 yX0_popToPc, Cond.instanceMethod yX0_popToPc, Cond.selects RX0 yX0_popToPc yX0_popToPc, Cond.code yX0_popToPc cX0_popToPc 3 (some .int), Cond.methodLink RX0 80 yX0_performOnMemory, Cond.instanceMethod yX0_performOnMemory, Cond.selects RX0 yX0_performOnMemory yX0_performOnMemory, Cond.code yX0_performOnMemory cX0_performOnMemory 4 (some .int), Cond.methodLink RX0 90 yX0_exchange, Cond.instanceMethod yX0_exchange, Cond.selects RX0 yX0_exchange yX0_exchange, Cond.code yX0_exchange cX0_exchange 5 (some .int), Cond.methodLink RX0 96 yX0_popToMemory, Cond.instanceMethod yX0_popToMemory, Cond.selects RX0 yX0_popToMemory yX0_popToMemory, Cond.code yX0_popToMemory cX0_popToMemory 4 (some .int), Cond.methodLink RX0 99 yX0_leaveNextPlaceAndJump, Cond.instanceMethod yX0_leaveNextPlaceAndJump, Cond.selects RX0 yX0_leaveNextPlaceAndJump yX0_leaveNextPlaceAndJump]
def wsX0_step_r5 : List Cond := [Cond.code yX0_leaveNextPlaceAndJump cX0_leaveNextPlaceAndJump 2 (some .int), Cond.methodLink RX0 83 yX0_isTest, Cond.static yX0_isTest, Cond.code yX0_isTest cX0_isTest 1 (some .boolean), Cond.methodLink RX0 87 yX0_test, Cond.instanceMethod yX0_test, Cond.selects RX0 yX0_test yX0_test, Cond.code yX0_test cX0_test 6 (some .int), Cond.methodLink RX0 137 yX0_holds, Cond.static yX0_holds, Cond.code yX0_holds cX0_holds 10 (some .boolean), Cond.methodLink RX0 141 yX0_skipIf, Cond.instanceMethod yX0_skipIf, Cond.selects RX0 yX0_skipIf yX0_skipIf, Cond.code yX0_skipIf cX0_skipIf 2 (some .int), Cond.methodLink RX0 145 yX0_changeAndJump, Cond.instanceMethod yX0_changeAndJump, Cond.selects RX0 yX0_changeAndJump yX0_changeAndJump, Cond.code yX0_changeAndJump cX0_changeAndJump 5 (some .int), Cond.methodLink RX0 149 yX0_changeAndSkip, Cond.instanceMethod yX0_changeAndSkip, Cond.selects RX0 yX0_changeAndSkip yX0_changeAndSkip, Cond.code yX0_changeAndSkip cX0_changeAndSkip 7 (some .int)]
def wsX0_step : List Cond := .code yX0_step cX0_step 6 (some .int) :: ((wsX0_step_r1 ++ (wsX0_step_r2 ++ (wsX0_step_r3 ++ (wsX0_step_r4 ++ wsX0_step_r5)))) ++ wsX00)
def wsX0_run_r1 : List Cond := [Cond.fieldLink RX0 23 "WordMill" "doneInRun" "I", Cond.fieldLink RX0 17 "WordMill" "next" "I", Cond.fieldLink RX0 13 "WordMill" "pc" "I", Cond.fieldLink RX0 20 "WordMill" "doneInAll" "I", Cond.constant RX0 39 (2147483647), Cond.methodLink RX0 26 yX0_refuseOutside, Cond.static yX0_refuseOutside, Cond.initialized RX0, Cond.code yX0_refuseOutside cX0_refuseOutside 2 none, Cond.classLink RX0 40 "java/lang/IllegalArgumentException", Cond.initialized "java/lang/IllegalArgumentException", Cond.methodLink RX0 35 yX0_step, Cond.instanceMethod yX0_step, Cond.selects RX0 yX0_step yX0_step, Cond.code yX0_step cX0_step 6 (some .int), Cond.fieldLink RX0 9 "WordMill" "memory" "[J", Cond.methodLink RX0 43 yX0_effective, Cond.instanceMethod yX0_effective, Cond.selects RX0 yX0_effective yX0_effective, Cond.code yX0_effective cX0_effective 7 (some .int), Cond.methodLink RX0 51 yX0_indexed, Cond.instanceMethod yX0_indexed, Cond.selects RX0 yX0_indexed yX0_indexed, Cond.code yX0_indexed cX0_indexed 5 (some .int)]
def wsX0_run_r2 : List Cond := [Cond.constant RX0 34 (262143), Cond.methodLink RX0 58 yX0_rightHalf, Cond.static yX0_rightHalf, Cond.code yX0_rightHalf cX0_rightHalf 2 (some .int), Cond.methodLink RX0 54 yX0_isIndirect, Cond.static yX0_isIndirect, Cond.code yX0_isIndirect cX0_isIndirect 2 (some .boolean), Cond.methodLink RX0 47 yX0_perform, Cond.instanceMethod yX0_perform, Cond.selects RX0 yX0_perform yX0_perform, Cond.code yX0_perform cX0_perform 4 (some .int), Cond.methodLink RX0 61 yX0_combine, Cond.instanceMethod yX0_combine, Cond.selects RX0 yX0_combine yX0_combine, Cond.code yX0_combine cX0_combine 7 (some .int), Cond.methodLink RX0 102 yX0_isOfHalves, Cond.static yX0_isOfHalves, Cond.code yX0_isOfHalves cX0_isOfHalves 1 (some .boolean), Cond.methodLink RX0 105 yX0_ofHalves, Cond.static yX0_ofHalves, Cond.code yX0_ofHalves cX0_ofHalves 5 (some .long), Cond.constantLong RX0 130 (68719214592), Cond.methodLink RX0 112 yX0_leftHalf, Cond.static yX0_leftHalf]
def wsX0_run_r3 : List Cond := [Cond.code yX0_leftHalf cX0_leftHalf 2 (some .int), Cond.methodLink RX0 109 yX0_ofWords, Cond.static yX0_ofWords, Cond.code yX0_ofWords cX0_ofWords 5 (some .long), Cond.methodLink RX0 119 Lib.MathLoose.abs_long.x, Cond.static Lib.MathLoose.abs_long.x, Cond.initialized "java/lang/Math", Cond.code Lib.MathLoose.abs_long.x Lib.MathLoose.abs_long.code 2 (some .long), Cond.constantLong RX0 128 (-1), Cond.methodLink RX0 115 yX0_number, Cond.static yX0_number, Cond.code yX0_number cX0_number 2 (some .long), Cond.methodLink RX0 124 yX0_shifted, Cond.static yX0_shifted, Cond.code yX0_shifted cX0_shifted 4 (some .long), Cond.methodLink RX0 30 yX0_store, Cond.instanceMethod yX0_store, Cond.selects RX0 yX0_store yX0_store, Cond.code yX0_store cX0_store 4 none, Cond.constantLong RX0 152 (68719476735), Cond.methodLink RX0 65 yX0_divide, Cond.instanceMethod yX0_divide, Cond.selects RX0 yX0_divide yX0_divide, Cond.code yX0_divide cX0_divide 8 (some .int)]
def wsX0_run_r4 : List Cond := [Cond.constantLong RX0 132 (-34359738368), Cond.methodLink RX0 69 yX0_jump, Cond.instanceMethod yX0_jump, Cond.selects RX0 yX0_jump yX0_jump, Cond.code yX0_jump cX0_jump 2 (some .int), Cond.methodLink RX0 73 yX0_pushNextPlace, Cond.instanceMethod yX0_pushNextPlace, Cond.selects RX0 yX0_pushNextPlace yX0_pushNextPlace, Cond.code yX0_pushNextPlace cX0_pushNextPlace 4 (some .int), Cond.methodLink RX0 93 yX0_push, Cond.instanceMethod yX0_push, Cond.selects RX0 yX0_push yX0_push, Cond.code yX0_push cX0_push 5 (some .int), Cond.methodLink RX0 134 yX0_moveTop, Cond.instanceMethod yX0_moveTop, Cond.selects RX0 yX0_moveTop yX0_moveTop, Cond.code yX0_moveTop cX0_moveTop 5 none, Cond.methodLink RX0 77 yX0_popToPc, Cond.instanceMethod yX0_popToPc, Cond.selects RX0 yX0_popToPc yX0_popToPc, Cond.code yX0_popToPc cX0_popToPc 3 (some .int), Cond.methodLink RX0 80 yX0_performOnMemory, Cond.instanceMethod yX0_performOnMemory, Cond.selects RX0 yX0_performOnMemory yX0_performOnMemory]
def wsX0_run_r5 : List Cond := [Cond.code yX0_performOnMemory cX0_performOnMemory 4 (some .int), Cond.methodLink RX0 90 yX0_exchange, Cond.instanceMethod yX0_exchange, Cond.selects RX0 yX0_exchange yX0_exchange, Cond.code yX0_exchange cX0_exchange 5 (some .int), Cond.methodLink RX0 96 yX0_popToMemory, Cond.instanceMethod yX0_popToMemory, Cond.selects RX0 yX0_popToMemory yX0_popToMemory, Cond.code yX0_popToMemory cX0_popToMemory 4 (some .int), Cond.methodLink RX0 99 yX0_leaveNextPlaceAndJump, Cond.instanceMethod yX0_leaveNextPlaceAndJump, Cond.selects RX0 yX0_leaveNextPlaceAndJump yX0_leaveNextPlaceAndJump, Cond.code yX0_leaveNextPlaceAndJump cX0_leaveNextPlaceAndJump 2 (some .int), Cond.methodLink RX0 83 yX0_isTest, Cond.static yX0_isTest, Cond.code yX0_isTest cX0_isTest 1 (some .boolean), Cond.methodLink RX0 87 yX0_test, Cond.instanceMethod yX0_test, Cond.selects RX0 yX0_test yX0_test, Cond.code yX0_test cX0_test 6 (some .int), Cond.methodLink RX0 137 yX0_holds, Cond.static yX0_holds, Cond.code yX0_holds cX0_holds 10 (some .boolean), Cond.methodLink RX0 141 yX0_skipIf]
def wsX0_run_r6 : List Cond := [Cond.instanceMethod yX0_skipIf, Cond.selects RX0 yX0_skipIf yX0_skipIf, Cond.code yX0_skipIf cX0_skipIf 2 (some .int), Cond.methodLink RX0 145 yX0_changeAndJump, Cond.instanceMethod yX0_changeAndJump, Cond.selects RX0 yX0_changeAndJump yX0_changeAndJump, Cond.code yX0_changeAndJump cX0_changeAndJump 5 (some .int), Cond.methodLink RX0 149 yX0_changeAndSkip, Cond.instanceMethod yX0_changeAndSkip, Cond.selects RX0 yX0_changeAndSkip yX0_changeAndSkip, Cond.code yX0_changeAndSkip cX0_changeAndSkip 7 (some .int)]
def wsX0_run : List Cond := .code yX0_run cX0_run 4 (some .int) :: ((wsX0_run_r1 ++ (wsX0_run_r2 ++ (wsX0_run_r3 ++ (wsX0_run_r4 ++ (wsX0_run_r5 ++ wsX0_run_r6))))) ++ wsX00 ++ (vx_at0 RX0 42 "java/lang/IllegalArgumentException" ["java/lang/RuntimeException", "java/lang/Exception"]).filter goodWord)
def wsX0_count : List Cond := .code yX0_count cX0_count 2 (some .int) :: ([.fieldLink RX0 13 "WordMill" "pc" "I", .fieldLink RX0 20 "WordMill" "doneInAll" "I", .fieldLink RX0 23 "WordMill" "doneInRun" "I"] ++ wsX00)
def wsX1_init : List Cond := .code yX1_init cX1_init 1 none :: ([.methodLink RX1 1 objectInit, .instanceMethod objectInit, .code objectInit ⟨#[0xb1]⟩ 1 none, .arrayClass .long, .fieldLink RX1 7 "WordMillModel" "memory" "[J"] ++ wsX10)
def wsX1_thrown : List Cond := .code yX1_thrown cX1_thrown 1 (some .int) :: ([.fieldLink RX1 13 "WordMillModel" "thrown" "I"] ++ wsX10)
def wsX1_bad : List Cond := .code yX1_bad cX1_bad 2 (some .boolean) :: ([.fieldLink RX1 13 "WordMillModel" "thrown" "I"] ++ wsX10)
def wsX1_isPlace : List Cond := .code yX1_isPlace cX1_isPlace 2 (some .boolean) :: ([.constantLong RX1 17 (4096)])
def wsX1_put : List Cond := .code yX1_put cX1_put 4 none :: ([.fieldLink RX1 7 "WordMillModel" "memory" "[J", .constantLong RX1 27 (68719476735), .methodLink RX1 19 yX1_isPlace, .static yX1_isPlace, .initialized RX1, .code yX1_isPlace cX1_isPlace 2 (some .boolean), .constantLong RX1 17 (4096), .methodLink RX1 23 yX1_bad, .instanceMethod yX1_bad, .selects RX1 yX1_bad yX1_bad, .code yX1_bad cX1_bad 2 (some .boolean), .fieldLink RX1 13 "WordMillModel" "thrown" "I"] ++ wsX10)
def wsX1_word : List Cond := .code yX1_word cX1_word 2 (some .long) :: ([.fieldLink RX1 7 "WordMillModel" "memory" "[J", .methodLink RX1 19 yX1_isPlace, .static yX1_isPlace, .initialized RX1, .code yX1_isPlace cX1_isPlace 2 (some .boolean), .constantLong RX1 17 (4096), .methodLink RX1 23 yX1_bad, .instanceMethod yX1_bad, .selects RX1 yX1_bad yX1_bad, .code yX1_bad cX1_bad 2 (some .boolean), .fieldLink RX1 13 "WordMillModel" "thrown" "I"] ++ wsX10)
def wsX1_code : List Cond := .code yX1_code cX1_code 9 (some .long) :: ([.constantLong RX1 29 (4194304), .constantLong RX1 31 (262143), .fieldLink RX1 7 "WordMillModel" "memory" "[J", .methodLink RX1 19 yX1_isPlace, .static yX1_isPlace, .initialized RX1, .code yX1_isPlace cX1_isPlace 2 (some .boolean), .constantLong RX1 17 (4096), .methodLink RX1 23 yX1_bad, .instanceMethod yX1_bad, .selects RX1 yX1_bad yX1_bad, .code yX1_bad cX1_bad 2 (some .boolean), .fieldLink RX1 13 "WordMillModel" "thrown" "I"] ++ wsX10)
def wsX1_go : List Cond := .code yX1_go cX1_go 2 none :: ([.fieldLink RX1 33 "WordMillModel" "pc" "I", .methodLink RX1 19 yX1_isPlace, .static yX1_isPlace, .initialized RX1, .code yX1_isPlace cX1_isPlace 2 (some .boolean), .constantLong RX1 17 (4096), .methodLink RX1 23 yX1_bad, .instanceMethod yX1_bad, .selects RX1 yX1_bad yX1_bad, .code yX1_bad cX1_bad 2 (some .boolean), .fieldLink RX1 13 "WordMillModel" "thrown" "I"] ++ wsX10)
def wsX1_number : List Cond := .code yX1_number cX1_number 2 (some .long) :: ([])
def wsX1_at : List Cond := .code yX1_at cX1_at 3 (some .long) :: ([.fieldLink RX1 7 "WordMillModel" "memory" "[J", .fieldLink RX1 36 "WordMillModel" "fault" "I", .methodLink RX1 19 yX1_isPlace, .static yX1_isPlace, .initialized RX1, .code yX1_isPlace cX1_isPlace 2 (some .boolean), .constantLong RX1 17 (4096)] ++ wsX10)
def wsX1_effective : List Cond := .code yX1_effective cX1_effective 9 (some .long) :: ([.constantLong RX1 39 (15), .constantLong RX1 31 (262143), .fieldLink RX1 7 "WordMillModel" "memory" "[J", .fieldLink RX1 36 "WordMillModel" "fault" "I", .methodLink RX1 41 yX1_at, .instanceMethod yX1_at, .selects RX1 yX1_at yX1_at, .initialized RX1, .code yX1_at cX1_at 3 (some .long), .methodLink RX1 19 yX1_isPlace, .static yX1_isPlace, .code yX1_isPlace cX1_isPlace 2 (some .boolean), .constantLong RX1 17 (4096)] ++ wsX10)
def wsX1_is : List Cond := .code yX1_is cX1_is 5 (some .boolean) :: ([])
def wsX1_isKnown : List Cond := .code yX1_isKnown cX1_isKnown 1 (some .boolean) :: ([])
def wsX1_needsWord : List Cond := .code yX1_needsWord cX1_needsWord 1 (some .boolean) :: ([])
def wsX1_tested : List Cond := .code yX1_tested cX1_tested 14 (some .int) :: ([.fieldLink RX1 7 "WordMillModel" "memory" "[J", .constantLong RX1 77 (4095), .constantLong RX1 27 (68719476735), .methodLink RX1 79 yX1_number, .static yX1_number, .initialized RX1, .code yX1_number cX1_number 2 (some .long), .methodLink RX1 82 yX1_is, .static yX1_is, .code yX1_is cX1_is 5 (some .boolean)] ++ wsX10)
def wsX1_half : List Cond := .code yX1_half cX1_half 4 (some .long) :: ([.constantLong RX1 86 (-262144), .constantLong RX1 31 (262143)])
def wsX1_piled : List Cond := .code yX1_piled cX1_piled 14 (some .int) :: ([.fieldLink RX1 7 "WordMillModel" "memory" "[J", .constantLong RX1 77 (4095), .constantLong RX1 31 (262143), .fieldLink RX1 36 "WordMillModel" "fault" "I", .methodLink RX1 41 yX1_at, .instanceMethod yX1_at, .selects RX1 yX1_at yX1_at, .initialized RX1, .code yX1_at cX1_at 3 (some .long), .methodLink RX1 19 yX1_isPlace, .static yX1_isPlace, .code yX1_isPlace cX1_isPlace 2 (some .boolean), .constantLong RX1 17 (4096), .methodLink RX1 88 yX1_half, .static yX1_half, .code yX1_half cX1_half 4 (some .long), .constantLong RX1 86 (-262144)] ++ wsX10)
def wsX1_divided : List Cond := .code yX1_divided cX1_divided 6 none :: ([.constantLong RX1 103 (-34359738368), .constantLong RX1 105 (-1), .fieldLink RX1 36 "WordMillModel" "fault" "I", .fieldLink RX1 7 "WordMillModel" "memory" "[J", .constantLong RX1 27 (68719476735)] ++ wsX10)
def wsX1_bits : List Cond := .code yX1_bits cX1_bits 7 none :: ([.fieldLink RX1 7 "WordMillModel" "memory" "[J", .constantLong RX1 105 (-1), .constantLong RX1 27 (68719476735), .constantLong RX1 31 (262143), .methodLink RX1 88 yX1_half, .static yX1_half, .initialized RX1, .code yX1_half cX1_half 4 (some .long), .constantLong RX1 86 (-262144)] ++ wsX10)
def wsX1_moved : List Cond := .code yX1_moved cX1_moved 11 none :: ([.fieldLink RX1 7 "WordMillModel" "memory" "[J", .constantLong RX1 31 (262143), .constantLong RX1 27 (68719476735), .constantLong RX1 96 (36), .constantLong RX1 98 (-36), .methodLink RX1 79 yX1_number, .static yX1_number, .initialized RX1, .code yX1_number cX1_number 2 (some .long), .methodLink RX1 92 yX1_divided, .instanceMethod yX1_divided, .selects RX1 yX1_divided yX1_divided, .code yX1_divided cX1_divided 6 none, .constantLong RX1 103 (-34359738368), .constantLong RX1 105 (-1), .fieldLink RX1 36 "WordMillModel" "fault" "I", .methodLink RX1 100 yX1_bits, .instanceMethod yX1_bits, .selects RX1 yX1_bits yX1_bits, .code yX1_bits cX1_bits 7 none, .methodLink RX1 88 yX1_half, .static yX1_half, .code yX1_half cX1_half 4 (some .long), .constantLong RX1 86 (-262144)] ++ wsX10)
def wsX1_one_r1 : List Cond := [Cond.fieldLink RX1 36 "WordMillModel" "fault" "I", Cond.fieldLink RX1 33 "WordMillModel" "pc" "I", Cond.methodLink RX1 63 yX1_needsWord, Cond.static yX1_needsWord, Cond.initialized RX1, Cond.code yX1_needsWord cX1_needsWord 1 (some .boolean), Cond.methodLink RX1 41 yX1_at, Cond.instanceMethod yX1_at, Cond.selects RX1 yX1_at yX1_at, Cond.code yX1_at cX1_at 3 (some .long), Cond.fieldLink RX1 7 "WordMillModel" "memory" "[J", Cond.methodLink RX1 19 yX1_isPlace, Cond.static yX1_isPlace, Cond.code yX1_isPlace cX1_isPlace 2 (some .boolean), Cond.constantLong RX1 17 (4096), Cond.methodLink RX1 66 yX1_tested, Cond.instanceMethod yX1_tested, Cond.selects RX1 yX1_tested yX1_tested, Cond.code yX1_tested cX1_tested 14 (some .int), Cond.constantLong RX1 77 (4095), Cond.constantLong RX1 27 (68719476735), Cond.methodLink RX1 79 yX1_number, Cond.static yX1_number, Cond.code yX1_number cX1_number 2 (some .long)]
def wsX1_one_r2 : List Cond := [Cond.methodLink RX1 82 yX1_is, Cond.static yX1_is, Cond.code yX1_is cX1_is 5 (some .boolean), Cond.methodLink RX1 70 yX1_piled, Cond.instanceMethod yX1_piled, Cond.selects RX1 yX1_piled yX1_piled, Cond.code yX1_piled cX1_piled 14 (some .int), Cond.constantLong RX1 31 (262143), Cond.methodLink RX1 88 yX1_half, Cond.static yX1_half, Cond.code yX1_half cX1_half 4 (some .long), Cond.constantLong RX1 86 (-262144), Cond.methodLink RX1 73 yX1_moved, Cond.instanceMethod yX1_moved, Cond.selects RX1 yX1_moved yX1_moved, Cond.code yX1_moved cX1_moved 11 none, Cond.constantLong RX1 96 (36), Cond.constantLong RX1 98 (-36), Cond.methodLink RX1 92 yX1_divided, Cond.instanceMethod yX1_divided, Cond.selects RX1 yX1_divided yX1_divided, Cond.code yX1_divided cX1_divided 6 none, Cond.constantLong RX1 103 (-34359738368), Cond.constantLong RX1 105 (-1)]
def wsX1_one_r3 : List Cond := [Cond.methodLink RX1 100 yX1_bits, Cond.instanceMethod yX1_bits, Cond.selects RX1 yX1_bits yX1_bits, Cond.code yX1_bits cX1_bits 7 none]
def wsX1_one : List Cond := .code yX1_one cX1_one 9 none :: ((wsX1_one_r1 ++ (wsX1_one_r2 ++ wsX1_one_r3)) ++ wsX10)
def wsX1_run_r1 : List Cond := [Cond.fieldLink RX1 45 "WordMillModel" "latest" "I", Cond.fieldLink RX1 7 "WordMillModel" "memory" "[J", Cond.fieldLink RX1 33 "WordMillModel" "pc" "I", Cond.fieldLink RX1 36 "WordMillModel" "fault" "I", Cond.fieldLink RX1 52 "WordMillModel" "done" "J", Cond.constantLong RX1 39 (15), Cond.methodLink RX1 23 yX1_bad, Cond.instanceMethod yX1_bad, Cond.selects RX1 yX1_bad yX1_bad, Cond.initialized RX1, Cond.code yX1_bad cX1_bad 2 (some .boolean), Cond.fieldLink RX1 13 "WordMillModel" "thrown" "I", Cond.methodLink RX1 48 yX1_isKnown, Cond.static yX1_isKnown, Cond.code yX1_isKnown cX1_isKnown 1 (some .boolean), Cond.methodLink RX1 56 yX1_effective, Cond.instanceMethod yX1_effective, Cond.selects RX1 yX1_effective yX1_effective, Cond.code yX1_effective cX1_effective 9 (some .long), Cond.constantLong RX1 31 (262143), Cond.methodLink RX1 41 yX1_at, Cond.instanceMethod yX1_at, Cond.selects RX1 yX1_at yX1_at, Cond.code yX1_at cX1_at 3 (some .long)]
def wsX1_run_r2 : List Cond := [Cond.methodLink RX1 19 yX1_isPlace, Cond.static yX1_isPlace, Cond.code yX1_isPlace cX1_isPlace 2 (some .boolean), Cond.constantLong RX1 17 (4096), Cond.methodLink RX1 59 yX1_one, Cond.instanceMethod yX1_one, Cond.selects RX1 yX1_one yX1_one, Cond.code yX1_one cX1_one 9 none, Cond.methodLink RX1 63 yX1_needsWord, Cond.static yX1_needsWord, Cond.code yX1_needsWord cX1_needsWord 1 (some .boolean), Cond.methodLink RX1 66 yX1_tested, Cond.instanceMethod yX1_tested, Cond.selects RX1 yX1_tested yX1_tested, Cond.code yX1_tested cX1_tested 14 (some .int), Cond.constantLong RX1 77 (4095), Cond.constantLong RX1 27 (68719476735), Cond.methodLink RX1 79 yX1_number, Cond.static yX1_number, Cond.code yX1_number cX1_number 2 (some .long), Cond.methodLink RX1 82 yX1_is, Cond.static yX1_is, Cond.code yX1_is cX1_is 5 (some .boolean), Cond.methodLink RX1 70 yX1_piled]
def wsX1_run_r3 : List Cond := [Cond.instanceMethod yX1_piled, Cond.selects RX1 yX1_piled yX1_piled, Cond.code yX1_piled cX1_piled 14 (some .int), Cond.methodLink RX1 88 yX1_half, Cond.static yX1_half, Cond.code yX1_half cX1_half 4 (some .long), Cond.constantLong RX1 86 (-262144), Cond.methodLink RX1 73 yX1_moved, Cond.instanceMethod yX1_moved, Cond.selects RX1 yX1_moved yX1_moved, Cond.code yX1_moved cX1_moved 11 none, Cond.constantLong RX1 96 (36), Cond.constantLong RX1 98 (-36), Cond.methodLink RX1 92 yX1_divided, Cond.instanceMethod yX1_divided, Cond.selects RX1 yX1_divided yX1_divided, Cond.code yX1_divided cX1_divided 6 none, Cond.constantLong RX1 103 (-34359738368), Cond.constantLong RX1 105 (-1), Cond.methodLink RX1 100 yX1_bits, Cond.instanceMethod yX1_bits, Cond.selects RX1 yX1_bits yX1_bits, Cond.code yX1_bits cX1_bits 7 none]
def wsX1_run : List Cond := .code yX1_run cX1_run 5 (some .int) :: ((wsX1_run_r1 ++ (wsX1_run_r2 ++ wsX1_run_r3)) ++ wsX10)
def wsX1_count : List Cond := .code yX1_count cX1_count 2 (some .int) :: ([.fieldLink RX1 13 "WordMillModel" "thrown" "I", .fieldLink RX1 33 "WordMillModel" "pc" "I", .fieldLink RX1 52 "WordMillModel" "done" "J", .constantLong RX1 107 (2147483647), .fieldLink RX1 45 "WordMillModel" "latest" "I"] ++ wsX10)
def wsJ9_abs_067f4 : List Cond := .code yJ9_abs_067f4 cJ9_abs_067f4 2 (some .long) :: ([])
def wsL_put : List Cond := .codeWith yL_put cL_put 5 (some .int) [(0, 6, 9, 13)] :: ([.classLink RL 13 "java/lang/IllegalArgumentException", .methodLink RL 7 yX0_put, .instanceMethod yX0_put, .selects RX0 yX0_put yX0_put, .initialized RX0, .code yX0_put cX0_put 4 none, .methodLink RX0 26 yX0_refuseOutside, .static yX0_refuseOutside, .code yX0_refuseOutside cX0_refuseOutside 2 none, .classLink RX0 40 "java/lang/IllegalArgumentException", .initialized "java/lang/IllegalArgumentException", .methodLink RX0 30 yX0_store, .instanceMethod yX0_store, .selects RX0 yX0_store yX0_store, .code yX0_store cX0_store 4 none, .fieldLink RX0 9 "WordMill" "memory" "[J", .constantLong RX0 152 (68719476735)] ++ wsX00 ++ (vx_at0 RX0 42 "java/lang/IllegalArgumentException" ["java/lang/RuntimeException", "java/lang/Exception"]).filter goodWord)
def wsL_word : List Cond := .codeWith yL_word cL_word 4 (some .int) [(0, 8, 11, 13)] :: ([.classLink RL 13 "java/lang/IllegalArgumentException", .methodLink RL 15 yX0_word, .instanceMethod yX0_word, .selects RX0 yX0_word yX0_word, .initialized RX0, .code yX0_word cX0_word 2 (some .long), .fieldLink RX0 9 "WordMill" "memory" "[J", .methodLink RX0 26 yX0_refuseOutside, .static yX0_refuseOutside, .code yX0_refuseOutside cX0_refuseOutside 2 none, .classLink RX0 40 "java/lang/IllegalArgumentException", .initialized "java/lang/IllegalArgumentException"] ++ wsX00 ++ (vx_at0 RX0 42 "java/lang/IllegalArgumentException" ["java/lang/RuntimeException", "java/lang/Exception"]).filter goodWord)
def wsL_code : List Cond := .codeWith yL_code cL_code 9 (some .int) [(0, 17, 20, 13)] :: ([.classLink RL 13 "java/lang/IllegalArgumentException", .methodLink RL 19 yX0_code, .instanceMethod yX0_code, .selects RX0 yX0_code yX0_code, .initialized RX0, .code yX0_code cX0_code 9 (some .long), .constant RX0 34 (262143), .methodLink RX0 26 yX0_refuseOutside, .static yX0_refuseOutside, .code yX0_refuseOutside cX0_refuseOutside 2 none, .classLink RX0 40 "java/lang/IllegalArgumentException", .initialized "java/lang/IllegalArgumentException", .methodLink RX0 30 yX0_store, .instanceMethod yX0_store, .selects RX0 yX0_store yX0_store, .code yX0_store cX0_store 4 none, .fieldLink RX0 9 "WordMill" "memory" "[J", .constantLong RX0 152 (68719476735)] ++ wsX00 ++ (vx_at0 RX0 42 "java/lang/IllegalArgumentException" ["java/lang/RuntimeException", "java/lang/Exception"]).filter goodWord)
def wsL_go : List Cond := .codeWith yL_go cL_go 3 (some .int) [(0, 5, 8, 13)] :: ([.classLink RL 13 "java/lang/IllegalArgumentException", .methodLink RL 23 yX0_go, .instanceMethod yX0_go, .selects RX0 yX0_go yX0_go, .initialized RX0, .code yX0_go cX0_go 2 none, .fieldLink RX0 13 "WordMill" "pc" "I", .methodLink RX0 26 yX0_refuseOutside, .static yX0_refuseOutside, .code yX0_refuseOutside cX0_refuseOutside 2 none, .classLink RX0 40 "java/lang/IllegalArgumentException", .initialized "java/lang/IllegalArgumentException"] ++ wsX00 ++ (vx_at0 RX0 42 "java/lang/IllegalArgumentException" ["java/lang/RuntimeException", "java/lang/Exception"]).filter goodWord)
def wsL_run_r1 : List Cond := [Cond.classLink RL 13 "java/lang/IllegalArgumentException", Cond.methodLink RL 27 yX0_run, Cond.instanceMethod yX0_run, Cond.selects RX0 yX0_run yX0_run, Cond.initialized RX0, Cond.code yX0_run cX0_run 4 (some .int), Cond.fieldLink RX0 23 "WordMill" "doneInRun" "I", Cond.fieldLink RX0 17 "WordMill" "next" "I", Cond.fieldLink RX0 13 "WordMill" "pc" "I", Cond.fieldLink RX0 20 "WordMill" "doneInAll" "I", Cond.constant RX0 39 (2147483647), Cond.methodLink RX0 26 yX0_refuseOutside, Cond.static yX0_refuseOutside, Cond.code yX0_refuseOutside cX0_refuseOutside 2 none, Cond.classLink RX0 40 "java/lang/IllegalArgumentException", Cond.initialized "java/lang/IllegalArgumentException", Cond.methodLink RX0 35 yX0_step, Cond.instanceMethod yX0_step, Cond.selects RX0 yX0_step yX0_step, Cond.code yX0_step cX0_step 6 (some .int), Cond.fieldLink RX0 9 "WordMill" "memory" "[J", Cond.methodLink RX0 43 yX0_effective, Cond.instanceMethod yX0_effective, Cond.selects RX0 yX0_effective yX0_effective]
def wsL_run_r2 : List Cond := [Cond.code yX0_effective cX0_effective 7 (some .int), Cond.methodLink RX0 51 yX0_indexed, Cond.instanceMethod yX0_indexed, Cond.selects RX0 yX0_indexed yX0_indexed, Cond.code yX0_indexed cX0_indexed 5 (some .int), Cond.constant RX0 34 (262143), Cond.methodLink RX0 58 yX0_rightHalf, Cond.static yX0_rightHalf, Cond.code yX0_rightHalf cX0_rightHalf 2 (some .int), Cond.methodLink RX0 54 yX0_isIndirect, Cond.static yX0_isIndirect, Cond.code yX0_isIndirect cX0_isIndirect 2 (some .boolean), Cond.methodLink RX0 47 yX0_perform, Cond.instanceMethod yX0_perform, Cond.selects RX0 yX0_perform yX0_perform, Cond.code yX0_perform cX0_perform 4 (some .int), Cond.methodLink RX0 61 yX0_combine, Cond.instanceMethod yX0_combine, Cond.selects RX0 yX0_combine yX0_combine, Cond.code yX0_combine cX0_combine 7 (some .int), Cond.methodLink RX0 102 yX0_isOfHalves, Cond.static yX0_isOfHalves, Cond.code yX0_isOfHalves cX0_isOfHalves 1 (some .boolean), Cond.methodLink RX0 105 yX0_ofHalves]
def wsL_run_r3 : List Cond := [Cond.static yX0_ofHalves, Cond.code yX0_ofHalves cX0_ofHalves 5 (some .long), Cond.constantLong RX0 130 (68719214592), Cond.methodLink RX0 112 yX0_leftHalf, Cond.static yX0_leftHalf, Cond.code yX0_leftHalf cX0_leftHalf 2 (some .int), Cond.methodLink RX0 109 yX0_ofWords, Cond.static yX0_ofWords, Cond.code yX0_ofWords cX0_ofWords 5 (some .long), Cond.methodLink RX0 119 Lib.MathLoose.abs_long.x, Cond.static Lib.MathLoose.abs_long.x, Cond.initialized "java/lang/Math", Cond.code Lib.MathLoose.abs_long.x Lib.MathLoose.abs_long.code 2 (some .long), Cond.constantLong RX0 128 (-1), Cond.methodLink RX0 115 yX0_number, Cond.static yX0_number, Cond.code yX0_number cX0_number 2 (some .long), Cond.methodLink RX0 124 yX0_shifted, Cond.static yX0_shifted, Cond.code yX0_shifted cX0_shifted 4 (some .long), Cond.methodLink RX0 30 yX0_store, Cond.instanceMethod yX0_store, Cond.selects RX0 yX0_store yX0_store, Cond.code yX0_store cX0_store 4 none]
def wsL_run_r4 : List Cond := [Cond.constantLong RX0 152 (68719476735), Cond.methodLink RX0 65 yX0_divide, Cond.instanceMethod yX0_divide, Cond.selects RX0 yX0_divide yX0_divide, Cond.code yX0_divide cX0_divide 8 (some .int), Cond.constantLong RX0 132 (-34359738368), Cond.methodLink RX0 69 yX0_jump, Cond.instanceMethod yX0_jump, Cond.selects RX0 yX0_jump yX0_jump, Cond.code yX0_jump cX0_jump 2 (some .int), Cond.methodLink RX0 73 yX0_pushNextPlace, Cond.instanceMethod yX0_pushNextPlace, Cond.selects RX0 yX0_pushNextPlace yX0_pushNextPlace, Cond.code yX0_pushNextPlace cX0_pushNextPlace 4 (some .int), Cond.methodLink RX0 93 yX0_push, Cond.instanceMethod yX0_push, Cond.selects RX0 yX0_push yX0_push, Cond.code yX0_push cX0_push 5 (some .int), Cond.methodLink RX0 134 yX0_moveTop, Cond.instanceMethod yX0_moveTop, Cond.selects RX0 yX0_moveTop yX0_moveTop, Cond.code yX0_moveTop cX0_moveTop 5 none, Cond.methodLink RX0 77 yX0_popToPc, Cond.instanceMethod yX0_popToPc]
def wsL_run_r5 : List Cond := [Cond.selects RX0 yX0_popToPc yX0_popToPc, Cond.code yX0_popToPc cX0_popToPc 3 (some .int), Cond.methodLink RX0 80 yX0_performOnMemory, Cond.instanceMethod yX0_performOnMemory, Cond.selects RX0 yX0_performOnMemory yX0_performOnMemory, Cond.code yX0_performOnMemory cX0_performOnMemory 4 (some .int), Cond.methodLink RX0 90 yX0_exchange, Cond.instanceMethod yX0_exchange, Cond.selects RX0 yX0_exchange yX0_exchange, Cond.code yX0_exchange cX0_exchange 5 (some .int), Cond.methodLink RX0 96 yX0_popToMemory, Cond.instanceMethod yX0_popToMemory, Cond.selects RX0 yX0_popToMemory yX0_popToMemory, Cond.code yX0_popToMemory cX0_popToMemory 4 (some .int), Cond.methodLink RX0 99 yX0_leaveNextPlaceAndJump, Cond.instanceMethod yX0_leaveNextPlaceAndJump, Cond.selects RX0 yX0_leaveNextPlaceAndJump yX0_leaveNextPlaceAndJump, Cond.code yX0_leaveNextPlaceAndJump cX0_leaveNextPlaceAndJump 2 (some .int), Cond.methodLink RX0 83 yX0_isTest, Cond.static yX0_isTest, Cond.code yX0_isTest cX0_isTest 1 (some .boolean), Cond.methodLink RX0 87 yX0_test, Cond.instanceMethod yX0_test, Cond.selects RX0 yX0_test yX0_test]
def wsL_run_r6 : List Cond := [Cond.code yX0_test cX0_test 6 (some .int), Cond.methodLink RX0 137 yX0_holds, Cond.static yX0_holds, Cond.code yX0_holds cX0_holds 10 (some .boolean), Cond.methodLink RX0 141 yX0_skipIf, Cond.instanceMethod yX0_skipIf, Cond.selects RX0 yX0_skipIf yX0_skipIf, Cond.code yX0_skipIf cX0_skipIf 2 (some .int), Cond.methodLink RX0 145 yX0_changeAndJump, Cond.instanceMethod yX0_changeAndJump, Cond.selects RX0 yX0_changeAndJump yX0_changeAndJump, Cond.code yX0_changeAndJump cX0_changeAndJump 5 (some .int), Cond.methodLink RX0 149 yX0_changeAndSkip, Cond.instanceMethod yX0_changeAndSkip, Cond.selects RX0 yX0_changeAndSkip yX0_changeAndSkip, Cond.code yX0_changeAndSkip cX0_changeAndSkip 7 (some .int)]
def wsL_run : List Cond := .codeWith yL_run cL_run 4 (some .int) [(0, 9, 12, 13)] :: ((wsL_run_r1 ++ (wsL_run_r2 ++ (wsL_run_r3 ++ (wsL_run_r4 ++ (wsL_run_r5 ++ wsL_run_r6))))) ++ wsX00 ++ (vx_at0 RX0 42 "java/lang/IllegalArgumentException" ["java/lang/RuntimeException", "java/lang/Exception"]).filter goodWord)
def wsL_law0_r1 : List Cond := [Cond.classLink RL 8 RX0, Cond.instantiable RX0 5, Cond.initialized RX0, Cond.classLink RL 32 RX1, Cond.instantiable RX1 6, Cond.initialized RX1, Cond.arrayClass .long, Cond.constantLong RL 35 (4294967295), Cond.methodLink RL 31 yX0_init, Cond.instanceMethod yX0_init, Cond.code yX0_init cX0_init 1 none, Cond.methodLink RX0 1 objectInit, Cond.instanceMethod objectInit, Cond.code objectInit ⟨#[0xb1]⟩ 1 none, Cond.fieldLink RX0 9 "WordMill" "memory" "[J", Cond.fieldLink RX0 13 "WordMill" "pc" "I", Cond.fieldLink RX0 17 "WordMill" "next" "I", Cond.fieldLink RX0 20 "WordMill" "doneInAll" "I", Cond.fieldLink RX0 23 "WordMill" "doneInRun" "I", Cond.methodLink RL 34 yX1_init, Cond.instanceMethod yX1_init, Cond.code yX1_init cX1_init 1 none, Cond.methodLink RX1 1 objectInit, Cond.fieldLink RX1 7 "WordMillModel" "memory" "[J"]
def wsL_law0_r2 : List Cond := [Cond.methodLink RL 37 yL_put, Cond.static yL_put, Cond.initialized RL, Cond.codeWith yL_put cL_put 5 (some .int) [(0, 6, 9, 13)], Cond.classLink RL 13 "java/lang/IllegalArgumentException", Cond.methodLink RL 7 yX0_put, Cond.instanceMethod yX0_put, Cond.selects RX0 yX0_put yX0_put, Cond.code yX0_put cX0_put 4 none, Cond.methodLink RX0 26 yX0_refuseOutside, Cond.static yX0_refuseOutside, Cond.code yX0_refuseOutside cX0_refuseOutside 2 none, Cond.classLink RX0 40 "java/lang/IllegalArgumentException", Cond.initialized "java/lang/IllegalArgumentException", Cond.methodLink RX0 30 yX0_store, Cond.instanceMethod yX0_store, Cond.selects RX0 yX0_store yX0_store, Cond.code yX0_store cX0_store 4 none, Cond.constantLong RX0 152 (68719476735), Cond.methodLink RL 42 yX1_put, Cond.instanceMethod yX1_put, Cond.selects RX1 yX1_put yX1_put, Cond.code yX1_put cX1_put 4 none, Cond.constantLong RX1 27 (68719476735)]
def wsL_law0_r3 : List Cond := [Cond.methodLink RX1 19 yX1_isPlace, Cond.static yX1_isPlace, Cond.code yX1_isPlace cX1_isPlace 2 (some .boolean), Cond.constantLong RX1 17 (4096), Cond.methodLink RX1 23 yX1_bad, Cond.instanceMethod yX1_bad, Cond.selects RX1 yX1_bad yX1_bad, Cond.code yX1_bad cX1_bad 2 (some .boolean), Cond.fieldLink RX1 13 "WordMillModel" "thrown" "I", Cond.methodLink RL 43 yX1_thrown, Cond.instanceMethod yX1_thrown, Cond.selects RX1 yX1_thrown yX1_thrown, Cond.code yX1_thrown cX1_thrown 1 (some .int), Cond.methodLink RL 47 yL_word, Cond.static yL_word, Cond.codeWith yL_word cL_word 4 (some .int) [(0, 8, 11, 13)], Cond.methodLink RL 15 yX0_word, Cond.instanceMethod yX0_word, Cond.selects RX0 yX0_word yX0_word, Cond.code yX0_word cX0_word 2 (some .long), Cond.methodLink RL 50 yX1_word, Cond.instanceMethod yX1_word, Cond.selects RX1 yX1_word yX1_word, Cond.code yX1_word cX1_word 2 (some .long)]
def wsL_law0_r4 : List Cond := [Cond.methodLink RL 51 yL_code, Cond.static yL_code, Cond.codeWith yL_code cL_code 9 (some .int) [(0, 17, 20, 13)], Cond.methodLink RL 19 yX0_code, Cond.instanceMethod yX0_code, Cond.selects RX0 yX0_code yX0_code, Cond.code yX0_code cX0_code 9 (some .long), Cond.constant RX0 34 (262143), Cond.methodLink RL 54 yX1_code, Cond.instanceMethod yX1_code, Cond.selects RX1 yX1_code yX1_code, Cond.code yX1_code cX1_code 9 (some .long), Cond.constantLong RX1 29 (4194304), Cond.constantLong RX1 31 (262143), Cond.methodLink RL 55 yL_go, Cond.static yL_go, Cond.codeWith yL_go cL_go 3 (some .int) [(0, 5, 8, 13)], Cond.methodLink RL 23 yX0_go, Cond.instanceMethod yX0_go, Cond.selects RX0 yX0_go yX0_go, Cond.code yX0_go cX0_go 2 none, Cond.methodLink RL 58 yX1_go, Cond.instanceMethod yX1_go, Cond.selects RX1 yX1_go yX1_go]
def wsL_law0_r5 : List Cond := [Cond.code yX1_go cX1_go 2 none, Cond.fieldLink RX1 33 "WordMillModel" "pc" "I", Cond.methodLink RL 59 yL_run, Cond.static yL_run, Cond.codeWith yL_run cL_run 4 (some .int) [(0, 9, 12, 13)], Cond.methodLink RL 27 yX0_run, Cond.instanceMethod yX0_run, Cond.selects RX0 yX0_run yX0_run, Cond.code yX0_run cX0_run 4 (some .int), Cond.constant RX0 39 (2147483647), Cond.methodLink RX0 35 yX0_step, Cond.instanceMethod yX0_step, Cond.selects RX0 yX0_step yX0_step, Cond.code yX0_step cX0_step 6 (some .int), Cond.methodLink RX0 43 yX0_effective, Cond.instanceMethod yX0_effective, Cond.selects RX0 yX0_effective yX0_effective, Cond.code yX0_effective cX0_effective 7 (some .int), Cond.methodLink RX0 51 yX0_indexed, Cond.instanceMethod yX0_indexed, Cond.selects RX0 yX0_indexed yX0_indexed, Cond.code yX0_indexed cX0_indexed 5 (some .int), Cond.methodLink RX0 58 yX0_rightHalf, Cond.static yX0_rightHalf]
def wsL_law0_r6 : List Cond := [Cond.code yX0_rightHalf cX0_rightHalf 2 (some .int), Cond.methodLink RX0 54 yX0_isIndirect, Cond.static yX0_isIndirect, Cond.code yX0_isIndirect cX0_isIndirect 2 (some .boolean), Cond.methodLink RX0 47 yX0_perform, Cond.instanceMethod yX0_perform, Cond.selects RX0 yX0_perform yX0_perform, Cond.code yX0_perform cX0_perform 4 (some .int), Cond.methodLink RX0 61 yX0_combine, Cond.instanceMethod yX0_combine, Cond.selects RX0 yX0_combine yX0_combine, Cond.code yX0_combine cX0_combine 7 (some .int), Cond.methodLink RX0 102 yX0_isOfHalves, Cond.static yX0_isOfHalves, Cond.code yX0_isOfHalves cX0_isOfHalves 1 (some .boolean), Cond.methodLink RX0 105 yX0_ofHalves, Cond.static yX0_ofHalves, Cond.code yX0_ofHalves cX0_ofHalves 5 (some .long), Cond.constantLong RX0 130 (68719214592), Cond.methodLink RX0 112 yX0_leftHalf, Cond.static yX0_leftHalf, Cond.code yX0_leftHalf cX0_leftHalf 2 (some .int), Cond.methodLink RX0 109 yX0_ofWords, Cond.static yX0_ofWords]
def wsL_law0_r7 : List Cond := [Cond.code yX0_ofWords cX0_ofWords 5 (some .long), Cond.methodLink RX0 119 Lib.MathLoose.abs_long.x, Cond.static Lib.MathLoose.abs_long.x, Cond.initialized "java/lang/Math", Cond.code Lib.MathLoose.abs_long.x Lib.MathLoose.abs_long.code 2 (some .long), Cond.constantLong RX0 128 (-1), Cond.methodLink RX0 115 yX0_number, Cond.static yX0_number, Cond.code yX0_number cX0_number 2 (some .long), Cond.methodLink RX0 124 yX0_shifted, Cond.static yX0_shifted, Cond.code yX0_shifted cX0_shifted 4 (some .long), Cond.methodLink RX0 65 yX0_divide, Cond.instanceMethod yX0_divide, Cond.selects RX0 yX0_divide yX0_divide, Cond.code yX0_divide cX0_divide 8 (some .int), Cond.constantLong RX0 132 (-34359738368), Cond.methodLink RX0 69 yX0_jump, Cond.instanceMethod yX0_jump, Cond.selects RX0 yX0_jump yX0_jump, Cond.code yX0_jump cX0_jump 2 (some .int), Cond.methodLink RX0 73 yX0_pushNextPlace, Cond.instanceMethod yX0_pushNextPlace, Cond.selects RX0 yX0_pushNextPlace yX0_pushNextPlace]
def wsL_law0_r8 : List Cond := [Cond.code yX0_pushNextPlace cX0_pushNextPlace 4 (some .int), Cond.methodLink RX0 93 yX0_push, Cond.instanceMethod yX0_push, Cond.selects RX0 yX0_push yX0_push, Cond.code yX0_push cX0_push 5 (some .int), Cond.methodLink RX0 134 yX0_moveTop, Cond.instanceMethod yX0_moveTop, Cond.selects RX0 yX0_moveTop yX0_moveTop, Cond.code yX0_moveTop cX0_moveTop 5 none, Cond.methodLink RX0 77 yX0_popToPc, Cond.instanceMethod yX0_popToPc, Cond.selects RX0 yX0_popToPc yX0_popToPc, Cond.code yX0_popToPc cX0_popToPc 3 (some .int), Cond.methodLink RX0 80 yX0_performOnMemory, Cond.instanceMethod yX0_performOnMemory, Cond.selects RX0 yX0_performOnMemory yX0_performOnMemory, Cond.code yX0_performOnMemory cX0_performOnMemory 4 (some .int), Cond.methodLink RX0 90 yX0_exchange, Cond.instanceMethod yX0_exchange, Cond.selects RX0 yX0_exchange yX0_exchange, Cond.code yX0_exchange cX0_exchange 5 (some .int), Cond.methodLink RX0 96 yX0_popToMemory, Cond.instanceMethod yX0_popToMemory, Cond.selects RX0 yX0_popToMemory yX0_popToMemory]
def wsL_law0_r9 : List Cond := [Cond.code yX0_popToMemory cX0_popToMemory 4 (some .int), Cond.methodLink RX0 99 yX0_leaveNextPlaceAndJump, Cond.instanceMethod yX0_leaveNextPlaceAndJump, Cond.selects RX0 yX0_leaveNextPlaceAndJump yX0_leaveNextPlaceAndJump, Cond.code yX0_leaveNextPlaceAndJump cX0_leaveNextPlaceAndJump 2 (some .int), Cond.methodLink RX0 83 yX0_isTest, Cond.static yX0_isTest, Cond.code yX0_isTest cX0_isTest 1 (some .boolean), Cond.methodLink RX0 87 yX0_test, Cond.instanceMethod yX0_test, Cond.selects RX0 yX0_test yX0_test, Cond.code yX0_test cX0_test 6 (some .int), Cond.methodLink RX0 137 yX0_holds, Cond.static yX0_holds, Cond.code yX0_holds cX0_holds 10 (some .boolean), Cond.methodLink RX0 141 yX0_skipIf, Cond.instanceMethod yX0_skipIf, Cond.selects RX0 yX0_skipIf yX0_skipIf, Cond.code yX0_skipIf cX0_skipIf 2 (some .int), Cond.methodLink RX0 145 yX0_changeAndJump, Cond.instanceMethod yX0_changeAndJump, Cond.selects RX0 yX0_changeAndJump yX0_changeAndJump, Cond.code yX0_changeAndJump cX0_changeAndJump 5 (some .int), Cond.methodLink RX0 149 yX0_changeAndSkip]
def wsL_law0_r10 : List Cond := [Cond.instanceMethod yX0_changeAndSkip, Cond.selects RX0 yX0_changeAndSkip yX0_changeAndSkip, Cond.code yX0_changeAndSkip cX0_changeAndSkip 7 (some .int), Cond.methodLink RL 61 yX1_run, Cond.instanceMethod yX1_run, Cond.selects RX1 yX1_run yX1_run, Cond.code yX1_run cX1_run 5 (some .int), Cond.fieldLink RX1 45 "WordMillModel" "latest" "I", Cond.fieldLink RX1 36 "WordMillModel" "fault" "I", Cond.fieldLink RX1 52 "WordMillModel" "done" "J", Cond.constantLong RX1 39 (15), Cond.methodLink RX1 48 yX1_isKnown, Cond.static yX1_isKnown, Cond.code yX1_isKnown cX1_isKnown 1 (some .boolean), Cond.methodLink RX1 56 yX1_effective, Cond.instanceMethod yX1_effective, Cond.selects RX1 yX1_effective yX1_effective, Cond.code yX1_effective cX1_effective 9 (some .long), Cond.methodLink RX1 41 yX1_at, Cond.instanceMethod yX1_at, Cond.selects RX1 yX1_at yX1_at, Cond.code yX1_at cX1_at 3 (some .long), Cond.methodLink RX1 59 yX1_one, Cond.instanceMethod yX1_one]
def wsL_law0_r11 : List Cond := [Cond.selects RX1 yX1_one yX1_one, Cond.code yX1_one cX1_one 9 none, Cond.methodLink RX1 63 yX1_needsWord, Cond.static yX1_needsWord, Cond.code yX1_needsWord cX1_needsWord 1 (some .boolean), Cond.methodLink RX1 66 yX1_tested, Cond.instanceMethod yX1_tested, Cond.selects RX1 yX1_tested yX1_tested, Cond.code yX1_tested cX1_tested 14 (some .int), Cond.constantLong RX1 77 (4095), Cond.methodLink RX1 79 yX1_number, Cond.static yX1_number, Cond.code yX1_number cX1_number 2 (some .long), Cond.methodLink RX1 82 yX1_is, Cond.static yX1_is, Cond.code yX1_is cX1_is 5 (some .boolean), Cond.methodLink RX1 70 yX1_piled, Cond.instanceMethod yX1_piled, Cond.selects RX1 yX1_piled yX1_piled, Cond.code yX1_piled cX1_piled 14 (some .int), Cond.methodLink RX1 88 yX1_half, Cond.static yX1_half, Cond.code yX1_half cX1_half 4 (some .long), Cond.constantLong RX1 86 (-262144)]
def wsL_law0_r12 : List Cond := [Cond.methodLink RX1 73 yX1_moved, Cond.instanceMethod yX1_moved, Cond.selects RX1 yX1_moved yX1_moved, Cond.code yX1_moved cX1_moved 11 none, Cond.constantLong RX1 96 (36), Cond.constantLong RX1 98 (-36), Cond.methodLink RX1 92 yX1_divided, Cond.instanceMethod yX1_divided, Cond.selects RX1 yX1_divided yX1_divided, Cond.code yX1_divided cX1_divided 6 none, Cond.constantLong RX1 103 (-34359738368), Cond.constantLong RX1 105 (-1), Cond.methodLink RX1 100 yX1_bits, Cond.instanceMethod yX1_bits, Cond.selects RX1 yX1_bits yX1_bits, Cond.code yX1_bits cX1_bits 7 none, Cond.methodLink RL 62 yX0_count, Cond.instanceMethod yX0_count, Cond.selects RX0 yX0_count yX0_count, Cond.code yX0_count cX0_count 2 (some .int), Cond.methodLink RL 65 yX1_count, Cond.instanceMethod yX1_count, Cond.selects RX1 yX1_count yX1_count, Cond.code yX1_count cX1_count 2 (some .int)]
def wsL_law0_r13 : List Cond := [Cond.constantLong RX1 107 (2147483647)]
def wsL_law0 : List Cond := (wsL_law0_r1 ++ (wsL_law0_r2 ++ (wsL_law0_r3 ++ (wsL_law0_r4 ++ (wsL_law0_r5 ++ (wsL_law0_r6 ++ (wsL_law0_r7 ++ (wsL_law0_r8 ++ (wsL_law0_r9 ++ (wsL_law0_r10 ++ (wsL_law0_r11 ++ (wsL_law0_r12 ++ wsL_law0_r13)))))))))))) ++ wsX00 ++ wsX10 ++ ([] : List Cond)
def wsL_law : List Cond := wsL_law0 ++ (vx_at0 RX0 42 "java/lang/IllegalArgumentException" ["java/lang/RuntimeException", "java/lang/Exception"]).filter goodWord
abbrev vwCl : List vw_C := [(RX0, TX0, 5), (RX1, TX1, 6)]
end
section
theorem dX0_init_0 : decode cX0_init 0 = .ok (.aload_n 0, 1) := by decide +kernel
theorem dX0_init_1 : decode cX0_init 1 = .ok (.invokespecial 1, 3) := by decide +kernel
theorem dX0_init_4 : decode cX0_init 4 = .ok (.aload_n 0, 1) := by decide +kernel
theorem dX0_init_5 : decode cX0_init 5 = .ok (.sipush 4096, 3) := by decide +kernel
theorem dX0_init_8 : decode cX0_init 8 = .ok (.newarray .long, 2) := by decide +kernel
theorem dX0_init_10 : decode cX0_init 10 = .ok (.putfield 9, 3) := by decide +kernel
theorem dX0_init_13 : decode cX0_init 13 = .ok (.aload_n 0, 1) := by decide +kernel
theorem dX0_init_14 : decode cX0_init 14 = .ok (.iconst 0, 1) := by decide +kernel
theorem dX0_init_15 : decode cX0_init 15 = .ok (.putfield 13, 3) := by decide +kernel
theorem dX0_init_18 : decode cX0_init 18 = .ok (.aload_n 0, 1) := by decide +kernel
theorem dX0_init_19 : decode cX0_init 19 = .ok (.iconst 0, 1) := by decide +kernel
theorem dX0_init_20 : decode cX0_init 20 = .ok (.putfield 17, 3) := by decide +kernel
theorem dX0_init_23 : decode cX0_init 23 = .ok (.aload_n 0, 1) := by decide +kernel
theorem dX0_init_24 : decode cX0_init 24 = .ok (.iconst 0, 1) := by decide +kernel
theorem dX0_init_25 : decode cX0_init 25 = .ok (.putfield 20, 3) := by decide +kernel
theorem dX0_init_28 : decode cX0_init 28 = .ok (.aload_n 0, 1) := by decide +kernel
theorem dX0_init_29 : decode cX0_init 29 = .ok (.iconst 0, 1) := by decide +kernel
theorem dX0_init_30 : decode cX0_init 30 = .ok (.putfield 23, 3) := by decide +kernel
theorem dX0_init_33 : decode cX0_init 33 = .ok (.return_, 1) := by decide +kernel
set_option maxRecDepth 20000 in
theorem ggX0_put_X0_refuseOutside : GoodIn wsX0_put wsX0_refuseOutside := goodIn_ca (goodIn_r _ [4, 5, 6] (by decide +kernel) (by decide +kernel)) (goodIn_sub (fun _ h => List.mem_cons_of_mem _ (List.mem_append_right _ h)) (by decide +kernel))
set_option maxRecDepth 20000 in
theorem gX0_put_X0_refuseOutside : GoodIn wsX0_put (va_wsS RX0 26 yX0_refuseOutside wsX0_refuseOutside) := goodIn_app (goodIn_of _ (by decide +kernel)) ggX0_put_X0_refuseOutside
set_option maxRecDepth 20000 in
theorem ggX0_put_X0_store : GoodIn wsX0_put wsX0_store := goodIn_r _ [10, 11, 12, 13, 14, 15, 16, 17] (by decide +kernel) (by decide +kernel)
set_option maxRecDepth 20000 in
theorem gX0_put_X0_store : GoodIn wsX0_put (wsV RX0 30 RX0 yX0_store wsX0_store) := goodIn_app (goodIn_of _ (by decide +kernel)) ggX0_put_X0_store
theorem dX0_put_0 : decode cX0_put 0 = .ok (.iload_n 1, 1) := by decide +kernel
theorem dX0_put_1 : decode cX0_put 1 = .ok (.sipush 4095, 3) := by decide +kernel
theorem dX0_put_4 : decode cX0_put 4 = .ok (.invokestatic 26, 3) := by decide +kernel
theorem dX0_put_7 : decode cX0_put 7 = .ok (.aload_n 0, 1) := by decide +kernel
theorem dX0_put_8 : decode cX0_put 8 = .ok (.iload_n 1, 1) := by decide +kernel
theorem dX0_put_9 : decode cX0_put 9 = .ok (.lload_n 2, 1) := by decide +kernel
theorem dX0_put_10 : decode cX0_put 10 = .ok (.invokevirtual 30, 3) := by decide +kernel
theorem dX0_put_13 : decode cX0_put 13 = .ok (.return_, 1) := by decide +kernel
set_option maxRecDepth 20000 in
theorem ggX0_word_X0_refuseOutside : GoodIn wsX0_word wsX0_refuseOutside := goodIn_ca (goodIn_r _ [5, 6, 7] (by decide +kernel) (by decide +kernel)) (goodIn_sub (fun _ h => List.mem_cons_of_mem _ (List.mem_append_right _ h)) (by decide +kernel))
set_option maxRecDepth 20000 in
theorem gX0_word_X0_refuseOutside : GoodIn wsX0_word (va_wsS RX0 26 yX0_refuseOutside wsX0_refuseOutside) := goodIn_app (goodIn_of _ (by decide +kernel)) ggX0_word_X0_refuseOutside
theorem dX0_word_0 : decode cX0_word 0 = .ok (.iload_n 1, 1) := by decide +kernel
theorem dX0_word_1 : decode cX0_word 1 = .ok (.sipush 4095, 3) := by decide +kernel
theorem dX0_word_4 : decode cX0_word 4 = .ok (.invokestatic 26, 3) := by decide +kernel
theorem dX0_word_7 : decode cX0_word 7 = .ok (.aload_n 0, 1) := by decide +kernel
theorem dX0_word_8 : decode cX0_word 8 = .ok (.getfield 9, 3) := by decide +kernel
theorem dX0_word_11 : decode cX0_word 11 = .ok (.iload_n 1, 1) := by decide +kernel
theorem dX0_word_12 : decode cX0_word 12 = .ok (.laload, 1) := by decide +kernel
theorem dX0_word_13 : decode cX0_word 13 = .ok (.lreturn, 1) := by decide +kernel
set_option maxRecDepth 20000 in
theorem ggX0_code_X0_refuseOutside : GoodIn wsX0_code wsX0_refuseOutside := goodIn_ca (goodIn_r _ [5, 6, 7] (by decide +kernel) (by decide +kernel)) (goodIn_sub (fun _ h => List.mem_cons_of_mem _ (List.mem_append_right _ h)) (by decide +kernel))
set_option maxRecDepth 20000 in
theorem gX0_code_X0_refuseOutside : GoodIn wsX0_code (va_wsS RX0 26 yX0_refuseOutside wsX0_refuseOutside) := goodIn_app (goodIn_of _ (by decide +kernel)) ggX0_code_X0_refuseOutside
set_option maxRecDepth 20000 in
theorem ggX0_code_X0_store : GoodIn wsX0_code wsX0_store := goodIn_r _ [11, 12, 13, 14, 15, 16, 17, 18] (by decide +kernel) (by decide +kernel)
set_option maxRecDepth 20000 in
theorem gX0_code_X0_store : GoodIn wsX0_code (wsV RX0 30 RX0 yX0_store wsX0_store) := goodIn_app (goodIn_of _ (by decide +kernel)) ggX0_code_X0_store
theorem dX0_code_0 : decode cX0_code 0 = .ok (.iload_n 1, 1) := by decide +kernel
theorem dX0_code_1 : decode cX0_code 1 = .ok (.sipush 4095, 3) := by decide +kernel
theorem dX0_code_4 : decode cX0_code 4 = .ok (.invokestatic 26, 3) := by decide +kernel
theorem dX0_code_7 : decode cX0_code 7 = .ok (.iload_n 2, 1) := by decide +kernel
theorem dX0_code_8 : decode cX0_code 8 = .ok (.sipush 511, 3) := by decide +kernel
theorem dX0_code_11 : decode cX0_code 11 = .ok (.invokestatic 26, 3) := by decide +kernel
theorem dX0_code_14 : decode cX0_code 14 = .ok (.iload_n 3, 1) := by decide +kernel
theorem dX0_code_15 : decode cX0_code 15 = .ok (.bipush 15, 2) := by decide +kernel
theorem dX0_code_17 : decode cX0_code 17 = .ok (.invokestatic 26, 3) := by decide +kernel
theorem dX0_code_20 : decode cX0_code 20 = .ok (.iload 5, 2) := by decide +kernel
theorem dX0_code_22 : decode cX0_code 22 = .ok (.bipush 15, 2) := by decide +kernel
theorem dX0_code_24 : decode cX0_code 24 = .ok (.invokestatic 26, 3) := by decide +kernel
theorem dX0_code_27 : decode cX0_code 27 = .ok (.iload_n 2, 1) := by decide +kernel
theorem dX0_code_28 : decode cX0_code 28 = .ok (.i2l, 1) := by decide +kernel
theorem dX0_code_29 : decode cX0_code 29 = .ok (.bipush 27, 2) := by decide +kernel
theorem dX0_code_31 : decode cX0_code 31 = .ok (.lshl, 1) := by decide +kernel
theorem dX0_code_32 : decode cX0_code 32 = .ok (.iload_n 3, 1) := by decide +kernel
theorem dX0_code_33 : decode cX0_code 33 = .ok (.i2l, 1) := by decide +kernel
theorem dX0_code_34 : decode cX0_code 34 = .ok (.bipush 23, 2) := by decide +kernel
theorem dX0_code_36 : decode cX0_code 36 = .ok (.lshl, 1) := by decide +kernel
theorem dX0_code_37 : decode cX0_code 37 = .ok (.lor, 1) := by decide +kernel
theorem dX0_code_38 : decode cX0_code 38 = .ok (.iload 4, 2) := by decide +kernel
theorem dX0_code_40 : decode cX0_code 40 = .ok (.ifCond .eq 7, 3) := by decide +kernel
theorem dX0_code_43 : decode cX0_code 43 = .ok (.lconst 1, 1) := by decide +kernel
theorem dX0_code_44 : decode cX0_code 44 = .ok (.goto 4, 3) := by decide +kernel
theorem dX0_code_47 : decode cX0_code 47 = .ok (.lconst 0, 1) := by decide +kernel
theorem dX0_code_48 : decode cX0_code 48 = .ok (.bipush 22, 2) := by decide +kernel
theorem dX0_code_50 : decode cX0_code 50 = .ok (.lshl, 1) := by decide +kernel
theorem dX0_code_51 : decode cX0_code 51 = .ok (.lor, 1) := by decide +kernel
theorem dX0_code_52 : decode cX0_code 52 = .ok (.iload 5, 2) := by decide +kernel
theorem dX0_code_54 : decode cX0_code 54 = .ok (.i2l, 1) := by decide +kernel
theorem dX0_code_55 : decode cX0_code 55 = .ok (.bipush 18, 2) := by decide +kernel
theorem dX0_code_57 : decode cX0_code 57 = .ok (.lshl, 1) := by decide +kernel
theorem dX0_code_58 : decode cX0_code 58 = .ok (.lor, 1) := by decide +kernel
theorem dX0_code_59 : decode cX0_code 59 = .ok (.iload 6, 2) := by decide +kernel
theorem dX0_code_61 : decode cX0_code 61 = .ok (.ldc 34, 2) := by decide +kernel
theorem dX0_code_63 : decode cX0_code 63 = .ok (.iand, 1) := by decide +kernel
theorem dX0_code_64 : decode cX0_code 64 = .ok (.i2l, 1) := by decide +kernel
theorem dX0_code_65 : decode cX0_code 65 = .ok (.lor, 1) := by decide +kernel
theorem dX0_code_66 : decode cX0_code 66 = .ok (.lstore 7, 2) := by decide +kernel
theorem dX0_code_68 : decode cX0_code 68 = .ok (.aload_n 0, 1) := by decide +kernel
theorem dX0_code_69 : decode cX0_code 69 = .ok (.iload_n 1, 1) := by decide +kernel
theorem dX0_code_70 : decode cX0_code 70 = .ok (.lload 7, 2) := by decide +kernel
theorem dX0_code_72 : decode cX0_code 72 = .ok (.invokevirtual 30, 3) := by decide +kernel
theorem dX0_code_75 : decode cX0_code 75 = .ok (.lload 7, 2) := by decide +kernel
theorem dX0_code_77 : decode cX0_code 77 = .ok (.lreturn, 1) := by decide +kernel
set_option maxRecDepth 20000 in
theorem ggX0_go_X0_refuseOutside : GoodIn wsX0_go wsX0_refuseOutside := goodIn_ca (goodIn_r _ [5, 6, 7] (by decide +kernel) (by decide +kernel)) (goodIn_sub (fun _ h => List.mem_cons_of_mem _ (List.mem_append_right _ h)) (by decide +kernel))
set_option maxRecDepth 20000 in
theorem gX0_go_X0_refuseOutside : GoodIn wsX0_go (va_wsS RX0 26 yX0_refuseOutside wsX0_refuseOutside) := goodIn_app (goodIn_of _ (by decide +kernel)) ggX0_go_X0_refuseOutside
theorem dX0_go_0 : decode cX0_go 0 = .ok (.iload_n 1, 1) := by decide +kernel
theorem dX0_go_1 : decode cX0_go 1 = .ok (.sipush 4095, 3) := by decide +kernel
theorem dX0_go_4 : decode cX0_go 4 = .ok (.invokestatic 26, 3) := by decide +kernel
theorem dX0_go_7 : decode cX0_go 7 = .ok (.aload_n 0, 1) := by decide +kernel
theorem dX0_go_8 : decode cX0_go 8 = .ok (.iload_n 1, 1) := by decide +kernel
theorem dX0_go_9 : decode cX0_go 9 = .ok (.putfield 13, 3) := by decide +kernel
theorem dX0_go_12 : decode cX0_go 12 = .ok (.return_, 1) := by decide +kernel
set_option maxRecDepth 20000 in
theorem ggX0_run_X0_refuseOutside : GoodIn wsX0_run wsX0_refuseOutside := goodIn_ca (goodIn_r _ [9, 10, 11] (by decide +kernel) (by decide +kernel)) (goodIn_sub (fun _ h => List.mem_cons_of_mem _ (List.mem_append_right _ h)) (by decide +kernel))
set_option maxRecDepth 20000 in
theorem gX0_run_X0_refuseOutside : GoodIn wsX0_run (va_wsS RX0 26 yX0_refuseOutside wsX0_refuseOutside) := goodIn_app (goodIn_of _ (by decide +kernel)) ggX0_run_X0_refuseOutside
set_option maxRecDepth 20000 in
theorem ggX0_run_X0_step : GoodIn wsX0_run wsX0_step := goodIn_r _ [15, 16, 3, 2, 17, 18, 19, 8, 20, 21, 22, 23, 24, 25, 26, 27, 28, 29, 30, 31, 32, 33, 34, 35, 36, 37, 38, 39, 40, 41, 42, 43, 44, 45, 46, 47, 48, 49, 50, 51, 52, 53, 54, 55, 56, 57, 58, 59, 60, 61, 62, 63, 64, 65, 66, 67, 68, 69, 70, 71, 72, 73, 74, 75, 76, 77, 78, 79, 80, 81, 82, 83, 84, 85, 86, 87, 88, 89, 90, 91, 92, 93, 94, 95, 96, 97, 98, 99, 100, 101, 102, 103, 104, 105, 106, 107, 108, 109, 110, 111, 112, 113, 114, 115, 116, 117, 118, 119, 120, 121, 122, 123, 124, 125, 126, 127, 128, 129, 130, 131, 132, 133, 134, 135, 136] (by decide +kernel) (by decide +kernel)
set_option maxRecDepth 20000 in
theorem gX0_run_X0_step : GoodIn wsX0_run (wsV RX0 35 RX0 yX0_step wsX0_step) := goodIn_app (goodIn_of _ (by decide +kernel)) ggX0_run_X0_step
theorem dX0_run_0 : decode cX0_run 0 = .ok (.iload_n 1, 1) := by decide +kernel
theorem dX0_run_1 : decode cX0_run 1 = .ok (.sipush 20000, 3) := by decide +kernel
theorem dX0_run_4 : decode cX0_run 4 = .ok (.invokestatic 26, 3) := by decide +kernel
theorem dX0_run_7 : decode cX0_run 7 = .ok (.aload_n 0, 1) := by decide +kernel
theorem dX0_run_8 : decode cX0_run 8 = .ok (.iconst 0, 1) := by decide +kernel
theorem dX0_run_9 : decode cX0_run 9 = .ok (.putfield 23, 3) := by decide +kernel
theorem dX0_run_12 : decode cX0_run 12 = .ok (.iconst 0, 1) := by decide +kernel
theorem dX0_run_13 : decode cX0_run 13 = .ok (.istore_n 2, 1) := by decide +kernel
theorem dX0_run_14 : decode cX0_run 14 = .ok (.iload_n 2, 1) := by decide +kernel
theorem dX0_run_15 : decode cX0_run 15 = .ok (.iload_n 1, 1) := by decide +kernel
theorem dX0_run_16 : decode cX0_run 16 = .ok (.if_icmp .ge 58, 3) := by decide +kernel
theorem dX0_run_19 : decode cX0_run 19 = .ok (.aload_n 0, 1) := by decide +kernel
theorem dX0_run_20 : decode cX0_run 20 = .ok (.invokevirtual 35, 3) := by decide +kernel
theorem dX0_run_23 : decode cX0_run 23 = .ok (.istore_n 3, 1) := by decide +kernel
theorem dX0_run_24 : decode cX0_run 24 = .ok (.iload_n 3, 1) := by decide +kernel
theorem dX0_run_25 : decode cX0_run 25 = .ok (.ifCond .le 5, 3) := by decide +kernel
theorem dX0_run_28 : decode cX0_run 28 = .ok (.iload_n 3, 1) := by decide +kernel
theorem dX0_run_29 : decode cX0_run 29 = .ok (.ireturn, 1) := by decide +kernel
theorem dX0_run_30 : decode cX0_run 30 = .ok (.aload_n 0, 1) := by decide +kernel
theorem dX0_run_31 : decode cX0_run 31 = .ok (.aload_n 0, 1) := by decide +kernel
theorem dX0_run_32 : decode cX0_run 32 = .ok (.getfield 17, 3) := by decide +kernel
theorem dX0_run_35 : decode cX0_run 35 = .ok (.putfield 13, 3) := by decide +kernel
theorem dX0_run_38 : decode cX0_run 38 = .ok (.aload_n 0, 1) := by decide +kernel
theorem dX0_run_39 : decode cX0_run 39 = .ok (.dup, 1) := by decide +kernel
theorem dX0_run_40 : decode cX0_run 40 = .ok (.getfield 23, 3) := by decide +kernel
theorem dX0_run_43 : decode cX0_run 43 = .ok (.iconst 1, 1) := by decide +kernel
theorem dX0_run_44 : decode cX0_run 44 = .ok (.iadd, 1) := by decide +kernel
theorem dX0_run_45 : decode cX0_run 45 = .ok (.putfield 23, 3) := by decide +kernel
theorem dX0_run_48 : decode cX0_run 48 = .ok (.aload_n 0, 1) := by decide +kernel
theorem dX0_run_49 : decode cX0_run 49 = .ok (.aload_n 0, 1) := by decide +kernel
theorem dX0_run_50 : decode cX0_run 50 = .ok (.getfield 20, 3) := by decide +kernel
theorem dX0_run_53 : decode cX0_run 53 = .ok (.iconst 1, 1) := by decide +kernel
theorem dX0_run_54 : decode cX0_run 54 = .ok (.iadd, 1) := by decide +kernel
theorem dX0_run_55 : decode cX0_run 55 = .ok (.ldc 39, 2) := by decide +kernel
theorem dX0_run_57 : decode cX0_run 57 = .ok (.iand, 1) := by decide +kernel
theorem dX0_run_58 : decode cX0_run 58 = .ok (.putfield 20, 3) := by decide +kernel
theorem dX0_run_61 : decode cX0_run 61 = .ok (.iload_n 3, 1) := by decide +kernel
theorem dX0_run_62 : decode cX0_run 62 = .ok (.iconst (-1), 1) := by decide +kernel
theorem dX0_run_63 : decode cX0_run 63 = .ok (.if_icmp .ne 5, 3) := by decide +kernel
theorem dX0_run_66 : decode cX0_run 66 = .ok (.iconst (-1), 1) := by decide +kernel
theorem dX0_run_67 : decode cX0_run 67 = .ok (.ireturn, 1) := by decide +kernel
theorem dX0_run_68 : decode cX0_run 68 = .ok (.iinc 2 1, 3) := by decide +kernel
theorem dX0_run_71 : decode cX0_run 71 = .ok (.goto (-57), 3) := by decide +kernel
theorem dX0_run_74 : decode cX0_run 74 = .ok (.iconst 0, 1) := by decide +kernel
theorem dX0_run_75 : decode cX0_run 75 = .ok (.ireturn, 1) := by decide +kernel
theorem dX0_count_0 : decode cX0_count 0 = .ok (.iload_n 1, 1) := by decide +kernel
theorem dX0_count_1 : decode cX0_count 1 = .ok (.tableswitch 42 0 2 #[27, 32, 37], 27) := by decide +kernel
theorem dX0_count_28 : decode cX0_count 28 = .ok (.aload_n 0, 1) := by decide +kernel
theorem dX0_count_29 : decode cX0_count 29 = .ok (.getfield 13, 3) := by decide +kernel
theorem dX0_count_32 : decode cX0_count 32 = .ok (.ireturn, 1) := by decide +kernel
theorem dX0_count_33 : decode cX0_count 33 = .ok (.aload_n 0, 1) := by decide +kernel
theorem dX0_count_34 : decode cX0_count 34 = .ok (.getfield 20, 3) := by decide +kernel
theorem dX0_count_37 : decode cX0_count 37 = .ok (.ireturn, 1) := by decide +kernel
theorem dX0_count_38 : decode cX0_count 38 = .ok (.aload_n 0, 1) := by decide +kernel
theorem dX0_count_39 : decode cX0_count 39 = .ok (.getfield 23, 3) := by decide +kernel
theorem dX0_count_42 : decode cX0_count 42 = .ok (.ireturn, 1) := by decide +kernel
theorem dX0_count_43 : decode cX0_count 43 = .ok (.iconst (-1), 1) := by decide +kernel
theorem dX0_count_44 : decode cX0_count 44 = .ok (.ireturn, 1) := by decide +kernel
theorem dX0_refuseOutside_0 : decode cX0_refuseOutside 0 = .ok (.iload_n 0, 1) := by decide +kernel
theorem dX0_refuseOutside_1 : decode cX0_refuseOutside 1 = .ok (.ifCond .lt 8, 3) := by decide +kernel
theorem dX0_refuseOutside_4 : decode cX0_refuseOutside 4 = .ok (.iload_n 0, 1) := by decide +kernel
theorem dX0_refuseOutside_5 : decode cX0_refuseOutside 5 = .ok (.iload_n 1, 1) := by decide +kernel
theorem dX0_refuseOutside_6 : decode cX0_refuseOutside 6 = .ok (.if_icmp .le 11, 3) := by decide +kernel
theorem dX0_refuseOutside_9 : decode cX0_refuseOutside 9 = .ok (.new 40, 3) := by decide +kernel
theorem dX0_refuseOutside_12 : decode cX0_refuseOutside 12 = .ok (.dup, 1) := by decide +kernel
theorem dX0_refuseOutside_13 : decode cX0_refuseOutside 13 = .ok (.invokespecial 42, 3) := by decide +kernel
theorem dX0_refuseOutside_16 : decode cX0_refuseOutside 16 = .ok (.athrow, 1) := by decide +kernel
theorem dX0_refuseOutside_17 : decode cX0_refuseOutside 17 = .ok (.return_, 1) := by decide +kernel
set_option maxRecDepth 20000 in
theorem ggX0_step_X0_effective : GoodIn wsX0_step wsX0_effective := goodIn_r _ [8, 1, 9, 10, 11, 7, 12, 13, 14, 15, 16, 17, 18, 19, 120, 121, 122, 123, 124] (by decide +kernel) (by decide +kernel)
set_option maxRecDepth 20000 in
theorem gX0_step_X0_effective : GoodIn wsX0_step (wsV RX0 43 RX0 yX0_effective wsX0_effective) := goodIn_app (goodIn_of _ (by decide +kernel)) ggX0_step_X0_effective
set_option maxRecDepth 20000 in
theorem ggX0_step_X0_perform : GoodIn wsX0_step wsX0_perform := goodIn_r _ [23, 24, 25, 26, 7, 27, 1, 28, 29, 30, 31, 32, 33, 34, 14, 15, 16, 13, 35, 36, 37, 38, 39, 40, 41, 42, 43, 44, 45, 46, 47, 48, 49, 50, 51, 52, 53, 54, 55, 56, 57, 58, 59, 60, 61, 62, 63, 64, 65, 3, 66, 67, 68, 69, 70, 71, 72, 73, 74, 75, 76, 77, 78, 79, 80, 81, 82, 83, 84, 85, 86, 87, 88, 89, 90, 91, 92, 93, 94, 95, 96, 97, 98, 99, 100, 101, 102, 103, 104, 105, 106, 107, 108, 109, 110, 111, 112, 113, 114, 115, 116, 117, 118, 119, 120, 121, 122, 123, 124] (by decide +kernel) (by decide +kernel)
set_option maxRecDepth 20000 in
theorem gX0_step_X0_perform : GoodIn wsX0_step (wsV RX0 47 RX0 yX0_perform wsX0_perform) := goodIn_app (goodIn_of _ (by decide +kernel)) ggX0_step_X0_perform
theorem dX0_step_0 : decode cX0_step 0 = .ok (.aload_n 0, 1) := by decide +kernel
theorem dX0_step_1 : decode cX0_step 1 = .ok (.getfield 9, 3) := by decide +kernel
theorem dX0_step_4 : decode cX0_step 4 = .ok (.aload_n 0, 1) := by decide +kernel
theorem dX0_step_5 : decode cX0_step 5 = .ok (.getfield 13, 3) := by decide +kernel
theorem dX0_step_8 : decode cX0_step 8 = .ok (.laload, 1) := by decide +kernel
theorem dX0_step_9 : decode cX0_step 9 = .ok (.lstore_n 1, 1) := by decide +kernel
theorem dX0_step_10 : decode cX0_step 10 = .ok (.aload_n 0, 1) := by decide +kernel
theorem dX0_step_11 : decode cX0_step 11 = .ok (.lload_n 1, 1) := by decide +kernel
theorem dX0_step_12 : decode cX0_step 12 = .ok (.invokevirtual 43, 3) := by decide +kernel
theorem dX0_step_15 : decode cX0_step 15 = .ok (.istore_n 3, 1) := by decide +kernel
theorem dX0_step_16 : decode cX0_step 16 = .ok (.iload_n 3, 1) := by decide +kernel
theorem dX0_step_17 : decode cX0_step 17 = .ok (.iconst (-1), 1) := by decide +kernel
theorem dX0_step_18 : decode cX0_step 18 = .ok (.if_icmp .ne 5, 3) := by decide +kernel
theorem dX0_step_21 : decode cX0_step 21 = .ok (.iconst 2, 1) := by decide +kernel
theorem dX0_step_22 : decode cX0_step 22 = .ok (.ireturn, 1) := by decide +kernel
theorem dX0_step_23 : decode cX0_step 23 = .ok (.aload_n 0, 1) := by decide +kernel
theorem dX0_step_24 : decode cX0_step 24 = .ok (.aload_n 0, 1) := by decide +kernel
theorem dX0_step_25 : decode cX0_step 25 = .ok (.getfield 13, 3) := by decide +kernel
theorem dX0_step_28 : decode cX0_step 28 = .ok (.iconst 1, 1) := by decide +kernel
theorem dX0_step_29 : decode cX0_step 29 = .ok (.iadd, 1) := by decide +kernel
theorem dX0_step_30 : decode cX0_step 30 = .ok (.sipush 4095, 3) := by decide +kernel
theorem dX0_step_33 : decode cX0_step 33 = .ok (.iand, 1) := by decide +kernel
theorem dX0_step_34 : decode cX0_step 34 = .ok (.putfield 17, 3) := by decide +kernel
theorem dX0_step_37 : decode cX0_step 37 = .ok (.lload_n 1, 1) := by decide +kernel
theorem dX0_step_38 : decode cX0_step 38 = .ok (.bipush 27, 2) := by decide +kernel
theorem dX0_step_40 : decode cX0_step 40 = .ok (.lshr, 1) := by decide +kernel
theorem dX0_step_41 : decode cX0_step 41 = .ok (.l2i, 1) := by decide +kernel
theorem dX0_step_42 : decode cX0_step 42 = .ok (.sipush 511, 3) := by decide +kernel
theorem dX0_step_45 : decode cX0_step 45 = .ok (.iand, 1) := by decide +kernel
theorem dX0_step_46 : decode cX0_step 46 = .ok (.istore 4, 2) := by decide +kernel
theorem dX0_step_48 : decode cX0_step 48 = .ok (.lload_n 1, 1) := by decide +kernel
theorem dX0_step_49 : decode cX0_step 49 = .ok (.bipush 23, 2) := by decide +kernel
theorem dX0_step_51 : decode cX0_step 51 = .ok (.lshr, 1) := by decide +kernel
theorem dX0_step_52 : decode cX0_step 52 = .ok (.l2i, 1) := by decide +kernel
theorem dX0_step_53 : decode cX0_step 53 = .ok (.bipush 15, 2) := by decide +kernel
theorem dX0_step_55 : decode cX0_step 55 = .ok (.iand, 1) := by decide +kernel
theorem dX0_step_56 : decode cX0_step 56 = .ok (.istore 5, 2) := by decide +kernel
theorem dX0_step_58 : decode cX0_step 58 = .ok (.aload_n 0, 1) := by decide +kernel
theorem dX0_step_59 : decode cX0_step 59 = .ok (.iload 4, 2) := by decide +kernel
theorem dX0_step_61 : decode cX0_step 61 = .ok (.iload 5, 2) := by decide +kernel
theorem dX0_step_63 : decode cX0_step 63 = .ok (.iload_n 3, 1) := by decide +kernel
theorem dX0_step_64 : decode cX0_step 64 = .ok (.invokevirtual 47, 3) := by decide +kernel
theorem dX0_step_67 : decode cX0_step 67 = .ok (.ireturn, 1) := by decide +kernel
set_option maxRecDepth 20000 in
theorem ggX0_effective_X0_indexed : GoodIn wsX0_effective wsX0_indexed := goodIn_r _ [6, 1, 7, 8, 9, 5, 10, 14, 15, 16, 17, 18] (by decide +kernel) (by decide +kernel)
set_option maxRecDepth 20000 in
theorem gX0_effective_X0_indexed : GoodIn wsX0_effective (wsV RX0 51 RX0 yX0_indexed wsX0_indexed) := goodIn_app (goodIn_of _ (by decide +kernel)) ggX0_effective_X0_indexed
set_option maxRecDepth 20000 in
theorem ggX0_effective_X0_isIndirect : GoodIn wsX0_effective wsX0_isIndirect := goodIn_r _ [13] (by decide +kernel) (by decide +kernel)
set_option maxRecDepth 20000 in
theorem gX0_effective_X0_isIndirect : GoodIn wsX0_effective (va_wsS RX0 54 yX0_isIndirect wsX0_isIndirect) := goodIn_app (goodIn_of _ (by decide +kernel)) ggX0_effective_X0_isIndirect
theorem dX0_effective_0 : decode cX0_effective 0 = .ok (.lload_n 1, 1) := by decide +kernel
theorem dX0_effective_1 : decode cX0_effective 1 = .ok (.lstore_n 3, 1) := by decide +kernel
theorem dX0_effective_2 : decode cX0_effective 2 = .ok (.aload_n 0, 1) := by decide +kernel
theorem dX0_effective_3 : decode cX0_effective 3 = .ok (.lload_n 3, 1) := by decide +kernel
theorem dX0_effective_4 : decode cX0_effective 4 = .ok (.invokevirtual 51, 3) := by decide +kernel
theorem dX0_effective_7 : decode cX0_effective 7 = .ok (.istore 5, 2) := by decide +kernel
theorem dX0_effective_9 : decode cX0_effective 9 = .ok (.iconst 0, 1) := by decide +kernel
theorem dX0_effective_10 : decode cX0_effective 10 = .ok (.istore 6, 2) := by decide +kernel
theorem dX0_effective_12 : decode cX0_effective 12 = .ok (.iload 6, 2) := by decide +kernel
theorem dX0_effective_14 : decode cX0_effective 14 = .ok (.bipush 20, 2) := by decide +kernel
theorem dX0_effective_16 : decode cX0_effective 16 = .ok (.if_icmp .ge 41, 3) := by decide +kernel
theorem dX0_effective_19 : decode cX0_effective 19 = .ok (.lload_n 3, 1) := by decide +kernel
theorem dX0_effective_20 : decode cX0_effective 20 = .ok (.invokestatic 54, 3) := by decide +kernel
theorem dX0_effective_23 : decode cX0_effective 23 = .ok (.ifCond .eq 34, 3) := by decide +kernel
theorem dX0_effective_26 : decode cX0_effective 26 = .ok (.iload 5, 2) := by decide +kernel
theorem dX0_effective_28 : decode cX0_effective 28 = .ok (.sipush 4096, 3) := by decide +kernel
theorem dX0_effective_31 : decode cX0_effective 31 = .ok (.if_icmp .lt 5, 3) := by decide +kernel
theorem dX0_effective_34 : decode cX0_effective 34 = .ok (.iconst (-1), 1) := by decide +kernel
theorem dX0_effective_35 : decode cX0_effective 35 = .ok (.ireturn, 1) := by decide +kernel
theorem dX0_effective_36 : decode cX0_effective 36 = .ok (.aload_n 0, 1) := by decide +kernel
theorem dX0_effective_37 : decode cX0_effective 37 = .ok (.getfield 9, 3) := by decide +kernel
theorem dX0_effective_40 : decode cX0_effective 40 = .ok (.iload 5, 2) := by decide +kernel
theorem dX0_effective_42 : decode cX0_effective 42 = .ok (.laload, 1) := by decide +kernel
theorem dX0_effective_43 : decode cX0_effective 43 = .ok (.lstore_n 3, 1) := by decide +kernel
theorem dX0_effective_44 : decode cX0_effective 44 = .ok (.aload_n 0, 1) := by decide +kernel
theorem dX0_effective_45 : decode cX0_effective 45 = .ok (.lload_n 3, 1) := by decide +kernel
theorem dX0_effective_46 : decode cX0_effective 46 = .ok (.invokevirtual 51, 3) := by decide +kernel
theorem dX0_effective_49 : decode cX0_effective 49 = .ok (.istore 5, 2) := by decide +kernel
theorem dX0_effective_51 : decode cX0_effective 51 = .ok (.iinc 6 1, 3) := by decide +kernel
theorem dX0_effective_54 : decode cX0_effective 54 = .ok (.goto (-42), 3) := by decide +kernel
theorem dX0_effective_57 : decode cX0_effective 57 = .ok (.iload 5, 2) := by decide +kernel
theorem dX0_effective_59 : decode cX0_effective 59 = .ok (.ireturn, 1) := by decide +kernel
set_option maxRecDepth 20000 in
theorem ggX0_indexed_X0_rightHalf : GoodIn wsX0_indexed wsX0_rightHalf := goodIn_r _ [6, 2] (by decide +kernel) (by decide +kernel)
set_option maxRecDepth 20000 in
theorem gX0_indexed_X0_rightHalf : GoodIn wsX0_indexed (va_wsS RX0 58 yX0_rightHalf wsX0_rightHalf) := goodIn_app (goodIn_of _ (by decide +kernel)) ggX0_indexed_X0_rightHalf
theorem dX0_indexed_0 : decode cX0_indexed 0 = .ok (.lload_n 1, 1) := by decide +kernel
theorem dX0_indexed_1 : decode cX0_indexed 1 = .ok (.bipush 18, 2) := by decide +kernel
theorem dX0_indexed_3 : decode cX0_indexed 3 = .ok (.lshr, 1) := by decide +kernel
theorem dX0_indexed_4 : decode cX0_indexed 4 = .ok (.l2i, 1) := by decide +kernel
theorem dX0_indexed_5 : decode cX0_indexed 5 = .ok (.bipush 15, 2) := by decide +kernel
theorem dX0_indexed_7 : decode cX0_indexed 7 = .ok (.iand, 1) := by decide +kernel
theorem dX0_indexed_8 : decode cX0_indexed 8 = .ok (.istore_n 3, 1) := by decide +kernel
theorem dX0_indexed_9 : decode cX0_indexed 9 = .ok (.lload_n 1, 1) := by decide +kernel
theorem dX0_indexed_10 : decode cX0_indexed 10 = .ok (.invokestatic 58, 3) := by decide +kernel
theorem dX0_indexed_13 : decode cX0_indexed 13 = .ok (.istore 4, 2) := by decide +kernel
theorem dX0_indexed_15 : decode cX0_indexed 15 = .ok (.iload_n 3, 1) := by decide +kernel
theorem dX0_indexed_16 : decode cX0_indexed 16 = .ok (.ifCond .ne 8, 3) := by decide +kernel
theorem dX0_indexed_19 : decode cX0_indexed 19 = .ok (.iload 4, 2) := by decide +kernel
theorem dX0_indexed_21 : decode cX0_indexed 21 = .ok (.goto 18, 3) := by decide +kernel
theorem dX0_indexed_24 : decode cX0_indexed 24 = .ok (.iload 4, 2) := by decide +kernel
theorem dX0_indexed_26 : decode cX0_indexed 26 = .ok (.aload_n 0, 1) := by decide +kernel
theorem dX0_indexed_27 : decode cX0_indexed 27 = .ok (.getfield 9, 3) := by decide +kernel
theorem dX0_indexed_30 : decode cX0_indexed 30 = .ok (.iload_n 3, 1) := by decide +kernel
theorem dX0_indexed_31 : decode cX0_indexed 31 = .ok (.laload, 1) := by decide +kernel
theorem dX0_indexed_32 : decode cX0_indexed 32 = .ok (.invokestatic 58, 3) := by decide +kernel
theorem dX0_indexed_35 : decode cX0_indexed 35 = .ok (.iadd, 1) := by decide +kernel
theorem dX0_indexed_36 : decode cX0_indexed 36 = .ok (.ldc 34, 2) := by decide +kernel
theorem dX0_indexed_38 : decode cX0_indexed 38 = .ok (.iand, 1) := by decide +kernel
theorem dX0_indexed_39 : decode cX0_indexed 39 = .ok (.ireturn, 1) := by decide +kernel
theorem dX0_isIndirect_0 : decode cX0_isIndirect 0 = .ok (.lload_n 0, 1) := by decide +kernel
theorem dX0_isIndirect_1 : decode cX0_isIndirect 1 = .ok (.bipush 22, 2) := by decide +kernel
theorem dX0_isIndirect_3 : decode cX0_isIndirect 3 = .ok (.lshr, 1) := by decide +kernel
theorem dX0_isIndirect_4 : decode cX0_isIndirect 4 = .ok (.lconst 1, 1) := by decide +kernel
theorem dX0_isIndirect_5 : decode cX0_isIndirect 5 = .ok (.land, 1) := by decide +kernel
theorem dX0_isIndirect_6 : decode cX0_isIndirect 6 = .ok (.lconst 1, 1) := by decide +kernel
theorem dX0_isIndirect_7 : decode cX0_isIndirect 7 = .ok (.lcmp, 1) := by decide +kernel
theorem dX0_isIndirect_8 : decode cX0_isIndirect 8 = .ok (.ifCond .ne 7, 3) := by decide +kernel
theorem dX0_isIndirect_11 : decode cX0_isIndirect 11 = .ok (.iconst 1, 1) := by decide +kernel
theorem dX0_isIndirect_12 : decode cX0_isIndirect 12 = .ok (.goto 4, 3) := by decide +kernel
theorem dX0_isIndirect_15 : decode cX0_isIndirect 15 = .ok (.iconst 0, 1) := by decide +kernel
theorem dX0_isIndirect_16 : decode cX0_isIndirect 16 = .ok (.ireturn, 1) := by decide +kernel
set_option maxRecDepth 20000 in
theorem ggX0_perform_X0_combine : GoodIn wsX0_perform wsX0_combine := goodIn_r _ [5, 6, 7, 8, 4, 9, 10, 11, 12, 13, 14, 15, 16, 17, 18, 19, 20, 21, 22, 23, 24, 25, 26, 27, 28, 29, 30, 31, 32, 33, 34, 35, 36, 37, 38, 39, 104, 105, 106, 107, 108] (by decide +kernel) (by decide +kernel)
set_option maxRecDepth 20000 in
theorem gX0_perform_X0_combine : GoodIn wsX0_perform (wsV RX0 61 RX0 yX0_combine wsX0_combine) := goodIn_app (goodIn_of _ (by decide +kernel)) ggX0_perform_X0_combine
set_option maxRecDepth 20000 in
theorem ggX0_perform_X0_divide : GoodIn wsX0_perform wsX0_divide := goodIn_r _ [43, 6, 28, 44, 29, 30, 4, 31, 35, 36, 37, 38, 39, 104, 105, 106, 107, 108] (by decide +kernel) (by decide +kernel)
set_option maxRecDepth 20000 in
theorem gX0_perform_X0_divide : GoodIn wsX0_perform (wsV RX0 65 RX0 yX0_divide wsX0_divide) := goodIn_app (goodIn_of _ (by decide +kernel)) ggX0_perform_X0_divide
set_option maxRecDepth 20000 in
theorem ggX0_perform_X0_jump : GoodIn wsX0_perform wsX0_jump := goodIn_r _ [48, 49, 104, 105, 106, 107, 108] (by decide +kernel) (by decide +kernel)
set_option maxRecDepth 20000 in
theorem gX0_perform_X0_jump : GoodIn wsX0_perform (wsV RX0 69 RX0 yX0_jump wsX0_jump) := goodIn_app (goodIn_of _ (by decide +kernel)) ggX0_perform_X0_jump
set_option maxRecDepth 20000 in
theorem ggX0_perform_X0_pushNextPlace : GoodIn wsX0_perform wsX0_pushNextPlace := goodIn_r _ [53, 49, 54, 55, 56, 4, 57, 6, 17, 14, 15, 16, 58, 59, 60, 61, 13, 35, 36, 37, 38, 39, 45, 46, 47, 48, 104, 105, 106, 107, 108] (by decide +kernel) (by decide +kernel)
set_option maxRecDepth 20000 in
theorem gX0_perform_X0_pushNextPlace : GoodIn wsX0_perform (wsV RX0 73 RX0 yX0_pushNextPlace wsX0_pushNextPlace) := goodIn_app (goodIn_of _ (by decide +kernel)) ggX0_perform_X0_pushNextPlace
set_option maxRecDepth 20000 in
theorem ggX0_perform_X0_popToPc : GoodIn wsX0_perform wsX0_popToPc := goodIn_r _ [65, 6, 14, 15, 4, 16, 17, 45, 46, 47, 48, 49, 58, 59, 60, 61, 13, 35, 36, 37, 38, 39, 104, 105, 106, 107, 108] (by decide +kernel) (by decide +kernel)
set_option maxRecDepth 20000 in
theorem gX0_perform_X0_popToPc : GoodIn wsX0_perform (wsV RX0 77 RX0 yX0_popToPc wsX0_popToPc) := goodIn_app (goodIn_of _ (by decide +kernel)) ggX0_perform_X0_popToPc
set_option maxRecDepth 20000 in
theorem ggX0_perform_X0_performOnMemory : GoodIn wsX0_perform wsX0_performOnMemory := goodIn_r _ [69, 6, 35, 36, 37, 4, 38, 39, 40, 41, 42, 43, 28, 44, 29, 30, 31, 70, 71, 72, 73, 54, 55, 56, 57, 17, 14, 15, 16, 58, 59, 60, 61, 13, 74, 75, 76, 77, 78, 79, 80, 81, 49, 45, 46, 47, 48, 1, 2, 3, 5, 7, 8, 9, 10, 11, 12, 18, 19, 20, 21, 22, 23, 24, 25, 26, 27, 32, 33, 34, 104, 105, 106, 107, 108] (by decide +kernel) (by decide +kernel)
set_option maxRecDepth 20000 in
theorem gX0_perform_X0_performOnMemory : GoodIn wsX0_perform (wsV RX0 80 RX0 yX0_performOnMemory wsX0_performOnMemory) := goodIn_app (goodIn_of _ (by decide +kernel)) ggX0_perform_X0_performOnMemory
set_option maxRecDepth 20000 in
theorem ggX0_perform_X0_isTest : GoodIn wsX0_perform wsX0_isTest := goodIn_r _ [84] (by decide +kernel) (by decide +kernel)
set_option maxRecDepth 20000 in
theorem gX0_perform_X0_isTest : GoodIn wsX0_perform (va_wsS RX0 83 yX0_isTest wsX0_isTest) := goodIn_app (goodIn_of _ (by decide +kernel)) ggX0_perform_X0_isTest
set_option maxRecDepth 20000 in
theorem ggX0_perform_X0_test : GoodIn wsX0_perform wsX0_test := goodIn_r _ [88, 6, 89, 90, 4, 91, 29, 30, 31, 92, 93, 94, 95, 49, 45, 46, 47, 48, 96, 97, 98, 99, 35, 36, 37, 38, 39, 100, 101, 102, 103, 104, 105, 106, 107, 108] (by decide +kernel) (by decide +kernel)
set_option maxRecDepth 20000 in
theorem gX0_perform_X0_test : GoodIn wsX0_perform (wsV RX0 87 RX0 yX0_test wsX0_test) := goodIn_app (goodIn_of _ (by decide +kernel)) ggX0_perform_X0_test
theorem dX0_perform_0 : decode cX0_perform 0 = .ok (.iload_n 1, 1) := by decide +kernel
theorem dX0_perform_1 : decode cX0_perform 1 = .ok (.lookupswitch 372 #[(0, 315), (128, 353), (129, 317), (130, 353), (132, 353), (136, 353), (140, 353), (144, 353), (145, 317), (152, 353), (153, 326), (162, 317), (168, 353), (172, 334), (176, 340), (177, 353), (178, 353), (179, 347), (180, 353), (184, 353), (185, 317), (188, 353), (189, 317), (256, 317), (258, 353), (260, 353), (261, 317), (280, 353), (281, 317), (284, 353), (285, 317), (296, 317), (320, 353), (324, 353), (352, 353), (356, 353), (360, 353), (364, 353)], 315) := by decide +kernel
theorem dX0_perform_316 : decode cX0_perform 316 = .ok (.iconst (-1), 1) := by decide +kernel
theorem dX0_perform_317 : decode cX0_perform 317 = .ok (.ireturn, 1) := by decide +kernel
theorem dX0_perform_318 : decode cX0_perform 318 = .ok (.aload_n 0, 1) := by decide +kernel
theorem dX0_perform_319 : decode cX0_perform 319 = .ok (.iload_n 1, 1) := by decide +kernel
theorem dX0_perform_320 : decode cX0_perform 320 = .ok (.iload_n 2, 1) := by decide +kernel
theorem dX0_perform_321 : decode cX0_perform 321 = .ok (.iload_n 3, 1) := by decide +kernel
theorem dX0_perform_322 : decode cX0_perform 322 = .ok (.i2l, 1) := by decide +kernel
theorem dX0_perform_323 : decode cX0_perform 323 = .ok (.invokevirtual 61, 3) := by decide +kernel
theorem dX0_perform_326 : decode cX0_perform 326 = .ok (.ireturn, 1) := by decide +kernel
theorem dX0_perform_327 : decode cX0_perform 327 = .ok (.aload_n 0, 1) := by decide +kernel
theorem dX0_perform_328 : decode cX0_perform 328 = .ok (.iload_n 2, 1) := by decide +kernel
theorem dX0_perform_329 : decode cX0_perform 329 = .ok (.iload_n 3, 1) := by decide +kernel
theorem dX0_perform_330 : decode cX0_perform 330 = .ok (.i2l, 1) := by decide +kernel
theorem dX0_perform_331 : decode cX0_perform 331 = .ok (.invokevirtual 65, 3) := by decide +kernel
theorem dX0_perform_334 : decode cX0_perform 334 = .ok (.ireturn, 1) := by decide +kernel
theorem dX0_perform_335 : decode cX0_perform 335 = .ok (.aload_n 0, 1) := by decide +kernel
theorem dX0_perform_336 : decode cX0_perform 336 = .ok (.iload_n 3, 1) := by decide +kernel
theorem dX0_perform_337 : decode cX0_perform 337 = .ok (.invokevirtual 69, 3) := by decide +kernel
theorem dX0_perform_340 : decode cX0_perform 340 = .ok (.ireturn, 1) := by decide +kernel
theorem dX0_perform_341 : decode cX0_perform 341 = .ok (.aload_n 0, 1) := by decide +kernel
theorem dX0_perform_342 : decode cX0_perform 342 = .ok (.iload_n 2, 1) := by decide +kernel
theorem dX0_perform_343 : decode cX0_perform 343 = .ok (.iload_n 3, 1) := by decide +kernel
theorem dX0_perform_344 : decode cX0_perform 344 = .ok (.invokevirtual 73, 3) := by decide +kernel
theorem dX0_perform_347 : decode cX0_perform 347 = .ok (.ireturn, 1) := by decide +kernel
theorem dX0_perform_348 : decode cX0_perform 348 = .ok (.aload_n 0, 1) := by decide +kernel
theorem dX0_perform_349 : decode cX0_perform 349 = .ok (.iload_n 2, 1) := by decide +kernel
theorem dX0_perform_350 : decode cX0_perform 350 = .ok (.invokevirtual 77, 3) := by decide +kernel
theorem dX0_perform_353 : decode cX0_perform 353 = .ok (.ireturn, 1) := by decide +kernel
theorem dX0_perform_354 : decode cX0_perform 354 = .ok (.iload_n 3, 1) := by decide +kernel
theorem dX0_perform_355 : decode cX0_perform 355 = .ok (.sipush 4096, 3) := by decide +kernel
theorem dX0_perform_358 : decode cX0_perform 358 = .ok (.if_icmp .lt 7, 3) := by decide +kernel
theorem dX0_perform_361 : decode cX0_perform 361 = .ok (.iconst 2, 1) := by decide +kernel
theorem dX0_perform_362 : decode cX0_perform 362 = .ok (.goto 10, 3) := by decide +kernel
theorem dX0_perform_365 : decode cX0_perform 365 = .ok (.aload_n 0, 1) := by decide +kernel
theorem dX0_perform_366 : decode cX0_perform 366 = .ok (.iload_n 1, 1) := by decide +kernel
theorem dX0_perform_367 : decode cX0_perform 367 = .ok (.iload_n 2, 1) := by decide +kernel
theorem dX0_perform_368 : decode cX0_perform 368 = .ok (.iload_n 3, 1) := by decide +kernel
theorem dX0_perform_369 : decode cX0_perform 369 = .ok (.invokevirtual 80, 3) := by decide +kernel
theorem dX0_perform_372 : decode cX0_perform 372 = .ok (.ireturn, 1) := by decide +kernel
theorem dX0_perform_373 : decode cX0_perform 373 = .ok (.iload_n 1, 1) := by decide +kernel
theorem dX0_perform_374 : decode cX0_perform 374 = .ok (.invokestatic 83, 3) := by decide +kernel
theorem dX0_perform_377 : decode cX0_perform 377 = .ok (.ifCond .eq 13, 3) := by decide +kernel
theorem dX0_perform_380 : decode cX0_perform 380 = .ok (.aload_n 0, 1) := by decide +kernel
theorem dX0_perform_381 : decode cX0_perform 381 = .ok (.iload_n 1, 1) := by decide +kernel
theorem dX0_perform_382 : decode cX0_perform 382 = .ok (.iload_n 2, 1) := by decide +kernel
theorem dX0_perform_383 : decode cX0_perform 383 = .ok (.iload_n 3, 1) := by decide +kernel
theorem dX0_perform_384 : decode cX0_perform 384 = .ok (.invokevirtual 87, 3) := by decide +kernel
theorem dX0_perform_387 : decode cX0_perform 387 = .ok (.goto 4, 3) := by decide +kernel
theorem dX0_perform_390 : decode cX0_perform 390 = .ok (.iconst 1, 1) := by decide +kernel
theorem dX0_perform_391 : decode cX0_perform 391 = .ok (.ireturn, 1) := by decide +kernel
set_option maxRecDepth 20000 in
theorem ggX0_performOnMemory_X0_store : GoodIn wsX0_performOnMemory wsX0_store := goodIn_r _ [6, 1, 7, 70, 71, 72, 73, 74] (by decide +kernel) (by decide +kernel)
set_option maxRecDepth 20000 in
theorem gX0_performOnMemory_X0_store : GoodIn wsX0_performOnMemory (wsV RX0 30 RX0 yX0_store wsX0_store) := goodIn_app (goodIn_of _ (by decide +kernel)) ggX0_performOnMemory_X0_store
set_option maxRecDepth 20000 in
theorem ggX0_performOnMemory_X0_divide : GoodIn wsX0_performOnMemory wsX0_divide := goodIn_r _ [11, 1, 12, 13, 14, 15, 5, 16, 2, 3, 4, 6, 7, 70, 71, 72, 73, 74] (by decide +kernel) (by decide +kernel)
set_option maxRecDepth 20000 in
theorem gX0_performOnMemory_X0_divide : GoodIn wsX0_performOnMemory (wsV RX0 65 RX0 yX0_divide wsX0_divide) := goodIn_app (goodIn_of _ (by decide +kernel)) ggX0_performOnMemory_X0_divide
set_option maxRecDepth 20000 in
theorem ggX0_performOnMemory_X0_exchange : GoodIn wsX0_performOnMemory wsX0_exchange := goodIn_r _ [20, 1, 2, 3, 4, 5, 6, 7, 70, 71, 72, 73, 74] (by decide +kernel) (by decide +kernel)
set_option maxRecDepth 20000 in
theorem gX0_performOnMemory_X0_exchange : GoodIn wsX0_performOnMemory (wsV RX0 90 RX0 yX0_exchange wsX0_exchange) := goodIn_app (goodIn_of _ (by decide +kernel)) ggX0_performOnMemory_X0_exchange
set_option maxRecDepth 20000 in
theorem ggX0_performOnMemory_X0_push : GoodIn wsX0_performOnMemory wsX0_push := goodIn_r _ [24, 1, 25, 26, 27, 5, 28, 29, 30, 31, 32, 33, 2, 3, 4, 6, 7, 70, 71, 72, 73, 74] (by decide +kernel) (by decide +kernel)
set_option maxRecDepth 20000 in
theorem gX0_performOnMemory_X0_push : GoodIn wsX0_performOnMemory (wsV RX0 93 RX0 yX0_push wsX0_push) := goodIn_app (goodIn_of _ (by decide +kernel)) ggX0_performOnMemory_X0_push
set_option maxRecDepth 20000 in
theorem ggX0_performOnMemory_X0_popToMemory : GoodIn wsX0_performOnMemory wsX0_popToMemory := goodIn_r _ [37, 1, 26, 27, 5, 28, 25, 2, 3, 4, 6, 7, 29, 30, 31, 32, 33, 70, 71, 72, 73, 74] (by decide +kernel) (by decide +kernel)
set_option maxRecDepth 20000 in
theorem gX0_performOnMemory_X0_popToMemory : GoodIn wsX0_performOnMemory (wsV RX0 96 RX0 yX0_popToMemory wsX0_popToMemory) := goodIn_app (goodIn_of _ (by decide +kernel)) ggX0_performOnMemory_X0_popToMemory
set_option maxRecDepth 20000 in
theorem ggX0_performOnMemory_X0_leaveNextPlaceAndJump : GoodIn wsX0_performOnMemory wsX0_leaveNextPlaceAndJump := goodIn_r _ [41, 42, 2, 3, 4, 5, 6, 1, 7, 43, 44, 45, 46, 70, 71, 72, 73, 74] (by decide +kernel) (by decide +kernel)
set_option maxRecDepth 20000 in
theorem gX0_performOnMemory_X0_leaveNextPlaceAndJump : GoodIn wsX0_performOnMemory (wsV RX0 99 RX0 yX0_leaveNextPlaceAndJump wsX0_leaveNextPlaceAndJump) := goodIn_app (goodIn_of _ (by decide +kernel)) ggX0_performOnMemory_X0_leaveNextPlaceAndJump
set_option maxRecDepth 20000 in
theorem ggX0_performOnMemory_X0_combine : GoodIn wsX0_performOnMemory wsX0_combine := goodIn_r _ [50, 1, 51, 52, 5, 53, 54, 55, 56, 33, 26, 27, 28, 25, 57, 58, 59, 60, 61, 62, 63, 64, 65, 66, 12, 14, 15, 16, 67, 68, 69, 2, 3, 4, 6, 7, 70, 71, 72, 73, 74] (by decide +kernel) (by decide +kernel)
set_option maxRecDepth 20000 in
theorem gX0_performOnMemory_X0_combine : GoodIn wsX0_performOnMemory (wsV RX0 61 RX0 yX0_combine wsX0_combine) := goodIn_app (goodIn_of _ (by decide +kernel)) ggX0_performOnMemory_X0_combine
theorem dX0_performOnMemory_0 : decode cX0_performOnMemory 0 = .ok (.iload_n 1, 1) := by decide +kernel
theorem dX0_performOnMemory_1 : decode cX0_performOnMemory 1 = .ok (.lookupswitch 132 #[(130, 67), (152, 80), (168, 92), (177, 99), (178, 111), (180, 118), (258, 124)], 67) := by decide +kernel
theorem dX0_performOnMemory_68 : decode cX0_performOnMemory 68 = .ok (.aload_n 0, 1) := by decide +kernel
theorem dX0_performOnMemory_69 : decode cX0_performOnMemory 69 = .ok (.iload_n 3, 1) := by decide +kernel
theorem dX0_performOnMemory_70 : decode cX0_performOnMemory 70 = .ok (.aload_n 0, 1) := by decide +kernel
theorem dX0_performOnMemory_71 : decode cX0_performOnMemory 71 = .ok (.getfield 9, 3) := by decide +kernel
theorem dX0_performOnMemory_74 : decode cX0_performOnMemory 74 = .ok (.iload_n 2, 1) := by decide +kernel
theorem dX0_performOnMemory_75 : decode cX0_performOnMemory 75 = .ok (.laload, 1) := by decide +kernel
theorem dX0_performOnMemory_76 : decode cX0_performOnMemory 76 = .ok (.invokevirtual 30, 3) := by decide +kernel
theorem dX0_performOnMemory_79 : decode cX0_performOnMemory 79 = .ok (.iconst 0, 1) := by decide +kernel
theorem dX0_performOnMemory_80 : decode cX0_performOnMemory 80 = .ok (.ireturn, 1) := by decide +kernel
theorem dX0_performOnMemory_81 : decode cX0_performOnMemory 81 = .ok (.aload_n 0, 1) := by decide +kernel
theorem dX0_performOnMemory_82 : decode cX0_performOnMemory 82 = .ok (.iload_n 2, 1) := by decide +kernel
theorem dX0_performOnMemory_83 : decode cX0_performOnMemory 83 = .ok (.aload_n 0, 1) := by decide +kernel
theorem dX0_performOnMemory_84 : decode cX0_performOnMemory 84 = .ok (.getfield 9, 3) := by decide +kernel
theorem dX0_performOnMemory_87 : decode cX0_performOnMemory 87 = .ok (.iload_n 3, 1) := by decide +kernel
theorem dX0_performOnMemory_88 : decode cX0_performOnMemory 88 = .ok (.laload, 1) := by decide +kernel
theorem dX0_performOnMemory_89 : decode cX0_performOnMemory 89 = .ok (.invokevirtual 65, 3) := by decide +kernel
theorem dX0_performOnMemory_92 : decode cX0_performOnMemory 92 = .ok (.ireturn, 1) := by decide +kernel
theorem dX0_performOnMemory_93 : decode cX0_performOnMemory 93 = .ok (.aload_n 0, 1) := by decide +kernel
theorem dX0_performOnMemory_94 : decode cX0_performOnMemory 94 = .ok (.iload_n 2, 1) := by decide +kernel
theorem dX0_performOnMemory_95 : decode cX0_performOnMemory 95 = .ok (.iload_n 3, 1) := by decide +kernel
theorem dX0_performOnMemory_96 : decode cX0_performOnMemory 96 = .ok (.invokevirtual 90, 3) := by decide +kernel
theorem dX0_performOnMemory_99 : decode cX0_performOnMemory 99 = .ok (.ireturn, 1) := by decide +kernel
theorem dX0_performOnMemory_100 : decode cX0_performOnMemory 100 = .ok (.aload_n 0, 1) := by decide +kernel
theorem dX0_performOnMemory_101 : decode cX0_performOnMemory 101 = .ok (.iload_n 2, 1) := by decide +kernel
theorem dX0_performOnMemory_102 : decode cX0_performOnMemory 102 = .ok (.aload_n 0, 1) := by decide +kernel
theorem dX0_performOnMemory_103 : decode cX0_performOnMemory 103 = .ok (.getfield 9, 3) := by decide +kernel
theorem dX0_performOnMemory_106 : decode cX0_performOnMemory 106 = .ok (.iload_n 3, 1) := by decide +kernel
theorem dX0_performOnMemory_107 : decode cX0_performOnMemory 107 = .ok (.laload, 1) := by decide +kernel
theorem dX0_performOnMemory_108 : decode cX0_performOnMemory 108 = .ok (.invokevirtual 93, 3) := by decide +kernel
theorem dX0_performOnMemory_111 : decode cX0_performOnMemory 111 = .ok (.ireturn, 1) := by decide +kernel
theorem dX0_performOnMemory_112 : decode cX0_performOnMemory 112 = .ok (.aload_n 0, 1) := by decide +kernel
theorem dX0_performOnMemory_113 : decode cX0_performOnMemory 113 = .ok (.iload_n 2, 1) := by decide +kernel
theorem dX0_performOnMemory_114 : decode cX0_performOnMemory 114 = .ok (.iload_n 3, 1) := by decide +kernel
theorem dX0_performOnMemory_115 : decode cX0_performOnMemory 115 = .ok (.invokevirtual 96, 3) := by decide +kernel
theorem dX0_performOnMemory_118 : decode cX0_performOnMemory 118 = .ok (.ireturn, 1) := by decide +kernel
theorem dX0_performOnMemory_119 : decode cX0_performOnMemory 119 = .ok (.aload_n 0, 1) := by decide +kernel
theorem dX0_performOnMemory_120 : decode cX0_performOnMemory 120 = .ok (.iload_n 3, 1) := by decide +kernel
theorem dX0_performOnMemory_121 : decode cX0_performOnMemory 121 = .ok (.invokevirtual 99, 3) := by decide +kernel
theorem dX0_performOnMemory_124 : decode cX0_performOnMemory 124 = .ok (.ireturn, 1) := by decide +kernel
theorem dX0_performOnMemory_125 : decode cX0_performOnMemory 125 = .ok (.aload_n 0, 1) := by decide +kernel
theorem dX0_performOnMemory_126 : decode cX0_performOnMemory 126 = .ok (.iload_n 3, 1) := by decide +kernel
theorem dX0_performOnMemory_127 : decode cX0_performOnMemory 127 = .ok (.lconst 0, 1) := by decide +kernel
theorem dX0_performOnMemory_128 : decode cX0_performOnMemory 128 = .ok (.invokevirtual 30, 3) := by decide +kernel
theorem dX0_performOnMemory_131 : decode cX0_performOnMemory 131 = .ok (.iconst 0, 1) := by decide +kernel
theorem dX0_performOnMemory_132 : decode cX0_performOnMemory 132 = .ok (.ireturn, 1) := by decide +kernel
theorem dX0_performOnMemory_133 : decode cX0_performOnMemory 133 = .ok (.aload_n 0, 1) := by decide +kernel
theorem dX0_performOnMemory_134 : decode cX0_performOnMemory 134 = .ok (.iload_n 1, 1) := by decide +kernel
theorem dX0_performOnMemory_135 : decode cX0_performOnMemory 135 = .ok (.iload_n 2, 1) := by decide +kernel
theorem dX0_performOnMemory_136 : decode cX0_performOnMemory 136 = .ok (.aload_n 0, 1) := by decide +kernel
theorem dX0_performOnMemory_137 : decode cX0_performOnMemory 137 = .ok (.getfield 9, 3) := by decide +kernel
theorem dX0_performOnMemory_140 : decode cX0_performOnMemory 140 = .ok (.iload_n 3, 1) := by decide +kernel
theorem dX0_performOnMemory_141 : decode cX0_performOnMemory 141 = .ok (.laload, 1) := by decide +kernel
theorem dX0_performOnMemory_142 : decode cX0_performOnMemory 142 = .ok (.invokevirtual 61, 3) := by decide +kernel
theorem dX0_performOnMemory_145 : decode cX0_performOnMemory 145 = .ok (.ireturn, 1) := by decide +kernel
set_option maxRecDepth 20000 in
theorem ggX0_combine_X0_isOfHalves : GoodIn wsX0_combine wsX0_isOfHalves := goodIn_r _ [5] (by decide +kernel) (by decide +kernel)
set_option maxRecDepth 20000 in
theorem gX0_combine_X0_isOfHalves : GoodIn wsX0_combine (va_wsS RX0 102 yX0_isOfHalves wsX0_isOfHalves) := goodIn_app (goodIn_of _ (by decide +kernel)) ggX0_combine_X0_isOfHalves
set_option maxRecDepth 20000 in
theorem ggX0_combine_X0_ofHalves : GoodIn wsX0_combine wsX0_ofHalves := goodIn_r _ [8, 9, 10, 11, 4, 12, 13, 14, 15, 16] (by decide +kernel) (by decide +kernel)
set_option maxRecDepth 20000 in
theorem gX0_combine_X0_ofHalves : GoodIn wsX0_combine (va_wsS RX0 105 yX0_ofHalves wsX0_ofHalves) := goodIn_app (goodIn_of _ (by decide +kernel)) ggX0_combine_X0_ofHalves
set_option maxRecDepth 20000 in
theorem ggX0_combine_X0_ofWords : GoodIn wsX0_combine wsX0_ofWords := goodIn_r _ [19, 20, 21, 22, 23, 24, 14, 15, 4, 16, 13, 25, 26, 27, 28, 29, 30] (by decide +kernel) (by decide +kernel)
set_option maxRecDepth 20000 in
theorem gX0_combine_X0_ofWords : GoodIn wsX0_combine (va_wsS RX0 109 yX0_ofWords wsX0_ofWords) := goodIn_app (goodIn_of _ (by decide +kernel)) ggX0_combine_X0_ofWords
set_option maxRecDepth 20000 in
theorem ggX0_combine_X0_store : GoodIn wsX0_combine wsX0_store := goodIn_r _ [34, 1, 35, 36, 37, 38, 39, 40] (by decide +kernel) (by decide +kernel)
set_option maxRecDepth 20000 in
theorem gX0_combine_X0_store : GoodIn wsX0_combine (wsV RX0 30 RX0 yX0_store wsX0_store) := goodIn_app (goodIn_of _ (by decide +kernel)) ggX0_combine_X0_store
theorem dX0_combine_0 : decode cX0_combine 0 = .ok (.aload_n 0, 1) := by decide +kernel
theorem dX0_combine_1 : decode cX0_combine 1 = .ok (.getfield 9, 3) := by decide +kernel
theorem dX0_combine_4 : decode cX0_combine 4 = .ok (.iload_n 2, 1) := by decide +kernel
theorem dX0_combine_5 : decode cX0_combine 5 = .ok (.laload, 1) := by decide +kernel
theorem dX0_combine_6 : decode cX0_combine 6 = .ok (.lstore 5, 2) := by decide +kernel
theorem dX0_combine_8 : decode cX0_combine 8 = .ok (.aload_n 0, 1) := by decide +kernel
theorem dX0_combine_9 : decode cX0_combine 9 = .ok (.iload_n 2, 1) := by decide +kernel
theorem dX0_combine_10 : decode cX0_combine 10 = .ok (.iload_n 1, 1) := by decide +kernel
theorem dX0_combine_11 : decode cX0_combine 11 = .ok (.invokestatic 102, 3) := by decide +kernel
theorem dX0_combine_14 : decode cX0_combine 14 = .ok (.ifCond .eq 13, 3) := by decide +kernel
theorem dX0_combine_17 : decode cX0_combine 17 = .ok (.iload_n 1, 1) := by decide +kernel
theorem dX0_combine_18 : decode cX0_combine 18 = .ok (.lload 5, 2) := by decide +kernel
theorem dX0_combine_20 : decode cX0_combine 20 = .ok (.lload_n 3, 1) := by decide +kernel
theorem dX0_combine_21 : decode cX0_combine 21 = .ok (.invokestatic 105, 3) := by decide +kernel
theorem dX0_combine_24 : decode cX0_combine 24 = .ok (.goto 10, 3) := by decide +kernel
theorem dX0_combine_27 : decode cX0_combine 27 = .ok (.iload_n 1, 1) := by decide +kernel
theorem dX0_combine_28 : decode cX0_combine 28 = .ok (.lload 5, 2) := by decide +kernel
theorem dX0_combine_30 : decode cX0_combine 30 = .ok (.lload_n 3, 1) := by decide +kernel
theorem dX0_combine_31 : decode cX0_combine 31 = .ok (.invokestatic 109, 3) := by decide +kernel
theorem dX0_combine_34 : decode cX0_combine 34 = .ok (.invokevirtual 30, 3) := by decide +kernel
theorem dX0_combine_37 : decode cX0_combine 37 = .ok (.iconst 0, 1) := by decide +kernel
theorem dX0_combine_38 : decode cX0_combine 38 = .ok (.ireturn, 1) := by decide +kernel
theorem dX0_isOfHalves_0 : decode cX0_isOfHalves 0 = .ok (.iload_n 0, 1) := by decide +kernel
theorem dX0_isOfHalves_1 : decode cX0_isOfHalves 1 = .ok (.sipush 320, 3) := by decide +kernel
theorem dX0_isOfHalves_4 : decode cX0_isOfHalves 4 = .ok (.if_icmp .lt 7, 3) := by decide +kernel
theorem dX0_isOfHalves_7 : decode cX0_isOfHalves 7 = .ok (.iconst 1, 1) := by decide +kernel
theorem dX0_isOfHalves_8 : decode cX0_isOfHalves 8 = .ok (.goto 4, 3) := by decide +kernel
theorem dX0_isOfHalves_11 : decode cX0_isOfHalves 11 = .ok (.iconst 0, 1) := by decide +kernel
theorem dX0_isOfHalves_12 : decode cX0_isOfHalves 12 = .ok (.ireturn, 1) := by decide +kernel
set_option maxRecDepth 20000 in
theorem ggX0_ofWords_X0_leftHalf : GoodIn wsX0_ofWords wsX0_leftHalf := goodIn_r _ [9, 10] (by decide +kernel) (by decide +kernel)
set_option maxRecDepth 20000 in
theorem gX0_ofWords_X0_leftHalf : GoodIn wsX0_ofWords (va_wsS RX0 112 yX0_leftHalf wsX0_leftHalf) := goodIn_app (goodIn_of _ (by decide +kernel)) ggX0_ofWords_X0_leftHalf
set_option maxRecDepth 20000 in
theorem ggX0_ofWords_X0_number : GoodIn wsX0_ofWords wsX0_number := goodIn_r _ [13] (by decide +kernel) (by decide +kernel)
set_option maxRecDepth 20000 in
theorem gX0_ofWords_X0_number : GoodIn wsX0_ofWords (va_wsS RX0 115 yX0_number wsX0_number) := goodIn_app (goodIn_of _ (by decide +kernel)) ggX0_ofWords_X0_number
set_option maxRecDepth 20000 in
theorem ggX0_ofWords_X0_shifted : GoodIn wsX0_ofWords wsX0_shifted := goodIn_r _ [16] (by decide +kernel) (by decide +kernel)
set_option maxRecDepth 20000 in
theorem gX0_ofWords_X0_shifted : GoodIn wsX0_ofWords (va_wsS RX0 124 yX0_shifted wsX0_shifted) := goodIn_app (goodIn_of _ (by decide +kernel)) ggX0_ofWords_X0_shifted
theorem dX0_ofWords_0 : decode cX0_ofWords 0 = .ok (.iload_n 0, 1) := by decide +kernel
theorem dX0_ofWords_1 : decode cX0_ofWords 1 = .ok (.lookupswitch 216 #[(132, 155), (136, 166), (140, 169), (144, 177), (145, 177), (162, 181), (184, 188), (185, 188), (188, 192), (189, 192), (256, 196), (260, 198), (261, 198), (280, 202), (281, 202), (284, 206), (285, 206), (296, 210)], 155) := by decide +kernel
theorem dX0_ofWords_156 : decode cX0_ofWords 156 = .ok (.lload_n 3, 1) := by decide +kernel
theorem dX0_ofWords_157 : decode cX0_ofWords 157 = .ok (.bipush 18, 2) := by decide +kernel
theorem dX0_ofWords_159 : decode cX0_ofWords 159 = .ok (.lshl, 1) := by decide +kernel
theorem dX0_ofWords_160 : decode cX0_ofWords 160 = .ok (.lload_n 3, 1) := by decide +kernel
theorem dX0_ofWords_161 : decode cX0_ofWords 161 = .ok (.invokestatic 112, 3) := by decide +kernel
theorem dX0_ofWords_164 : decode cX0_ofWords 164 = .ok (.i2l, 1) := by decide +kernel
theorem dX0_ofWords_165 : decode cX0_ofWords 165 = .ok (.lor, 1) := by decide +kernel
theorem dX0_ofWords_166 : decode cX0_ofWords 166 = .ok (.lreturn, 1) := by decide +kernel
theorem dX0_ofWords_167 : decode cX0_ofWords 167 = .ok (.lload_n 3, 1) := by decide +kernel
theorem dX0_ofWords_168 : decode cX0_ofWords 168 = .ok (.lneg, 1) := by decide +kernel
theorem dX0_ofWords_169 : decode cX0_ofWords 169 = .ok (.lreturn, 1) := by decide +kernel
theorem dX0_ofWords_170 : decode cX0_ofWords 170 = .ok (.lload_n 3, 1) := by decide +kernel
theorem dX0_ofWords_171 : decode cX0_ofWords 171 = .ok (.invokestatic 115, 3) := by decide +kernel
theorem dX0_ofWords_174 : decode cX0_ofWords 174 = .ok (.invokestatic 119, 3) := by decide +kernel
theorem dX0_ofWords_177 : decode cX0_ofWords 177 = .ok (.lreturn, 1) := by decide +kernel
theorem dX0_ofWords_178 : decode cX0_ofWords 178 = .ok (.lload_n 1, 1) := by decide +kernel
theorem dX0_ofWords_179 : decode cX0_ofWords 179 = .ok (.lload_n 3, 1) := by decide +kernel
theorem dX0_ofWords_180 : decode cX0_ofWords 180 = .ok (.lmul, 1) := by decide +kernel
theorem dX0_ofWords_181 : decode cX0_ofWords 181 = .ok (.lreturn, 1) := by decide +kernel
theorem dX0_ofWords_182 : decode cX0_ofWords 182 = .ok (.lload_n 1, 1) := by decide +kernel
theorem dX0_ofWords_183 : decode cX0_ofWords 183 = .ok (.lload_n 3, 1) := by decide +kernel
theorem dX0_ofWords_184 : decode cX0_ofWords 184 = .ok (.l2i, 1) := by decide +kernel
theorem dX0_ofWords_185 : decode cX0_ofWords 185 = .ok (.invokestatic 124, 3) := by decide +kernel
theorem dX0_ofWords_188 : decode cX0_ofWords 188 = .ok (.lreturn, 1) := by decide +kernel
theorem dX0_ofWords_189 : decode cX0_ofWords 189 = .ok (.lload_n 1, 1) := by decide +kernel
theorem dX0_ofWords_190 : decode cX0_ofWords 190 = .ok (.lload_n 3, 1) := by decide +kernel
theorem dX0_ofWords_191 : decode cX0_ofWords 191 = .ok (.ladd, 1) := by decide +kernel
theorem dX0_ofWords_192 : decode cX0_ofWords 192 = .ok (.lreturn, 1) := by decide +kernel
theorem dX0_ofWords_193 : decode cX0_ofWords 193 = .ok (.lload_n 1, 1) := by decide +kernel
theorem dX0_ofWords_194 : decode cX0_ofWords 194 = .ok (.lload_n 3, 1) := by decide +kernel
theorem dX0_ofWords_195 : decode cX0_ofWords 195 = .ok (.lsub, 1) := by decide +kernel
theorem dX0_ofWords_196 : decode cX0_ofWords 196 = .ok (.lreturn, 1) := by decide +kernel
theorem dX0_ofWords_197 : decode cX0_ofWords 197 = .ok (.lconst 0, 1) := by decide +kernel
theorem dX0_ofWords_198 : decode cX0_ofWords 198 = .ok (.lreturn, 1) := by decide +kernel
theorem dX0_ofWords_199 : decode cX0_ofWords 199 = .ok (.lload_n 1, 1) := by decide +kernel
theorem dX0_ofWords_200 : decode cX0_ofWords 200 = .ok (.lload_n 3, 1) := by decide +kernel
theorem dX0_ofWords_201 : decode cX0_ofWords 201 = .ok (.land, 1) := by decide +kernel
theorem dX0_ofWords_202 : decode cX0_ofWords 202 = .ok (.lreturn, 1) := by decide +kernel
theorem dX0_ofWords_203 : decode cX0_ofWords 203 = .ok (.lload_n 1, 1) := by decide +kernel
theorem dX0_ofWords_204 : decode cX0_ofWords 204 = .ok (.lload_n 3, 1) := by decide +kernel
theorem dX0_ofWords_205 : decode cX0_ofWords 205 = .ok (.lxor, 1) := by decide +kernel
theorem dX0_ofWords_206 : decode cX0_ofWords 206 = .ok (.lreturn, 1) := by decide +kernel
theorem dX0_ofWords_207 : decode cX0_ofWords 207 = .ok (.lload_n 1, 1) := by decide +kernel
theorem dX0_ofWords_208 : decode cX0_ofWords 208 = .ok (.lload_n 3, 1) := by decide +kernel
theorem dX0_ofWords_209 : decode cX0_ofWords 209 = .ok (.lor, 1) := by decide +kernel
theorem dX0_ofWords_210 : decode cX0_ofWords 210 = .ok (.lreturn, 1) := by decide +kernel
theorem dX0_ofWords_211 : decode cX0_ofWords 211 = .ok (.lload_n 1, 1) := by decide +kernel
theorem dX0_ofWords_212 : decode cX0_ofWords 212 = .ok (.ldc2_w 128, 3) := by decide +kernel
theorem dX0_ofWords_215 : decode cX0_ofWords 215 = .ok (.lxor, 1) := by decide +kernel
theorem dX0_ofWords_216 : decode cX0_ofWords 216 = .ok (.lreturn, 1) := by decide +kernel
theorem dX0_ofWords_217 : decode cX0_ofWords 217 = .ok (.lload_n 3, 1) := by decide +kernel
theorem dX0_ofWords_218 : decode cX0_ofWords 218 = .ok (.lreturn, 1) := by decide +kernel
set_option maxRecDepth 20000 in
theorem ggX0_ofHalves_X0_rightHalf : GoodIn wsX0_ofHalves wsX0_rightHalf := goodIn_r _ [5, 6] (by decide +kernel) (by decide +kernel)
set_option maxRecDepth 20000 in
theorem gX0_ofHalves_X0_rightHalf : GoodIn wsX0_ofHalves (va_wsS RX0 58 yX0_rightHalf wsX0_rightHalf) := goodIn_app (goodIn_of _ (by decide +kernel)) ggX0_ofHalves_X0_rightHalf
set_option maxRecDepth 20000 in
theorem ggX0_ofHalves_X0_leftHalf : GoodIn wsX0_ofHalves wsX0_leftHalf := goodIn_r _ [9, 6] (by decide +kernel) (by decide +kernel)
set_option maxRecDepth 20000 in
theorem gX0_ofHalves_X0_leftHalf : GoodIn wsX0_ofHalves (va_wsS RX0 112 yX0_leftHalf wsX0_leftHalf) := goodIn_app (goodIn_of _ (by decide +kernel)) ggX0_ofHalves_X0_leftHalf
theorem dX0_ofHalves_0 : decode cX0_ofHalves 0 = .ok (.iload_n 0, 1) := by decide +kernel
theorem dX0_ofHalves_1 : decode cX0_ofHalves 1 = .ok (.lookupswitch 108 #[(320, 51), (324, 63), (352, 78), (356, 90), (360, 102)], 51) := by decide +kernel
theorem dX0_ofHalves_52 : decode cX0_ofHalves 52 = .ok (.lload_n 3, 1) := by decide +kernel
theorem dX0_ofHalves_53 : decode cX0_ofHalves 53 = .ok (.ldc2_w 130, 3) := by decide +kernel
theorem dX0_ofHalves_56 : decode cX0_ofHalves 56 = .ok (.land, 1) := by decide +kernel
theorem dX0_ofHalves_57 : decode cX0_ofHalves 57 = .ok (.lload_n 1, 1) := by decide +kernel
theorem dX0_ofHalves_58 : decode cX0_ofHalves 58 = .ok (.invokestatic 58, 3) := by decide +kernel
theorem dX0_ofHalves_61 : decode cX0_ofHalves 61 = .ok (.i2l, 1) := by decide +kernel
theorem dX0_ofHalves_62 : decode cX0_ofHalves 62 = .ok (.lor, 1) := by decide +kernel
theorem dX0_ofHalves_63 : decode cX0_ofHalves 63 = .ok (.lreturn, 1) := by decide +kernel
theorem dX0_ofHalves_64 : decode cX0_ofHalves 64 = .ok (.lload_n 3, 1) := by decide +kernel
theorem dX0_ofHalves_65 : decode cX0_ofHalves 65 = .ok (.invokestatic 58, 3) := by decide +kernel
theorem dX0_ofHalves_68 : decode cX0_ofHalves 68 = .ok (.i2l, 1) := by decide +kernel
theorem dX0_ofHalves_69 : decode cX0_ofHalves 69 = .ok (.bipush 18, 2) := by decide +kernel
theorem dX0_ofHalves_71 : decode cX0_ofHalves 71 = .ok (.lshl, 1) := by decide +kernel
theorem dX0_ofHalves_72 : decode cX0_ofHalves 72 = .ok (.lload_n 1, 1) := by decide +kernel
theorem dX0_ofHalves_73 : decode cX0_ofHalves 73 = .ok (.invokestatic 58, 3) := by decide +kernel
theorem dX0_ofHalves_76 : decode cX0_ofHalves 76 = .ok (.i2l, 1) := by decide +kernel
theorem dX0_ofHalves_77 : decode cX0_ofHalves 77 = .ok (.lor, 1) := by decide +kernel
theorem dX0_ofHalves_78 : decode cX0_ofHalves 78 = .ok (.lreturn, 1) := by decide +kernel
theorem dX0_ofHalves_79 : decode cX0_ofHalves 79 = .ok (.lload_n 1, 1) := by decide +kernel
theorem dX0_ofHalves_80 : decode cX0_ofHalves 80 = .ok (.ldc2_w 130, 3) := by decide +kernel
theorem dX0_ofHalves_83 : decode cX0_ofHalves 83 = .ok (.land, 1) := by decide +kernel
theorem dX0_ofHalves_84 : decode cX0_ofHalves 84 = .ok (.lload_n 3, 1) := by decide +kernel
theorem dX0_ofHalves_85 : decode cX0_ofHalves 85 = .ok (.invokestatic 58, 3) := by decide +kernel
theorem dX0_ofHalves_88 : decode cX0_ofHalves 88 = .ok (.i2l, 1) := by decide +kernel
theorem dX0_ofHalves_89 : decode cX0_ofHalves 89 = .ok (.lor, 1) := by decide +kernel
theorem dX0_ofHalves_90 : decode cX0_ofHalves 90 = .ok (.lreturn, 1) := by decide +kernel
theorem dX0_ofHalves_91 : decode cX0_ofHalves 91 = .ok (.lload_n 1, 1) := by decide +kernel
theorem dX0_ofHalves_92 : decode cX0_ofHalves 92 = .ok (.ldc2_w 130, 3) := by decide +kernel
theorem dX0_ofHalves_95 : decode cX0_ofHalves 95 = .ok (.land, 1) := by decide +kernel
theorem dX0_ofHalves_96 : decode cX0_ofHalves 96 = .ok (.lload_n 3, 1) := by decide +kernel
theorem dX0_ofHalves_97 : decode cX0_ofHalves 97 = .ok (.invokestatic 112, 3) := by decide +kernel
theorem dX0_ofHalves_100 : decode cX0_ofHalves 100 = .ok (.i2l, 1) := by decide +kernel
theorem dX0_ofHalves_101 : decode cX0_ofHalves 101 = .ok (.lor, 1) := by decide +kernel
theorem dX0_ofHalves_102 : decode cX0_ofHalves 102 = .ok (.lreturn, 1) := by decide +kernel
theorem dX0_ofHalves_103 : decode cX0_ofHalves 103 = .ok (.lload_n 3, 1) := by decide +kernel
theorem dX0_ofHalves_104 : decode cX0_ofHalves 104 = .ok (.invokestatic 58, 3) := by decide +kernel
theorem dX0_ofHalves_107 : decode cX0_ofHalves 107 = .ok (.i2l, 1) := by decide +kernel
theorem dX0_ofHalves_108 : decode cX0_ofHalves 108 = .ok (.lreturn, 1) := by decide +kernel
theorem dX0_ofHalves_109 : decode cX0_ofHalves 109 = .ok (.lload_n 3, 1) := by decide +kernel
theorem dX0_ofHalves_110 : decode cX0_ofHalves 110 = .ok (.invokestatic 112, 3) := by decide +kernel
theorem dX0_ofHalves_113 : decode cX0_ofHalves 113 = .ok (.i2l, 1) := by decide +kernel
theorem dX0_ofHalves_114 : decode cX0_ofHalves 114 = .ok (.lreturn, 1) := by decide +kernel
theorem dX0_shifted_0 : decode cX0_shifted 0 = .ok (.iload_n 2, 1) := by decide +kernel
theorem dX0_shifted_1 : decode cX0_shifted 1 = .ok (.bipush 14, 2) := by decide +kernel
theorem dX0_shifted_3 : decode cX0_shifted 3 = .ok (.ishl, 1) := by decide +kernel
theorem dX0_shifted_4 : decode cX0_shifted 4 = .ok (.bipush 14, 2) := by decide +kernel
theorem dX0_shifted_6 : decode cX0_shifted 6 = .ok (.ishr, 1) := by decide +kernel
theorem dX0_shifted_7 : decode cX0_shifted 7 = .ok (.istore_n 3, 1) := by decide +kernel
theorem dX0_shifted_8 : decode cX0_shifted 8 = .ok (.iload_n 3, 1) := by decide +kernel
theorem dX0_shifted_9 : decode cX0_shifted 9 = .ok (.bipush 36, 2) := by decide +kernel
theorem dX0_shifted_11 : decode cX0_shifted 11 = .ok (.if_icmp .ge 9, 3) := by decide +kernel
theorem dX0_shifted_14 : decode cX0_shifted 14 = .ok (.iload_n 3, 1) := by decide +kernel
theorem dX0_shifted_15 : decode cX0_shifted 15 = .ok (.bipush (-36), 2) := by decide +kernel
theorem dX0_shifted_17 : decode cX0_shifted 17 = .ok (.if_icmp .gt 5, 3) := by decide +kernel
theorem dX0_shifted_20 : decode cX0_shifted 20 = .ok (.lconst 0, 1) := by decide +kernel
theorem dX0_shifted_21 : decode cX0_shifted 21 = .ok (.lreturn, 1) := by decide +kernel
theorem dX0_shifted_22 : decode cX0_shifted 22 = .ok (.iload_n 3, 1) := by decide +kernel
theorem dX0_shifted_23 : decode cX0_shifted 23 = .ok (.ifCond .lt 9, 3) := by decide +kernel
theorem dX0_shifted_26 : decode cX0_shifted 26 = .ok (.lload_n 0, 1) := by decide +kernel
theorem dX0_shifted_27 : decode cX0_shifted 27 = .ok (.iload_n 3, 1) := by decide +kernel
theorem dX0_shifted_28 : decode cX0_shifted 28 = .ok (.lshl, 1) := by decide +kernel
theorem dX0_shifted_29 : decode cX0_shifted 29 = .ok (.goto 7, 3) := by decide +kernel
theorem dX0_shifted_32 : decode cX0_shifted 32 = .ok (.lload_n 0, 1) := by decide +kernel
theorem dX0_shifted_33 : decode cX0_shifted 33 = .ok (.iload_n 3, 1) := by decide +kernel
theorem dX0_shifted_34 : decode cX0_shifted 34 = .ok (.ineg, 1) := by decide +kernel
theorem dX0_shifted_35 : decode cX0_shifted 35 = .ok (.lshr, 1) := by decide +kernel
theorem dX0_shifted_36 : decode cX0_shifted 36 = .ok (.lreturn, 1) := by decide +kernel
set_option maxRecDepth 20000 in
theorem ggX0_divide_X0_number : GoodIn wsX0_divide wsX0_number := goodIn_r _ [7] (by decide +kernel) (by decide +kernel)
set_option maxRecDepth 20000 in
theorem gX0_divide_X0_number : GoodIn wsX0_divide (va_wsS RX0 115 yX0_number wsX0_number) := goodIn_app (goodIn_of _ (by decide +kernel)) ggX0_divide_X0_number
set_option maxRecDepth 20000 in
theorem ggX0_divide_X0_store : GoodIn wsX0_divide wsX0_store := goodIn_r _ [11, 1, 12, 13, 14, 15, 16, 17] (by decide +kernel) (by decide +kernel)
set_option maxRecDepth 20000 in
theorem gX0_divide_X0_store : GoodIn wsX0_divide (wsV RX0 30 RX0 yX0_store wsX0_store) := goodIn_app (goodIn_of _ (by decide +kernel)) ggX0_divide_X0_store
theorem dX0_divide_0 : decode cX0_divide 0 = .ok (.aload_n 0, 1) := by decide +kernel
theorem dX0_divide_1 : decode cX0_divide 1 = .ok (.getfield 9, 3) := by decide +kernel
theorem dX0_divide_4 : decode cX0_divide 4 = .ok (.iload_n 1, 1) := by decide +kernel
theorem dX0_divide_5 : decode cX0_divide 5 = .ok (.laload, 1) := by decide +kernel
theorem dX0_divide_6 : decode cX0_divide 6 = .ok (.invokestatic 115, 3) := by decide +kernel
theorem dX0_divide_9 : decode cX0_divide 9 = .ok (.lstore 4, 2) := by decide +kernel
theorem dX0_divide_11 : decode cX0_divide 11 = .ok (.lload_n 2, 1) := by decide +kernel
theorem dX0_divide_12 : decode cX0_divide 12 = .ok (.invokestatic 115, 3) := by decide +kernel
theorem dX0_divide_15 : decode cX0_divide 15 = .ok (.lstore 6, 2) := by decide +kernel
theorem dX0_divide_17 : decode cX0_divide 17 = .ok (.lload 6, 2) := by decide +kernel
theorem dX0_divide_19 : decode cX0_divide 19 = .ok (.lconst 0, 1) := by decide +kernel
theorem dX0_divide_20 : decode cX0_divide 20 = .ok (.lcmp, 1) := by decide +kernel
theorem dX0_divide_21 : decode cX0_divide 21 = .ok (.ifCond .eq 21, 3) := by decide +kernel
theorem dX0_divide_24 : decode cX0_divide 24 = .ok (.lload 6, 2) := by decide +kernel
theorem dX0_divide_26 : decode cX0_divide 26 = .ok (.ldc2_w 128, 3) := by decide +kernel
theorem dX0_divide_29 : decode cX0_divide 29 = .ok (.lcmp, 1) := by decide +kernel
theorem dX0_divide_30 : decode cX0_divide 30 = .ok (.ifCond .ne 14, 3) := by decide +kernel
theorem dX0_divide_33 : decode cX0_divide 33 = .ok (.lload 4, 2) := by decide +kernel
theorem dX0_divide_35 : decode cX0_divide 35 = .ok (.ldc2_w 132, 3) := by decide +kernel
theorem dX0_divide_38 : decode cX0_divide 38 = .ok (.lcmp, 1) := by decide +kernel
theorem dX0_divide_39 : decode cX0_divide 39 = .ok (.ifCond .ne 5, 3) := by decide +kernel
theorem dX0_divide_42 : decode cX0_divide 42 = .ok (.iconst 3, 1) := by decide +kernel
theorem dX0_divide_43 : decode cX0_divide 43 = .ok (.ireturn, 1) := by decide +kernel
theorem dX0_divide_44 : decode cX0_divide 44 = .ok (.aload_n 0, 1) := by decide +kernel
theorem dX0_divide_45 : decode cX0_divide 45 = .ok (.iload_n 1, 1) := by decide +kernel
theorem dX0_divide_46 : decode cX0_divide 46 = .ok (.lload 4, 2) := by decide +kernel
theorem dX0_divide_48 : decode cX0_divide 48 = .ok (.lload 6, 2) := by decide +kernel
theorem dX0_divide_50 : decode cX0_divide 50 = .ok (.ldiv, 1) := by decide +kernel
theorem dX0_divide_51 : decode cX0_divide 51 = .ok (.invokevirtual 30, 3) := by decide +kernel
theorem dX0_divide_54 : decode cX0_divide 54 = .ok (.aload_n 0, 1) := by decide +kernel
theorem dX0_divide_55 : decode cX0_divide 55 = .ok (.iload_n 1, 1) := by decide +kernel
theorem dX0_divide_56 : decode cX0_divide 56 = .ok (.iconst 1, 1) := by decide +kernel
theorem dX0_divide_57 : decode cX0_divide 57 = .ok (.iadd, 1) := by decide +kernel
theorem dX0_divide_58 : decode cX0_divide 58 = .ok (.bipush 15, 2) := by decide +kernel
theorem dX0_divide_60 : decode cX0_divide 60 = .ok (.iand, 1) := by decide +kernel
theorem dX0_divide_61 : decode cX0_divide 61 = .ok (.lload 4, 2) := by decide +kernel
theorem dX0_divide_63 : decode cX0_divide 63 = .ok (.lload 6, 2) := by decide +kernel
theorem dX0_divide_65 : decode cX0_divide 65 = .ok (.lrem, 1) := by decide +kernel
theorem dX0_divide_66 : decode cX0_divide 66 = .ok (.invokevirtual 30, 3) := by decide +kernel
theorem dX0_divide_69 : decode cX0_divide 69 = .ok (.iconst 0, 1) := by decide +kernel
theorem dX0_divide_70 : decode cX0_divide 70 = .ok (.ireturn, 1) := by decide +kernel
set_option maxRecDepth 20000 in
theorem ggX0_exchange_X0_store : GoodIn wsX0_exchange wsX0_store := goodIn_r _ [6, 1, 7, 8, 9, 10, 11, 12] (by decide +kernel) (by decide +kernel)
set_option maxRecDepth 20000 in
theorem gX0_exchange_X0_store : GoodIn wsX0_exchange (wsV RX0 30 RX0 yX0_store wsX0_store) := goodIn_app (goodIn_of _ (by decide +kernel)) ggX0_exchange_X0_store
theorem dX0_exchange_0 : decode cX0_exchange 0 = .ok (.aload_n 0, 1) := by decide +kernel
theorem dX0_exchange_1 : decode cX0_exchange 1 = .ok (.getfield 9, 3) := by decide +kernel
theorem dX0_exchange_4 : decode cX0_exchange 4 = .ok (.iload_n 1, 1) := by decide +kernel
theorem dX0_exchange_5 : decode cX0_exchange 5 = .ok (.laload, 1) := by decide +kernel
theorem dX0_exchange_6 : decode cX0_exchange 6 = .ok (.lstore_n 3, 1) := by decide +kernel
theorem dX0_exchange_7 : decode cX0_exchange 7 = .ok (.aload_n 0, 1) := by decide +kernel
theorem dX0_exchange_8 : decode cX0_exchange 8 = .ok (.iload_n 1, 1) := by decide +kernel
theorem dX0_exchange_9 : decode cX0_exchange 9 = .ok (.aload_n 0, 1) := by decide +kernel
theorem dX0_exchange_10 : decode cX0_exchange 10 = .ok (.getfield 9, 3) := by decide +kernel
theorem dX0_exchange_13 : decode cX0_exchange 13 = .ok (.iload_n 2, 1) := by decide +kernel
theorem dX0_exchange_14 : decode cX0_exchange 14 = .ok (.laload, 1) := by decide +kernel
theorem dX0_exchange_15 : decode cX0_exchange 15 = .ok (.invokevirtual 30, 3) := by decide +kernel
theorem dX0_exchange_18 : decode cX0_exchange 18 = .ok (.aload_n 0, 1) := by decide +kernel
theorem dX0_exchange_19 : decode cX0_exchange 19 = .ok (.iload_n 2, 1) := by decide +kernel
theorem dX0_exchange_20 : decode cX0_exchange 20 = .ok (.lload_n 3, 1) := by decide +kernel
theorem dX0_exchange_21 : decode cX0_exchange 21 = .ok (.invokevirtual 30, 3) := by decide +kernel
theorem dX0_exchange_24 : decode cX0_exchange 24 = .ok (.iconst 0, 1) := by decide +kernel
theorem dX0_exchange_25 : decode cX0_exchange 25 = .ok (.ireturn, 1) := by decide +kernel
theorem dX0_jump_0 : decode cX0_jump 0 = .ok (.aload_n 0, 1) := by decide +kernel
theorem dX0_jump_1 : decode cX0_jump 1 = .ok (.iload_n 1, 1) := by decide +kernel
theorem dX0_jump_2 : decode cX0_jump 2 = .ok (.sipush 4095, 3) := by decide +kernel
theorem dX0_jump_5 : decode cX0_jump 5 = .ok (.iand, 1) := by decide +kernel
theorem dX0_jump_6 : decode cX0_jump 6 = .ok (.putfield 17, 3) := by decide +kernel
theorem dX0_jump_9 : decode cX0_jump 9 = .ok (.iconst 0, 1) := by decide +kernel
theorem dX0_jump_10 : decode cX0_jump 10 = .ok (.ireturn, 1) := by decide +kernel
set_option maxRecDepth 20000 in
theorem ggX0_leaveNextPlaceAndJump_X0_store : GoodIn wsX0_leaveNextPlaceAndJump wsX0_store := goodIn_r _ [6, 7, 8, 13, 14, 15, 16, 17] (by decide +kernel) (by decide +kernel)
set_option maxRecDepth 20000 in
theorem gX0_leaveNextPlaceAndJump_X0_store : GoodIn wsX0_leaveNextPlaceAndJump (wsV RX0 30 RX0 yX0_store wsX0_store) := goodIn_app (goodIn_of _ (by decide +kernel)) ggX0_leaveNextPlaceAndJump_X0_store
set_option maxRecDepth 20000 in
theorem ggX0_leaveNextPlaceAndJump_X0_jump : GoodIn wsX0_leaveNextPlaceAndJump wsX0_jump := goodIn_r _ [12, 1, 13, 14, 15, 16, 17] (by decide +kernel) (by decide +kernel)
set_option maxRecDepth 20000 in
theorem gX0_leaveNextPlaceAndJump_X0_jump : GoodIn wsX0_leaveNextPlaceAndJump (wsV RX0 69 RX0 yX0_jump wsX0_jump) := goodIn_app (goodIn_of _ (by decide +kernel)) ggX0_leaveNextPlaceAndJump_X0_jump
theorem dX0_leaveNextPlaceAndJump_0 : decode cX0_leaveNextPlaceAndJump 0 = .ok (.aload_n 0, 1) := by decide +kernel
theorem dX0_leaveNextPlaceAndJump_1 : decode cX0_leaveNextPlaceAndJump 1 = .ok (.iload_n 1, 1) := by decide +kernel
theorem dX0_leaveNextPlaceAndJump_2 : decode cX0_leaveNextPlaceAndJump 2 = .ok (.aload_n 0, 1) := by decide +kernel
theorem dX0_leaveNextPlaceAndJump_3 : decode cX0_leaveNextPlaceAndJump 3 = .ok (.getfield 17, 3) := by decide +kernel
theorem dX0_leaveNextPlaceAndJump_6 : decode cX0_leaveNextPlaceAndJump 6 = .ok (.i2l, 1) := by decide +kernel
theorem dX0_leaveNextPlaceAndJump_7 : decode cX0_leaveNextPlaceAndJump 7 = .ok (.invokevirtual 30, 3) := by decide +kernel
theorem dX0_leaveNextPlaceAndJump_10 : decode cX0_leaveNextPlaceAndJump 10 = .ok (.aload_n 0, 1) := by decide +kernel
theorem dX0_leaveNextPlaceAndJump_11 : decode cX0_leaveNextPlaceAndJump 11 = .ok (.iload_n 1, 1) := by decide +kernel
theorem dX0_leaveNextPlaceAndJump_12 : decode cX0_leaveNextPlaceAndJump 12 = .ok (.iconst 1, 1) := by decide +kernel
theorem dX0_leaveNextPlaceAndJump_13 : decode cX0_leaveNextPlaceAndJump 13 = .ok (.iadd, 1) := by decide +kernel
theorem dX0_leaveNextPlaceAndJump_14 : decode cX0_leaveNextPlaceAndJump 14 = .ok (.invokevirtual 69, 3) := by decide +kernel
theorem dX0_leaveNextPlaceAndJump_17 : decode cX0_leaveNextPlaceAndJump 17 = .ok (.ireturn, 1) := by decide +kernel
set_option maxRecDepth 20000 in
theorem ggX0_pushNextPlace_X0_push : GoodIn wsX0_pushNextPlace wsX0_push := goodIn_r _ [6, 7, 8, 9, 10, 5, 11, 12, 13, 14, 15, 16, 17, 18, 19, 20, 21, 26, 27, 28, 29, 30] (by decide +kernel) (by decide +kernel)
set_option maxRecDepth 20000 in
theorem gX0_pushNextPlace_X0_push : GoodIn wsX0_pushNextPlace (wsV RX0 93 RX0 yX0_push wsX0_push) := goodIn_app (goodIn_of _ (by decide +kernel)) ggX0_pushNextPlace_X0_push
set_option maxRecDepth 20000 in
theorem ggX0_pushNextPlace_X0_jump : GoodIn wsX0_pushNextPlace wsX0_jump := goodIn_r _ [25, 1, 26, 27, 28, 29, 30] (by decide +kernel) (by decide +kernel)
set_option maxRecDepth 20000 in
theorem gX0_pushNextPlace_X0_jump : GoodIn wsX0_pushNextPlace (wsV RX0 69 RX0 yX0_jump wsX0_jump) := goodIn_app (goodIn_of _ (by decide +kernel)) ggX0_pushNextPlace_X0_jump
theorem dX0_pushNextPlace_0 : decode cX0_pushNextPlace 0 = .ok (.aload_n 0, 1) := by decide +kernel
theorem dX0_pushNextPlace_1 : decode cX0_pushNextPlace 1 = .ok (.iload_n 1, 1) := by decide +kernel
theorem dX0_pushNextPlace_2 : decode cX0_pushNextPlace 2 = .ok (.aload_n 0, 1) := by decide +kernel
theorem dX0_pushNextPlace_3 : decode cX0_pushNextPlace 3 = .ok (.getfield 17, 3) := by decide +kernel
theorem dX0_pushNextPlace_6 : decode cX0_pushNextPlace 6 = .ok (.i2l, 1) := by decide +kernel
theorem dX0_pushNextPlace_7 : decode cX0_pushNextPlace 7 = .ok (.invokevirtual 93, 3) := by decide +kernel
theorem dX0_pushNextPlace_10 : decode cX0_pushNextPlace 10 = .ok (.istore_n 3, 1) := by decide +kernel
theorem dX0_pushNextPlace_11 : decode cX0_pushNextPlace 11 = .ok (.iload_n 3, 1) := by decide +kernel
theorem dX0_pushNextPlace_12 : decode cX0_pushNextPlace 12 = .ok (.ifCond .ne 11, 3) := by decide +kernel
theorem dX0_pushNextPlace_15 : decode cX0_pushNextPlace 15 = .ok (.aload_n 0, 1) := by decide +kernel
theorem dX0_pushNextPlace_16 : decode cX0_pushNextPlace 16 = .ok (.iload_n 2, 1) := by decide +kernel
theorem dX0_pushNextPlace_17 : decode cX0_pushNextPlace 17 = .ok (.invokevirtual 69, 3) := by decide +kernel
theorem dX0_pushNextPlace_20 : decode cX0_pushNextPlace 20 = .ok (.goto 4, 3) := by decide +kernel
theorem dX0_pushNextPlace_23 : decode cX0_pushNextPlace 23 = .ok (.iload_n 3, 1) := by decide +kernel
theorem dX0_pushNextPlace_24 : decode cX0_pushNextPlace 24 = .ok (.ireturn, 1) := by decide +kernel
set_option maxRecDepth 20000 in
theorem ggX0_push_X0_rightHalf : GoodIn wsX0_push wsX0_rightHalf := goodIn_r _ [6, 2] (by decide +kernel) (by decide +kernel)
set_option maxRecDepth 20000 in
theorem gX0_push_X0_rightHalf : GoodIn wsX0_push (va_wsS RX0 58 yX0_rightHalf wsX0_rightHalf) := goodIn_app (goodIn_of _ (by decide +kernel)) ggX0_push_X0_rightHalf
set_option maxRecDepth 20000 in
theorem ggX0_push_X0_moveTop : GoodIn wsX0_push wsX0_moveTop := goodIn_r _ [10, 1, 11, 2, 3, 4, 5, 6, 12, 13, 14, 15, 16, 17, 18, 19, 20, 21] (by decide +kernel) (by decide +kernel)
set_option maxRecDepth 20000 in
theorem gX0_push_X0_moveTop : GoodIn wsX0_push (wsV RX0 134 RX0 yX0_moveTop wsX0_moveTop) := goodIn_app (goodIn_of _ (by decide +kernel)) ggX0_push_X0_moveTop
set_option maxRecDepth 20000 in
theorem ggX0_push_X0_store : GoodIn wsX0_push wsX0_store := goodIn_r _ [15, 1, 16, 17, 18, 19, 20, 21] (by decide +kernel) (by decide +kernel)
set_option maxRecDepth 20000 in
theorem gX0_push_X0_store : GoodIn wsX0_push (wsV RX0 30 RX0 yX0_store wsX0_store) := goodIn_app (goodIn_of _ (by decide +kernel)) ggX0_push_X0_store
theorem dX0_push_0 : decode cX0_push 0 = .ok (.aload_n 0, 1) := by decide +kernel
theorem dX0_push_1 : decode cX0_push 1 = .ok (.getfield 9, 3) := by decide +kernel
theorem dX0_push_4 : decode cX0_push 4 = .ok (.iload_n 1, 1) := by decide +kernel
theorem dX0_push_5 : decode cX0_push 5 = .ok (.laload, 1) := by decide +kernel
theorem dX0_push_6 : decode cX0_push 6 = .ok (.invokestatic 58, 3) := by decide +kernel
theorem dX0_push_9 : decode cX0_push 9 = .ok (.iconst 1, 1) := by decide +kernel
theorem dX0_push_10 : decode cX0_push 10 = .ok (.iadd, 1) := by decide +kernel
theorem dX0_push_11 : decode cX0_push 11 = .ok (.ldc 34, 2) := by decide +kernel
theorem dX0_push_13 : decode cX0_push 13 = .ok (.iand, 1) := by decide +kernel
theorem dX0_push_14 : decode cX0_push 14 = .ok (.istore 4, 2) := by decide +kernel
theorem dX0_push_16 : decode cX0_push 16 = .ok (.iload 4, 2) := by decide +kernel
theorem dX0_push_18 : decode cX0_push 18 = .ok (.sipush 4096, 3) := by decide +kernel
theorem dX0_push_21 : decode cX0_push 21 = .ok (.if_icmp .lt 5, 3) := by decide +kernel
theorem dX0_push_24 : decode cX0_push 24 = .ok (.iconst 2, 1) := by decide +kernel
theorem dX0_push_25 : decode cX0_push 25 = .ok (.ireturn, 1) := by decide +kernel
theorem dX0_push_26 : decode cX0_push 26 = .ok (.aload_n 0, 1) := by decide +kernel
theorem dX0_push_27 : decode cX0_push 27 = .ok (.iload_n 1, 1) := by decide +kernel
theorem dX0_push_28 : decode cX0_push 28 = .ok (.iconst 1, 1) := by decide +kernel
theorem dX0_push_29 : decode cX0_push 29 = .ok (.invokevirtual 134, 3) := by decide +kernel
theorem dX0_push_32 : decode cX0_push 32 = .ok (.aload_n 0, 1) := by decide +kernel
theorem dX0_push_33 : decode cX0_push 33 = .ok (.iload 4, 2) := by decide +kernel
theorem dX0_push_35 : decode cX0_push 35 = .ok (.lload_n 2, 1) := by decide +kernel
theorem dX0_push_36 : decode cX0_push 36 = .ok (.invokevirtual 30, 3) := by decide +kernel
theorem dX0_push_39 : decode cX0_push 39 = .ok (.iconst 0, 1) := by decide +kernel
theorem dX0_push_40 : decode cX0_push 40 = .ok (.ireturn, 1) := by decide +kernel
set_option maxRecDepth 20000 in
theorem ggX0_popToMemory_X0_rightHalf : GoodIn wsX0_popToMemory wsX0_rightHalf := goodIn_r _ [5, 6] (by decide +kernel) (by decide +kernel)
set_option maxRecDepth 20000 in
theorem gX0_popToMemory_X0_rightHalf : GoodIn wsX0_popToMemory (va_wsS RX0 58 yX0_rightHalf wsX0_rightHalf) := goodIn_app (goodIn_of _ (by decide +kernel)) ggX0_popToMemory_X0_rightHalf
set_option maxRecDepth 20000 in
theorem ggX0_popToMemory_X0_store : GoodIn wsX0_popToMemory wsX0_store := goodIn_r _ [10, 1, 11, 17, 18, 19, 20, 21] (by decide +kernel) (by decide +kernel)
set_option maxRecDepth 20000 in
theorem gX0_popToMemory_X0_store : GoodIn wsX0_popToMemory (wsV RX0 30 RX0 yX0_store wsX0_store) := goodIn_app (goodIn_of _ (by decide +kernel)) ggX0_popToMemory_X0_store
set_option maxRecDepth 20000 in
theorem ggX0_popToMemory_X0_moveTop : GoodIn wsX0_popToMemory wsX0_moveTop := goodIn_r _ [15, 1, 16, 6, 2, 3, 4, 5, 7, 8, 9, 10, 11, 17, 18, 19, 20, 21] (by decide +kernel) (by decide +kernel)
set_option maxRecDepth 20000 in
theorem gX0_popToMemory_X0_moveTop : GoodIn wsX0_popToMemory (wsV RX0 134 RX0 yX0_moveTop wsX0_moveTop) := goodIn_app (goodIn_of _ (by decide +kernel)) ggX0_popToMemory_X0_moveTop
theorem dX0_popToMemory_0 : decode cX0_popToMemory 0 = .ok (.aload_n 0, 1) := by decide +kernel
theorem dX0_popToMemory_1 : decode cX0_popToMemory 1 = .ok (.getfield 9, 3) := by decide +kernel
theorem dX0_popToMemory_4 : decode cX0_popToMemory 4 = .ok (.iload_n 1, 1) := by decide +kernel
theorem dX0_popToMemory_5 : decode cX0_popToMemory 5 = .ok (.laload, 1) := by decide +kernel
theorem dX0_popToMemory_6 : decode cX0_popToMemory 6 = .ok (.invokestatic 58, 3) := by decide +kernel
theorem dX0_popToMemory_9 : decode cX0_popToMemory 9 = .ok (.istore_n 3, 1) := by decide +kernel
theorem dX0_popToMemory_10 : decode cX0_popToMemory 10 = .ok (.iload_n 3, 1) := by decide +kernel
theorem dX0_popToMemory_11 : decode cX0_popToMemory 11 = .ok (.sipush 4096, 3) := by decide +kernel
theorem dX0_popToMemory_14 : decode cX0_popToMemory 14 = .ok (.if_icmp .lt 5, 3) := by decide +kernel
theorem dX0_popToMemory_17 : decode cX0_popToMemory 17 = .ok (.iconst 2, 1) := by decide +kernel
theorem dX0_popToMemory_18 : decode cX0_popToMemory 18 = .ok (.ireturn, 1) := by decide +kernel
theorem dX0_popToMemory_19 : decode cX0_popToMemory 19 = .ok (.aload_n 0, 1) := by decide +kernel
theorem dX0_popToMemory_20 : decode cX0_popToMemory 20 = .ok (.iload_n 2, 1) := by decide +kernel
theorem dX0_popToMemory_21 : decode cX0_popToMemory 21 = .ok (.aload_n 0, 1) := by decide +kernel
theorem dX0_popToMemory_22 : decode cX0_popToMemory 22 = .ok (.getfield 9, 3) := by decide +kernel
theorem dX0_popToMemory_25 : decode cX0_popToMemory 25 = .ok (.iload_n 3, 1) := by decide +kernel
theorem dX0_popToMemory_26 : decode cX0_popToMemory 26 = .ok (.laload, 1) := by decide +kernel
theorem dX0_popToMemory_27 : decode cX0_popToMemory 27 = .ok (.invokevirtual 30, 3) := by decide +kernel
theorem dX0_popToMemory_30 : decode cX0_popToMemory 30 = .ok (.aload_n 0, 1) := by decide +kernel
theorem dX0_popToMemory_31 : decode cX0_popToMemory 31 = .ok (.iload_n 1, 1) := by decide +kernel
theorem dX0_popToMemory_32 : decode cX0_popToMemory 32 = .ok (.iconst (-1), 1) := by decide +kernel
theorem dX0_popToMemory_33 : decode cX0_popToMemory 33 = .ok (.invokevirtual 134, 3) := by decide +kernel
theorem dX0_popToMemory_36 : decode cX0_popToMemory 36 = .ok (.iconst 0, 1) := by decide +kernel
theorem dX0_popToMemory_37 : decode cX0_popToMemory 37 = .ok (.ireturn, 1) := by decide +kernel
set_option maxRecDepth 20000 in
theorem ggX0_popToPc_X0_rightHalf : GoodIn wsX0_popToPc wsX0_rightHalf := goodIn_r _ [5, 6] (by decide +kernel) (by decide +kernel)
set_option maxRecDepth 20000 in
theorem gX0_popToPc_X0_rightHalf : GoodIn wsX0_popToPc (va_wsS RX0 58 yX0_rightHalf wsX0_rightHalf) := goodIn_app (goodIn_of _ (by decide +kernel)) ggX0_popToPc_X0_rightHalf
set_option maxRecDepth 20000 in
theorem ggX0_popToPc_X0_jump : GoodIn wsX0_popToPc wsX0_jump := goodIn_r _ [10, 11, 22, 23, 24, 25, 26] (by decide +kernel) (by decide +kernel)
set_option maxRecDepth 20000 in
theorem gX0_popToPc_X0_jump : GoodIn wsX0_popToPc (wsV RX0 69 RX0 yX0_jump wsX0_jump) := goodIn_app (goodIn_of _ (by decide +kernel)) ggX0_popToPc_X0_jump
set_option maxRecDepth 20000 in
theorem ggX0_popToPc_X0_moveTop : GoodIn wsX0_popToPc wsX0_moveTop := goodIn_r _ [15, 1, 16, 6, 2, 3, 4, 5, 17, 18, 19, 20, 21, 22, 23, 24, 25, 26] (by decide +kernel) (by decide +kernel)
set_option maxRecDepth 20000 in
theorem gX0_popToPc_X0_moveTop : GoodIn wsX0_popToPc (wsV RX0 134 RX0 yX0_moveTop wsX0_moveTop) := goodIn_app (goodIn_of _ (by decide +kernel)) ggX0_popToPc_X0_moveTop
theorem dX0_popToPc_0 : decode cX0_popToPc 0 = .ok (.aload_n 0, 1) := by decide +kernel
theorem dX0_popToPc_1 : decode cX0_popToPc 1 = .ok (.getfield 9, 3) := by decide +kernel
theorem dX0_popToPc_4 : decode cX0_popToPc 4 = .ok (.iload_n 1, 1) := by decide +kernel
theorem dX0_popToPc_5 : decode cX0_popToPc 5 = .ok (.laload, 1) := by decide +kernel
theorem dX0_popToPc_6 : decode cX0_popToPc 6 = .ok (.invokestatic 58, 3) := by decide +kernel
theorem dX0_popToPc_9 : decode cX0_popToPc 9 = .ok (.istore_n 2, 1) := by decide +kernel
theorem dX0_popToPc_10 : decode cX0_popToPc 10 = .ok (.iload_n 2, 1) := by decide +kernel
theorem dX0_popToPc_11 : decode cX0_popToPc 11 = .ok (.sipush 4096, 3) := by decide +kernel
theorem dX0_popToPc_14 : decode cX0_popToPc 14 = .ok (.if_icmp .lt 5, 3) := by decide +kernel
theorem dX0_popToPc_17 : decode cX0_popToPc 17 = .ok (.iconst 2, 1) := by decide +kernel
theorem dX0_popToPc_18 : decode cX0_popToPc 18 = .ok (.ireturn, 1) := by decide +kernel
theorem dX0_popToPc_19 : decode cX0_popToPc 19 = .ok (.aload_n 0, 1) := by decide +kernel
theorem dX0_popToPc_20 : decode cX0_popToPc 20 = .ok (.aload_n 0, 1) := by decide +kernel
theorem dX0_popToPc_21 : decode cX0_popToPc 21 = .ok (.getfield 9, 3) := by decide +kernel
theorem dX0_popToPc_24 : decode cX0_popToPc 24 = .ok (.iload_n 2, 1) := by decide +kernel
theorem dX0_popToPc_25 : decode cX0_popToPc 25 = .ok (.laload, 1) := by decide +kernel
theorem dX0_popToPc_26 : decode cX0_popToPc 26 = .ok (.invokestatic 58, 3) := by decide +kernel
theorem dX0_popToPc_29 : decode cX0_popToPc 29 = .ok (.invokevirtual 69, 3) := by decide +kernel
theorem dX0_popToPc_32 : decode cX0_popToPc 32 = .ok (.pop, 1) := by decide +kernel
theorem dX0_popToPc_33 : decode cX0_popToPc 33 = .ok (.aload_n 0, 1) := by decide +kernel
theorem dX0_popToPc_34 : decode cX0_popToPc 34 = .ok (.iload_n 1, 1) := by decide +kernel
theorem dX0_popToPc_35 : decode cX0_popToPc 35 = .ok (.iconst (-1), 1) := by decide +kernel
theorem dX0_popToPc_36 : decode cX0_popToPc 36 = .ok (.invokevirtual 134, 3) := by decide +kernel
theorem dX0_popToPc_39 : decode cX0_popToPc 39 = .ok (.iconst 0, 1) := by decide +kernel
theorem dX0_popToPc_40 : decode cX0_popToPc 40 = .ok (.ireturn, 1) := by decide +kernel
set_option maxRecDepth 20000 in
theorem ggX0_moveTop_X0_rightHalf : GoodIn wsX0_moveTop wsX0_rightHalf := goodIn_r _ [7, 3] (by decide +kernel) (by decide +kernel)
set_option maxRecDepth 20000 in
theorem gX0_moveTop_X0_rightHalf : GoodIn wsX0_moveTop (va_wsS RX0 58 yX0_rightHalf wsX0_rightHalf) := goodIn_app (goodIn_of _ (by decide +kernel)) ggX0_moveTop_X0_rightHalf
set_option maxRecDepth 20000 in
theorem ggX0_moveTop_X0_store : GoodIn wsX0_moveTop wsX0_store := goodIn_r _ [11, 1, 12, 13, 14, 15, 16, 17] (by decide +kernel) (by decide +kernel)
set_option maxRecDepth 20000 in
theorem gX0_moveTop_X0_store : GoodIn wsX0_moveTop (wsV RX0 30 RX0 yX0_store wsX0_store) := goodIn_app (goodIn_of _ (by decide +kernel)) ggX0_moveTop_X0_store
theorem dX0_moveTop_0 : decode cX0_moveTop 0 = .ok (.aload_n 0, 1) := by decide +kernel
theorem dX0_moveTop_1 : decode cX0_moveTop 1 = .ok (.getfield 9, 3) := by decide +kernel
theorem dX0_moveTop_4 : decode cX0_moveTop 4 = .ok (.iload_n 1, 1) := by decide +kernel
theorem dX0_moveTop_5 : decode cX0_moveTop 5 = .ok (.laload, 1) := by decide +kernel
theorem dX0_moveTop_6 : decode cX0_moveTop 6 = .ok (.lstore_n 3, 1) := by decide +kernel
theorem dX0_moveTop_7 : decode cX0_moveTop 7 = .ok (.aload_n 0, 1) := by decide +kernel
theorem dX0_moveTop_8 : decode cX0_moveTop 8 = .ok (.iload_n 1, 1) := by decide +kernel
theorem dX0_moveTop_9 : decode cX0_moveTop 9 = .ok (.lload_n 3, 1) := by decide +kernel
theorem dX0_moveTop_10 : decode cX0_moveTop 10 = .ok (.ldc2_w 130, 3) := by decide +kernel
theorem dX0_moveTop_13 : decode cX0_moveTop 13 = .ok (.land, 1) := by decide +kernel
theorem dX0_moveTop_14 : decode cX0_moveTop 14 = .ok (.lload_n 3, 1) := by decide +kernel
theorem dX0_moveTop_15 : decode cX0_moveTop 15 = .ok (.invokestatic 58, 3) := by decide +kernel
theorem dX0_moveTop_18 : decode cX0_moveTop 18 = .ok (.iload_n 2, 1) := by decide +kernel
theorem dX0_moveTop_19 : decode cX0_moveTop 19 = .ok (.iadd, 1) := by decide +kernel
theorem dX0_moveTop_20 : decode cX0_moveTop 20 = .ok (.ldc 34, 2) := by decide +kernel
theorem dX0_moveTop_22 : decode cX0_moveTop 22 = .ok (.iand, 1) := by decide +kernel
theorem dX0_moveTop_23 : decode cX0_moveTop 23 = .ok (.i2l, 1) := by decide +kernel
theorem dX0_moveTop_24 : decode cX0_moveTop 24 = .ok (.lor, 1) := by decide +kernel
theorem dX0_moveTop_25 : decode cX0_moveTop 25 = .ok (.invokevirtual 30, 3) := by decide +kernel
theorem dX0_moveTop_28 : decode cX0_moveTop 28 = .ok (.return_, 1) := by decide +kernel
theorem dX0_isTest_0 : decode cX0_isTest 0 = .ok (.iload_n 0, 1) := by decide +kernel
theorem dX0_isTest_1 : decode cX0_isTest 1 = .ok (.sipush 192, 3) := by decide +kernel
theorem dX0_isTest_4 : decode cX0_isTest 4 = .ok (.if_icmp .lt 14, 3) := by decide +kernel
theorem dX0_isTest_7 : decode cX0_isTest 7 = .ok (.iload_n 0, 1) := by decide +kernel
theorem dX0_isTest_8 : decode cX0_isTest 8 = .ok (.sipush 255, 3) := by decide +kernel
theorem dX0_isTest_11 : decode cX0_isTest 11 = .ok (.if_icmp .gt 7, 3) := by decide +kernel
theorem dX0_isTest_14 : decode cX0_isTest 14 = .ok (.iconst 1, 1) := by decide +kernel
theorem dX0_isTest_15 : decode cX0_isTest 15 = .ok (.goto 4, 3) := by decide +kernel
theorem dX0_isTest_18 : decode cX0_isTest 18 = .ok (.iconst 0, 1) := by decide +kernel
theorem dX0_isTest_19 : decode cX0_isTest 19 = .ok (.ireturn, 1) := by decide +kernel
set_option maxRecDepth 20000 in
theorem ggX0_test_X0_holds : GoodIn wsX0_test wsX0_holds := goodIn_r _ [5, 6, 7, 4, 8] (by decide +kernel) (by decide +kernel)
set_option maxRecDepth 20000 in
theorem gX0_test_X0_holds : GoodIn wsX0_test (va_wsS RX0 137 yX0_holds wsX0_holds) := goodIn_app (goodIn_of _ (by decide +kernel)) ggX0_test_X0_holds
set_option maxRecDepth 20000 in
theorem ggX0_test_X0_skipIf : GoodIn wsX0_test wsX0_skipIf := goodIn_r _ [12, 13, 14, 15, 16, 4, 17, 31, 32, 33, 34, 35] (by decide +kernel) (by decide +kernel)
set_option maxRecDepth 20000 in
theorem gX0_test_X0_skipIf : GoodIn wsX0_test (wsV RX0 141 RX0 yX0_skipIf wsX0_skipIf) := goodIn_app (goodIn_of _ (by decide +kernel)) ggX0_test_X0_skipIf
set_option maxRecDepth 20000 in
theorem ggX0_test_X0_changeAndJump : GoodIn wsX0_test wsX0_changeAndJump := goodIn_r _ [21, 1, 22, 23, 24, 4, 25, 26, 2, 3, 5, 6, 7, 8, 14, 15, 16, 17, 13, 31, 32, 33, 34, 35] (by decide +kernel) (by decide +kernel)
set_option maxRecDepth 20000 in
theorem gX0_test_X0_changeAndJump : GoodIn wsX0_test (wsV RX0 145 RX0 yX0_changeAndJump wsX0_changeAndJump) := goodIn_app (goodIn_of _ (by decide +kernel)) ggX0_test_X0_changeAndJump
set_option maxRecDepth 20000 in
theorem ggX0_test_X0_changeAndSkip : GoodIn wsX0_test wsX0_changeAndSkip := goodIn_r _ [30, 1, 22, 23, 24, 4, 25, 26, 2, 3, 5, 6, 7, 8, 9, 10, 11, 12, 13, 14, 15, 16, 17, 31, 32, 33, 34, 35] (by decide +kernel) (by decide +kernel)
set_option maxRecDepth 20000 in
theorem gX0_test_X0_changeAndSkip : GoodIn wsX0_test (wsV RX0 149 RX0 yX0_changeAndSkip wsX0_changeAndSkip) := goodIn_app (goodIn_of _ (by decide +kernel)) ggX0_test_X0_changeAndSkip
theorem dX0_test_0 : decode cX0_test 0 = .ok (.iload_n 1, 1) := by decide +kernel
theorem dX0_test_1 : decode cX0_test 1 = .ok (.bipush 8, 2) := by decide +kernel
theorem dX0_test_3 : decode cX0_test 3 = .ok (.iand, 1) := by decide +kernel
theorem dX0_test_4 : decode cX0_test 4 = .ok (.ifCond .eq 7, 3) := by decide +kernel
theorem dX0_test_7 : decode cX0_test 7 = .ok (.iconst 1, 1) := by decide +kernel
theorem dX0_test_8 : decode cX0_test 8 = .ok (.goto 4, 3) := by decide +kernel
theorem dX0_test_11 : decode cX0_test 11 = .ok (.iconst 0, 1) := by decide +kernel
theorem dX0_test_12 : decode cX0_test 12 = .ok (.istore 4, 2) := by decide +kernel
theorem dX0_test_14 : decode cX0_test 14 = .ok (.iload 4, 2) := by decide +kernel
theorem dX0_test_16 : decode cX0_test 16 = .ok (.ifCond .eq 12, 3) := by decide +kernel
theorem dX0_test_19 : decode cX0_test 19 = .ok (.iload_n 3, 1) := by decide +kernel
theorem dX0_test_20 : decode cX0_test 20 = .ok (.sipush 4096, 3) := by decide +kernel
theorem dX0_test_23 : decode cX0_test 23 = .ok (.if_icmp .lt 5, 3) := by decide +kernel
theorem dX0_test_26 : decode cX0_test 26 = .ok (.iconst 2, 1) := by decide +kernel
theorem dX0_test_27 : decode cX0_test 27 = .ok (.ireturn, 1) := by decide +kernel
theorem dX0_test_28 : decode cX0_test 28 = .ok (.iload_n 1, 1) := by decide +kernel
theorem dX0_test_29 : decode cX0_test 29 = .ok (.bipush 7, 2) := by decide +kernel
theorem dX0_test_31 : decode cX0_test 31 = .ok (.iand, 1) := by decide +kernel
theorem dX0_test_32 : decode cX0_test 32 = .ok (.istore 5, 2) := by decide +kernel
theorem dX0_test_34 : decode cX0_test 34 = .ok (.iload_n 1, 1) := by decide +kernel
theorem dX0_test_35 : decode cX0_test 35 = .ok (.sipush 504, 3) := by decide +kernel
theorem dX0_test_38 : decode cX0_test 38 = .ok (.iand, 1) := by decide +kernel
theorem dX0_test_39 : decode cX0_test 39 = .ok (.lookupswitch 155 #[(192, 65), (200, 83), (208, 105), (216, 115), (224, 125), (232, 135), (240, 145)], 65) := by decide +kernel
theorem dX0_test_104 : decode cX0_test 104 = .ok (.aload_n 0, 1) := by decide +kernel
theorem dX0_test_105 : decode cX0_test 105 = .ok (.iload 5, 2) := by decide +kernel
theorem dX0_test_107 : decode cX0_test 107 = .ok (.aload_n 0, 1) := by decide +kernel
theorem dX0_test_108 : decode cX0_test 108 = .ok (.getfield 9, 3) := by decide +kernel
theorem dX0_test_111 : decode cX0_test 111 = .ok (.iload_n 2, 1) := by decide +kernel
theorem dX0_test_112 : decode cX0_test 112 = .ok (.laload, 1) := by decide +kernel
theorem dX0_test_113 : decode cX0_test 113 = .ok (.iload_n 3, 1) := by decide +kernel
theorem dX0_test_114 : decode cX0_test 114 = .ok (.i2l, 1) := by decide +kernel
theorem dX0_test_115 : decode cX0_test 115 = .ok (.invokestatic 137, 3) := by decide +kernel
theorem dX0_test_118 : decode cX0_test 118 = .ok (.invokevirtual 141, 3) := by decide +kernel
theorem dX0_test_121 : decode cX0_test 121 = .ok (.ireturn, 1) := by decide +kernel
theorem dX0_test_122 : decode cX0_test 122 = .ok (.aload_n 0, 1) := by decide +kernel
theorem dX0_test_123 : decode cX0_test 123 = .ok (.iload 5, 2) := by decide +kernel
theorem dX0_test_125 : decode cX0_test 125 = .ok (.aload_n 0, 1) := by decide +kernel
theorem dX0_test_126 : decode cX0_test 126 = .ok (.getfield 9, 3) := by decide +kernel
theorem dX0_test_129 : decode cX0_test 129 = .ok (.iload_n 2, 1) := by decide +kernel
theorem dX0_test_130 : decode cX0_test 130 = .ok (.laload, 1) := by decide +kernel
theorem dX0_test_131 : decode cX0_test 131 = .ok (.aload_n 0, 1) := by decide +kernel
theorem dX0_test_132 : decode cX0_test 132 = .ok (.getfield 9, 3) := by decide +kernel
theorem dX0_test_135 : decode cX0_test 135 = .ok (.iload_n 3, 1) := by decide +kernel
theorem dX0_test_136 : decode cX0_test 136 = .ok (.laload, 1) := by decide +kernel
theorem dX0_test_137 : decode cX0_test 137 = .ok (.invokestatic 137, 3) := by decide +kernel
theorem dX0_test_140 : decode cX0_test 140 = .ok (.invokevirtual 141, 3) := by decide +kernel
theorem dX0_test_143 : decode cX0_test 143 = .ok (.ireturn, 1) := by decide +kernel
theorem dX0_test_144 : decode cX0_test 144 = .ok (.aload_n 0, 1) := by decide +kernel
theorem dX0_test_145 : decode cX0_test 145 = .ok (.iload 5, 2) := by decide +kernel
theorem dX0_test_147 : decode cX0_test 147 = .ok (.iload_n 2, 1) := by decide +kernel
theorem dX0_test_148 : decode cX0_test 148 = .ok (.iload_n 3, 1) := by decide +kernel
theorem dX0_test_149 : decode cX0_test 149 = .ok (.iconst 0, 1) := by decide +kernel
theorem dX0_test_150 : decode cX0_test 150 = .ok (.invokevirtual 145, 3) := by decide +kernel
theorem dX0_test_153 : decode cX0_test 153 = .ok (.ireturn, 1) := by decide +kernel
theorem dX0_test_154 : decode cX0_test 154 = .ok (.aload_n 0, 1) := by decide +kernel
theorem dX0_test_155 : decode cX0_test 155 = .ok (.iload 5, 2) := by decide +kernel
theorem dX0_test_157 : decode cX0_test 157 = .ok (.iload_n 2, 1) := by decide +kernel
theorem dX0_test_158 : decode cX0_test 158 = .ok (.iload_n 3, 1) := by decide +kernel
theorem dX0_test_159 : decode cX0_test 159 = .ok (.iconst 0, 1) := by decide +kernel
theorem dX0_test_160 : decode cX0_test 160 = .ok (.invokevirtual 149, 3) := by decide +kernel
theorem dX0_test_163 : decode cX0_test 163 = .ok (.ireturn, 1) := by decide +kernel
theorem dX0_test_164 : decode cX0_test 164 = .ok (.aload_n 0, 1) := by decide +kernel
theorem dX0_test_165 : decode cX0_test 165 = .ok (.iload 5, 2) := by decide +kernel
theorem dX0_test_167 : decode cX0_test 167 = .ok (.iload_n 2, 1) := by decide +kernel
theorem dX0_test_168 : decode cX0_test 168 = .ok (.iload_n 3, 1) := by decide +kernel
theorem dX0_test_169 : decode cX0_test 169 = .ok (.iconst 1, 1) := by decide +kernel
theorem dX0_test_170 : decode cX0_test 170 = .ok (.invokevirtual 145, 3) := by decide +kernel
theorem dX0_test_173 : decode cX0_test 173 = .ok (.ireturn, 1) := by decide +kernel
theorem dX0_test_174 : decode cX0_test 174 = .ok (.aload_n 0, 1) := by decide +kernel
theorem dX0_test_175 : decode cX0_test 175 = .ok (.iload 5, 2) := by decide +kernel
theorem dX0_test_177 : decode cX0_test 177 = .ok (.iload_n 2, 1) := by decide +kernel
theorem dX0_test_178 : decode cX0_test 178 = .ok (.iload_n 3, 1) := by decide +kernel
theorem dX0_test_179 : decode cX0_test 179 = .ok (.iconst 1, 1) := by decide +kernel
theorem dX0_test_180 : decode cX0_test 180 = .ok (.invokevirtual 149, 3) := by decide +kernel
theorem dX0_test_183 : decode cX0_test 183 = .ok (.ireturn, 1) := by decide +kernel
theorem dX0_test_184 : decode cX0_test 184 = .ok (.aload_n 0, 1) := by decide +kernel
theorem dX0_test_185 : decode cX0_test 185 = .ok (.iload 5, 2) := by decide +kernel
theorem dX0_test_187 : decode cX0_test 187 = .ok (.iload_n 2, 1) := by decide +kernel
theorem dX0_test_188 : decode cX0_test 188 = .ok (.iload_n 3, 1) := by decide +kernel
theorem dX0_test_189 : decode cX0_test 189 = .ok (.iconst (-1), 1) := by decide +kernel
theorem dX0_test_190 : decode cX0_test 190 = .ok (.invokevirtual 145, 3) := by decide +kernel
theorem dX0_test_193 : decode cX0_test 193 = .ok (.ireturn, 1) := by decide +kernel
theorem dX0_test_194 : decode cX0_test 194 = .ok (.aload_n 0, 1) := by decide +kernel
theorem dX0_test_195 : decode cX0_test 195 = .ok (.iload 5, 2) := by decide +kernel
theorem dX0_test_197 : decode cX0_test 197 = .ok (.iload_n 2, 1) := by decide +kernel
theorem dX0_test_198 : decode cX0_test 198 = .ok (.iload_n 3, 1) := by decide +kernel
theorem dX0_test_199 : decode cX0_test 199 = .ok (.iconst (-1), 1) := by decide +kernel
theorem dX0_test_200 : decode cX0_test 200 = .ok (.invokevirtual 149, 3) := by decide +kernel
theorem dX0_test_203 : decode cX0_test 203 = .ok (.ireturn, 1) := by decide +kernel
set_option maxRecDepth 20000 in
theorem ggX0_changeAndJump_X0_store : GoodIn wsX0_changeAndJump wsX0_store := goodIn_r _ [6, 1, 7, 19, 20, 21, 22, 23] (by decide +kernel) (by decide +kernel)
set_option maxRecDepth 20000 in
theorem gX0_changeAndJump_X0_store : GoodIn wsX0_changeAndJump (wsV RX0 30 RX0 yX0_store wsX0_store) := goodIn_app (goodIn_of _ (by decide +kernel)) ggX0_changeAndJump_X0_store
set_option maxRecDepth 20000 in
theorem ggX0_changeAndJump_X0_holds : GoodIn wsX0_changeAndJump wsX0_holds := goodIn_r _ [10, 11, 12, 5, 13] (by decide +kernel) (by decide +kernel)
set_option maxRecDepth 20000 in
theorem gX0_changeAndJump_X0_holds : GoodIn wsX0_changeAndJump (va_wsS RX0 137 yX0_holds wsX0_holds) := goodIn_app (goodIn_of _ (by decide +kernel)) ggX0_changeAndJump_X0_holds
set_option maxRecDepth 20000 in
theorem ggX0_changeAndJump_X0_jump : GoodIn wsX0_changeAndJump wsX0_jump := goodIn_r _ [17, 18, 19, 20, 21, 22, 23] (by decide +kernel) (by decide +kernel)
set_option maxRecDepth 20000 in
theorem gX0_changeAndJump_X0_jump : GoodIn wsX0_changeAndJump (wsV RX0 69 RX0 yX0_jump wsX0_jump) := goodIn_app (goodIn_of _ (by decide +kernel)) ggX0_changeAndJump_X0_jump
theorem dX0_changeAndJump_0 : decode cX0_changeAndJump 0 = .ok (.aload_n 0, 1) := by decide +kernel
theorem dX0_changeAndJump_1 : decode cX0_changeAndJump 1 = .ok (.iload_n 2, 1) := by decide +kernel
theorem dX0_changeAndJump_2 : decode cX0_changeAndJump 2 = .ok (.aload_n 0, 1) := by decide +kernel
theorem dX0_changeAndJump_3 : decode cX0_changeAndJump 3 = .ok (.getfield 9, 3) := by decide +kernel
theorem dX0_changeAndJump_6 : decode cX0_changeAndJump 6 = .ok (.iload_n 2, 1) := by decide +kernel
theorem dX0_changeAndJump_7 : decode cX0_changeAndJump 7 = .ok (.laload, 1) := by decide +kernel
theorem dX0_changeAndJump_8 : decode cX0_changeAndJump 8 = .ok (.iload 4, 2) := by decide +kernel
theorem dX0_changeAndJump_10 : decode cX0_changeAndJump 10 = .ok (.i2l, 1) := by decide +kernel
theorem dX0_changeAndJump_11 : decode cX0_changeAndJump 11 = .ok (.ladd, 1) := by decide +kernel
theorem dX0_changeAndJump_12 : decode cX0_changeAndJump 12 = .ok (.invokevirtual 30, 3) := by decide +kernel
theorem dX0_changeAndJump_15 : decode cX0_changeAndJump 15 = .ok (.iload_n 1, 1) := by decide +kernel
theorem dX0_changeAndJump_16 : decode cX0_changeAndJump 16 = .ok (.aload_n 0, 1) := by decide +kernel
theorem dX0_changeAndJump_17 : decode cX0_changeAndJump 17 = .ok (.getfield 9, 3) := by decide +kernel
theorem dX0_changeAndJump_20 : decode cX0_changeAndJump 20 = .ok (.iload_n 2, 1) := by decide +kernel
theorem dX0_changeAndJump_21 : decode cX0_changeAndJump 21 = .ok (.laload, 1) := by decide +kernel
theorem dX0_changeAndJump_22 : decode cX0_changeAndJump 22 = .ok (.lconst 0, 1) := by decide +kernel
theorem dX0_changeAndJump_23 : decode cX0_changeAndJump 23 = .ok (.invokestatic 137, 3) := by decide +kernel
theorem dX0_changeAndJump_26 : decode cX0_changeAndJump 26 = .ok (.ifCond .eq 11, 3) := by decide +kernel
theorem dX0_changeAndJump_29 : decode cX0_changeAndJump 29 = .ok (.aload_n 0, 1) := by decide +kernel
theorem dX0_changeAndJump_30 : decode cX0_changeAndJump 30 = .ok (.iload_n 3, 1) := by decide +kernel
theorem dX0_changeAndJump_31 : decode cX0_changeAndJump 31 = .ok (.invokevirtual 69, 3) := by decide +kernel
theorem dX0_changeAndJump_34 : decode cX0_changeAndJump 34 = .ok (.goto 4, 3) := by decide +kernel
theorem dX0_changeAndJump_37 : decode cX0_changeAndJump 37 = .ok (.iconst 0, 1) := by decide +kernel
theorem dX0_changeAndJump_38 : decode cX0_changeAndJump 38 = .ok (.ireturn, 1) := by decide +kernel
set_option maxRecDepth 20000 in
theorem ggX0_changeAndSkip_X0_store : GoodIn wsX0_changeAndSkip wsX0_store := goodIn_r _ [6, 1, 7, 23, 24, 25, 26, 27] (by decide +kernel) (by decide +kernel)
set_option maxRecDepth 20000 in
theorem gX0_changeAndSkip_X0_store : GoodIn wsX0_changeAndSkip (wsV RX0 30 RX0 yX0_store wsX0_store) := goodIn_app (goodIn_of _ (by decide +kernel)) ggX0_changeAndSkip_X0_store
set_option maxRecDepth 20000 in
theorem ggX0_changeAndSkip_X0_holds : GoodIn wsX0_changeAndSkip wsX0_holds := goodIn_r _ [10, 11, 12, 5, 13] (by decide +kernel) (by decide +kernel)
set_option maxRecDepth 20000 in
theorem gX0_changeAndSkip_X0_holds : GoodIn wsX0_changeAndSkip (va_wsS RX0 137 yX0_holds wsX0_holds) := goodIn_app (goodIn_of _ (by decide +kernel)) ggX0_changeAndSkip_X0_holds
set_option maxRecDepth 20000 in
theorem ggX0_changeAndSkip_X0_skipIf : GoodIn wsX0_changeAndSkip wsX0_skipIf := goodIn_r _ [17, 18, 19, 20, 21, 5, 22, 23, 24, 25, 26, 27] (by decide +kernel) (by decide +kernel)
set_option maxRecDepth 20000 in
theorem gX0_changeAndSkip_X0_skipIf : GoodIn wsX0_changeAndSkip (wsV RX0 141 RX0 yX0_skipIf wsX0_skipIf) := goodIn_app (goodIn_of _ (by decide +kernel)) ggX0_changeAndSkip_X0_skipIf
theorem dX0_changeAndSkip_0 : decode cX0_changeAndSkip 0 = .ok (.aload_n 0, 1) := by decide +kernel
theorem dX0_changeAndSkip_1 : decode cX0_changeAndSkip 1 = .ok (.iload_n 3, 1) := by decide +kernel
theorem dX0_changeAndSkip_2 : decode cX0_changeAndSkip 2 = .ok (.aload_n 0, 1) := by decide +kernel
theorem dX0_changeAndSkip_3 : decode cX0_changeAndSkip 3 = .ok (.getfield 9, 3) := by decide +kernel
theorem dX0_changeAndSkip_6 : decode cX0_changeAndSkip 6 = .ok (.iload_n 3, 1) := by decide +kernel
theorem dX0_changeAndSkip_7 : decode cX0_changeAndSkip 7 = .ok (.laload, 1) := by decide +kernel
theorem dX0_changeAndSkip_8 : decode cX0_changeAndSkip 8 = .ok (.iload 4, 2) := by decide +kernel
theorem dX0_changeAndSkip_10 : decode cX0_changeAndSkip 10 = .ok (.i2l, 1) := by decide +kernel
theorem dX0_changeAndSkip_11 : decode cX0_changeAndSkip 11 = .ok (.ladd, 1) := by decide +kernel
theorem dX0_changeAndSkip_12 : decode cX0_changeAndSkip 12 = .ok (.invokevirtual 30, 3) := by decide +kernel
theorem dX0_changeAndSkip_15 : decode cX0_changeAndSkip 15 = .ok (.aload_n 0, 1) := by decide +kernel
theorem dX0_changeAndSkip_16 : decode cX0_changeAndSkip 16 = .ok (.getfield 9, 3) := by decide +kernel
theorem dX0_changeAndSkip_19 : decode cX0_changeAndSkip 19 = .ok (.iload_n 3, 1) := by decide +kernel
theorem dX0_changeAndSkip_20 : decode cX0_changeAndSkip 20 = .ok (.laload, 1) := by decide +kernel
theorem dX0_changeAndSkip_21 : decode cX0_changeAndSkip 21 = .ok (.lstore 5, 2) := by decide +kernel
theorem dX0_changeAndSkip_23 : decode cX0_changeAndSkip 23 = .ok (.iload_n 2, 1) := by decide +kernel
theorem dX0_changeAndSkip_24 : decode cX0_changeAndSkip 24 = .ok (.ifCond .eq 10, 3) := by decide +kernel
theorem dX0_changeAndSkip_27 : decode cX0_changeAndSkip 27 = .ok (.aload_n 0, 1) := by decide +kernel
theorem dX0_changeAndSkip_28 : decode cX0_changeAndSkip 28 = .ok (.iload_n 2, 1) := by decide +kernel
theorem dX0_changeAndSkip_29 : decode cX0_changeAndSkip 29 = .ok (.lload 5, 2) := by decide +kernel
theorem dX0_changeAndSkip_31 : decode cX0_changeAndSkip 31 = .ok (.invokevirtual 30, 3) := by decide +kernel
theorem dX0_changeAndSkip_34 : decode cX0_changeAndSkip 34 = .ok (.aload_n 0, 1) := by decide +kernel
theorem dX0_changeAndSkip_35 : decode cX0_changeAndSkip 35 = .ok (.iload_n 1, 1) := by decide +kernel
theorem dX0_changeAndSkip_36 : decode cX0_changeAndSkip 36 = .ok (.lload 5, 2) := by decide +kernel
theorem dX0_changeAndSkip_38 : decode cX0_changeAndSkip 38 = .ok (.lconst 0, 1) := by decide +kernel
theorem dX0_changeAndSkip_39 : decode cX0_changeAndSkip 39 = .ok (.invokestatic 137, 3) := by decide +kernel
theorem dX0_changeAndSkip_42 : decode cX0_changeAndSkip 42 = .ok (.invokevirtual 141, 3) := by decide +kernel
theorem dX0_changeAndSkip_45 : decode cX0_changeAndSkip 45 = .ok (.ireturn, 1) := by decide +kernel
set_option maxRecDepth 20000 in
theorem ggX0_skipIf_X0_jump : GoodIn wsX0_skipIf wsX0_jump := goodIn_r _ [6, 1, 7, 8, 9, 10, 11] (by decide +kernel) (by decide +kernel)
set_option maxRecDepth 20000 in
theorem gX0_skipIf_X0_jump : GoodIn wsX0_skipIf (wsV RX0 69 RX0 yX0_jump wsX0_jump) := goodIn_app (goodIn_of _ (by decide +kernel)) ggX0_skipIf_X0_jump
theorem dX0_skipIf_0 : decode cX0_skipIf 0 = .ok (.iload_n 1, 1) := by decide +kernel
theorem dX0_skipIf_1 : decode cX0_skipIf 1 = .ok (.ifCond .eq 16, 3) := by decide +kernel
theorem dX0_skipIf_4 : decode cX0_skipIf 4 = .ok (.aload_n 0, 1) := by decide +kernel
theorem dX0_skipIf_5 : decode cX0_skipIf 5 = .ok (.aload_n 0, 1) := by decide +kernel
theorem dX0_skipIf_6 : decode cX0_skipIf 6 = .ok (.getfield 17, 3) := by decide +kernel
theorem dX0_skipIf_9 : decode cX0_skipIf 9 = .ok (.iconst 1, 1) := by decide +kernel
theorem dX0_skipIf_10 : decode cX0_skipIf 10 = .ok (.iadd, 1) := by decide +kernel
theorem dX0_skipIf_11 : decode cX0_skipIf 11 = .ok (.invokevirtual 69, 3) := by decide +kernel
theorem dX0_skipIf_14 : decode cX0_skipIf 14 = .ok (.goto 4, 3) := by decide +kernel
theorem dX0_skipIf_17 : decode cX0_skipIf 17 = .ok (.iconst 0, 1) := by decide +kernel
theorem dX0_skipIf_18 : decode cX0_skipIf 18 = .ok (.ireturn, 1) := by decide +kernel
set_option maxRecDepth 20000 in
theorem ggX0_holds_X0_number : GoodIn wsX0_holds wsX0_number := goodIn_r _ [4] (by decide +kernel) (by decide +kernel)
set_option maxRecDepth 20000 in
theorem gX0_holds_X0_number : GoodIn wsX0_holds (va_wsS RX0 115 yX0_number wsX0_number) := goodIn_app (goodIn_of _ (by decide +kernel)) ggX0_holds_X0_number
theorem dX0_holds_0 : decode cX0_holds 0 = .ok (.lload_n 1, 1) := by decide +kernel
theorem dX0_holds_1 : decode cX0_holds 1 = .ok (.invokestatic 115, 3) := by decide +kernel
theorem dX0_holds_4 : decode cX0_holds 4 = .ok (.lstore 5, 2) := by decide +kernel
theorem dX0_holds_6 : decode cX0_holds 6 = .ok (.lload_n 3, 1) := by decide +kernel
theorem dX0_holds_7 : decode cX0_holds 7 = .ok (.invokestatic 115, 3) := by decide +kernel
theorem dX0_holds_10 : decode cX0_holds 10 = .ok (.lstore 7, 2) := by decide +kernel
theorem dX0_holds_12 : decode cX0_holds 12 = .ok (.iload_n 0, 1) := by decide +kernel
theorem dX0_holds_13 : decode cX0_holds 13 = .ok (.iconst 1, 1) := by decide +kernel
theorem dX0_holds_14 : decode cX0_holds 14 = .ok (.iand, 1) := by decide +kernel
theorem dX0_holds_15 : decode cX0_holds 15 = .ok (.ifCond .eq 11, 3) := by decide +kernel
theorem dX0_holds_18 : decode cX0_holds 18 = .ok (.lload 5, 2) := by decide +kernel
theorem dX0_holds_20 : decode cX0_holds 20 = .ok (.lload 7, 2) := by decide +kernel
theorem dX0_holds_22 : decode cX0_holds 22 = .ok (.lcmp, 1) := by decide +kernel
theorem dX0_holds_23 : decode cX0_holds 23 = .ok (.ifCond .lt 17, 3) := by decide +kernel
theorem dX0_holds_26 : decode cX0_holds 26 = .ok (.iload_n 0, 1) := by decide +kernel
theorem dX0_holds_27 : decode cX0_holds 27 = .ok (.iconst 2, 1) := by decide +kernel
theorem dX0_holds_28 : decode cX0_holds 28 = .ok (.iand, 1) := by decide +kernel
theorem dX0_holds_29 : decode cX0_holds 29 = .ok (.ifCond .eq 15, 3) := by decide +kernel
theorem dX0_holds_32 : decode cX0_holds 32 = .ok (.lload 5, 2) := by decide +kernel
theorem dX0_holds_34 : decode cX0_holds 34 = .ok (.lload 7, 2) := by decide +kernel
theorem dX0_holds_36 : decode cX0_holds 36 = .ok (.lcmp, 1) := by decide +kernel
theorem dX0_holds_37 : decode cX0_holds 37 = .ok (.ifCond .ne 7, 3) := by decide +kernel
theorem dX0_holds_40 : decode cX0_holds 40 = .ok (.iconst 1, 1) := by decide +kernel
theorem dX0_holds_41 : decode cX0_holds 41 = .ok (.goto 4, 3) := by decide +kernel
theorem dX0_holds_44 : decode cX0_holds 44 = .ok (.iconst 0, 1) := by decide +kernel
theorem dX0_holds_45 : decode cX0_holds 45 = .ok (.istore 9, 2) := by decide +kernel
theorem dX0_holds_47 : decode cX0_holds 47 = .ok (.iload 9, 2) := by decide +kernel
theorem dX0_holds_49 : decode cX0_holds 49 = .ok (.iload_n 0, 1) := by decide +kernel
theorem dX0_holds_50 : decode cX0_holds 50 = .ok (.iconst 4, 1) := by decide +kernel
theorem dX0_holds_51 : decode cX0_holds 51 = .ok (.iand, 1) := by decide +kernel
theorem dX0_holds_52 : decode cX0_holds 52 = .ok (.ifCond .eq 7, 3) := by decide +kernel
theorem dX0_holds_55 : decode cX0_holds 55 = .ok (.iconst 1, 1) := by decide +kernel
theorem dX0_holds_56 : decode cX0_holds 56 = .ok (.goto 4, 3) := by decide +kernel
theorem dX0_holds_59 : decode cX0_holds 59 = .ok (.iconst 0, 1) := by decide +kernel
theorem dX0_holds_60 : decode cX0_holds 60 = .ok (.if_icmp .eq 7, 3) := by decide +kernel
theorem dX0_holds_63 : decode cX0_holds 63 = .ok (.iconst 1, 1) := by decide +kernel
theorem dX0_holds_64 : decode cX0_holds 64 = .ok (.goto 4, 3) := by decide +kernel
theorem dX0_holds_67 : decode cX0_holds 67 = .ok (.iconst 0, 1) := by decide +kernel
theorem dX0_holds_68 : decode cX0_holds 68 = .ok (.ireturn, 1) := by decide +kernel
theorem dX0_number_0 : decode cX0_number 0 = .ok (.lload_n 0, 1) := by decide +kernel
theorem dX0_number_1 : decode cX0_number 1 = .ok (.bipush 28, 2) := by decide +kernel
theorem dX0_number_3 : decode cX0_number 3 = .ok (.lshl, 1) := by decide +kernel
theorem dX0_number_4 : decode cX0_number 4 = .ok (.bipush 28, 2) := by decide +kernel
theorem dX0_number_6 : decode cX0_number 6 = .ok (.lshr, 1) := by decide +kernel
theorem dX0_number_7 : decode cX0_number 7 = .ok (.lreturn, 1) := by decide +kernel
theorem dX0_rightHalf_0 : decode cX0_rightHalf 0 = .ok (.lload_n 0, 1) := by decide +kernel
theorem dX0_rightHalf_1 : decode cX0_rightHalf 1 = .ok (.l2i, 1) := by decide +kernel
theorem dX0_rightHalf_2 : decode cX0_rightHalf 2 = .ok (.ldc 34, 2) := by decide +kernel
theorem dX0_rightHalf_4 : decode cX0_rightHalf 4 = .ok (.iand, 1) := by decide +kernel
theorem dX0_rightHalf_5 : decode cX0_rightHalf 5 = .ok (.ireturn, 1) := by decide +kernel
theorem dX0_leftHalf_0 : decode cX0_leftHalf 0 = .ok (.lload_n 0, 1) := by decide +kernel
theorem dX0_leftHalf_1 : decode cX0_leftHalf 1 = .ok (.bipush 18, 2) := by decide +kernel
theorem dX0_leftHalf_3 : decode cX0_leftHalf 3 = .ok (.lshr, 1) := by decide +kernel
theorem dX0_leftHalf_4 : decode cX0_leftHalf 4 = .ok (.l2i, 1) := by decide +kernel
theorem dX0_leftHalf_5 : decode cX0_leftHalf 5 = .ok (.ldc 34, 2) := by decide +kernel
theorem dX0_leftHalf_7 : decode cX0_leftHalf 7 = .ok (.iand, 1) := by decide +kernel
theorem dX0_leftHalf_8 : decode cX0_leftHalf 8 = .ok (.ireturn, 1) := by decide +kernel
theorem dX0_store_0 : decode cX0_store 0 = .ok (.aload_n 0, 1) := by decide +kernel
theorem dX0_store_1 : decode cX0_store 1 = .ok (.getfield 9, 3) := by decide +kernel
theorem dX0_store_4 : decode cX0_store 4 = .ok (.iload_n 1, 1) := by decide +kernel
theorem dX0_store_5 : decode cX0_store 5 = .ok (.lload_n 2, 1) := by decide +kernel
theorem dX0_store_6 : decode cX0_store 6 = .ok (.ldc2_w 152, 3) := by decide +kernel
theorem dX0_store_9 : decode cX0_store 9 = .ok (.land, 1) := by decide +kernel
theorem dX0_store_10 : decode cX0_store 10 = .ok (.lastore, 1) := by decide +kernel
theorem dX0_store_11 : decode cX0_store 11 = .ok (.return_, 1) := by decide +kernel
end
section
section MB
theorem vp_mono {x : Int32} {n k : Nat} (h : vp_in x n) (hk : n ≤ k) : vp_in x k := by
  rw [vp_in_iff] at h ⊢
  omega
theorem vp_nonneg {x : Int32} {n : Nat} (h : vp_in x n) : ¬ x < 0 := fun q => h (Or.inl q)
theorem vp_below {x k : Int32} {n : Nat} (h0 : ¬ x < 0) (h : x < k) (hk : k.toInt = n) : vp_in x n := by
  rw [vp_in_iff]
  rw [Int32.lt_iff_toInt_lt] at h h0
  have h1 : (0 : Int32).toInt = 0 := by decide
  rw [h1] at h0
  rw [hk] at h
  omega
theorem vp_le {x k : Int32} {n : Nat} (h0 : ¬ x < 0) (h : x ≤ k) (hk : k.toInt + 1 = n) : vp_in x n := by
  rw [vp_in_iff]
  rw [Int32.lt_iff_toInt_lt] at h0
  rw [Int32.le_iff_toInt_le] at h
  have h1 : (0 : Int32).toInt = 0 := by decide
  rw [h1] at h0
  omega
theorem vp_and15 (x : Int32) : vp_in (x &&& 15) 4096 := vp_mono (pk_andIn x 4 rfl (by decide)) (by decide)
theorem vp_and4095 (x : Int32) : vp_in (x &&& 4095) 4096 := pk_andIn x 12 rfl (by decide)
theorem vp_and18 (x : Int32) : vp_in (x &&& 262143) 262144 := pk_andIn x 18 rfl (by decide)
theorem vp_0 {n : Nat} (h : 0 < n) : vp_in 0 n := by
  rw [vp_in_iff]
  have h1 : (0 : Int32).toInt = 0 := by decide
  rw [h1]
  omega
abbrev rv_i : Int32 → Option Value := fun r => some (.int r)
abbrev rv_l : Int64 → Option Value := fun r => some (.long r)
abbrev rv_v : Unit → Option Value := fun _ => none
/-- what holds in a body -/
def cx (p : Program) (s : State) (m : MethodId) (meth : Method) (c : Code) (cc : ByteArray) (ret : Option FieldType) (nL : Nat) (own : String) (args : Array Value) (ws : List Cond) : Prop :=
  p.tables.exec = Jvm.exec ∧ c.code = cc ∧ meth.sig.returnType = ret ∧ c.maxLocals = nL ∧ s.vm.findClass own = some m.cls ∧ (∀ w ∈ ws, w.before args s = true) ∧ meth.locks = false
theorem cx_of {p : Program} {l : Launch} {y : MethodName} {cc : ByteArray} {maxL : Nat} {ret : Option FieldType} {rm : Room} {ws : List Cond} {e : Env} {s : State} {m : MethodId} {args : Array Value} {below : List Frame} {meth : Method} {c : Code} {s₁ : State}
    (B : BodyLoose p l y (headSpec ws rm) cc maxL ret e s m args below meth c s₁) (hml : c.maxLocals = maxL) : cx p s m meth c cc ret maxL y.cls args ws :=
  ⟨B.exec, B.bytes, B.returns, hml, findClass_of_methodNamed B.named, atoms_spec (ws := ws) B.pre, B.notSynchronized⟩
/-- a static method that reads nothing -/
def PS {ρ : Type} (l : Launch) (y : MethodName) (ws : List Cond) (rm : Room) (As : List Value) (rv : ρ → Option Value) (post : ρ → Prop) : Prop :=
  Met l y ws rm (fun a _ => a = As.toArray) (fun _ st o t => ∃ r : ρ, o = .returned (rv r) ∧ post r ∧ t.heap = st.heap) 0 0 (fun _ => False)
theorem ps_of {ρ : Type} {l : Launch} {y : MethodName} {ws ws' : List Cond} {cc : ByteArray} {maxL : Nat} {ret : Option FieldType} {rm : Room} {rv : ρ → Option Value} {post : ρ → Prop} {As : List Value} (hy : plainName y.cls = true) (hw : ws = Cond.code y cc maxL ret :: ws') (hn : (lg_sl As).length ≤ maxL)
    (body : ∀ (p : Program) (e : Env) (s : State) (m : MethodId) (below : List Frame) (meth : Method) (c : Code) (ls : Array Slot), cx p s m meth c cc ret maxL y.cls As.toArray ws → lv_has ls maxL (lv_args 0 As) →
      W p l e rm s m As.toArray below meth c s.heap [] 0 0 (MQ below (fun _ st o t => ∃ r : ρ, o = .returned (rv r) ∧ post r ∧ t.heap = st.heap) As.toArray s 0 0 (fun _ => False)) (F0 m 0 ls [])) :
    PS l y ws rm As rv post := by
  refine Met.ofW (cc := cc) (maxL := maxL) (ret := ret) hy hw ?_
  intro p e s m args below meth c s₁ B hml hv
  subst hv
  have hl := lv_entry As (n := maxL) hn
  rw [lg_entry_eq]
  exact body p e s m below meth c _ (cx_of B hml) hl
/-- the world of a method -/
def mm_P (D : va_G) (cl : List vw_C) (tys : List (ClassId × FieldType)) (w : va_W) (U : State) : Prop := va_P D cl w U.heap ∧ va_K D cl tys U ∧ va_D (fun _ => True) w
def mm_Q {ρ S : Type} (rv : ρ → Option Value) (D : va_G) (cl : List vw_C) (tys : List (ClassId × FieldType)) (post : ρ → S → Prop) (mw : S → va_W) (A : Nat → Prop) : Array Value → State → Outcome → State → Prop := fun _ st o t => (∃ (r : ρ) (u : S), o = .returned (rv r) ∧ post r u ∧ mm_P D cl tys (mw u) t) ∧ va_F A st t
def MM {ρ S : Type} (l : Launch) (y : MethodName) (ws : List Cond) (rm : Room) (D : va_G) (cl : List vw_C) (tys : List (ClassId × FieldType)) (mw : S → va_W) (A : Nat → Prop) (u : S) (As : List Value) (rv : ρ → Option Value) (post : ρ → S → Prop) : Prop :=
  Met l y ws rm (va_Pc As (mm_P D cl tys (mw u))) (mm_Q rv D cl tys post mw A) 0 0 A
theorem mm_blind {D : va_G} {cl : List vw_C} {tys : List (ClassId × FieldType)} {w : va_W} {As : List Value} : FrameBlind (va_Pc As (mm_P D cl tys w)) := fun a U g mk q => by
  obtain ⟨q0, qP, qK, qD⟩ := q
  exact ⟨q0, qP, va_K.moved (u := U) (U := U.calling g mk a) (Vm.Alike.refl U.vm) qK, qD⟩
theorem mm_of {ρ S : Type} {l : Launch} {y : MethodName} {ws ws' : List Cond} {cc : ByteArray} {maxL : Nat} {ret : Option FieldType} {rm : Room} {D : va_G} {cl : List vw_C} {tys : List (ClassId × FieldType)} {mw : S → va_W} {A : Nat → Prop} {u : S} {rv : ρ → Option Value} {post : ρ → S → Prop} {As : List Value} (hy : plainName y.cls = true) (hw : ws = Cond.code y cc maxL ret :: ws') (hn : (lg_sl As).length ≤ maxL) (hA : ∀ (k : Nat) (q : Nat × va_E), (mw u)[k]? = some q → A q.1)
    (body : ∀ (p : Program) (e : Env) (s : State) (m : MethodId) (below : List Frame) (meth : Method) (c : Code) (ls : Array Slot), cx p s m meth c cc ret maxL y.cls As.toArray ws → lv_has ls maxL (lv_args 0 As) →
      va_P D cl (mw u) s.heap → va_K D cl tys s → va_D A (mw u) → va_S A s.heap s.heap [] →
      W p l e rm s m As.toArray below meth c s.heap [] 0 0 (MQ below (mm_Q rv D cl tys post mw A) As.toArray s 0 0 A) (F0 m 0 ls [])) :
    MM l y ws rm D cl tys mw A u As rv post := by
  refine Met.ofW (cc := cc) (maxL := maxL) (ret := ret) hy hw ?_
  intro p e s m args below meth c s₁ B hml hv
  obtain ⟨rfl, hP, hK, hD⟩ := hv
  have hl := lv_entry As (n := maxL) hn
  rw [lg_entry_eq]
  exact body p e s m below meth c _ (cx_of B hml) hl hP hK ⟨hD.1, hA⟩ va_S.rf
theorem mm_adr {A : Nat → Prop} {w w1 : va_W} (h : va_D A w) (e : w1.map Prod.fst = w.map Prod.fst) : va_D A w1 := by
  have key : ∀ (k : Nat) (q : Nat × va_E), w1[k]? = some q → ∃ q' : Nat × va_E, w[k]? = some q' ∧ q'.1 = q.1 := by
    intro k q hk
    have h1 : (w1.map Prod.fst)[k]? = some q.1 := by rw [List.getElem?_map, hk]; rfl
    rw [e, List.getElem?_map] at h1
    cases hw : w[k]? with
    | none => rw [hw] at h1; cases h1
    | some q' => rw [hw] at h1; exact ⟨q', rfl, Option.some.inj h1⟩
  refine ⟨fun i j x y hi hj hxy => ?_, fun k q hk => ?_⟩
  · obtain ⟨x', h1, h2⟩ := key i x hi
    obtain ⟨y', h3, h4⟩ := key j y hj
    exact h.1 i j x' y' h1 h3 (by rw [h2, h4]; exact hxy)
  · obtain ⟨q', h1, h2⟩ := key k q hk
    rw [← h2]
    exact h.2 k q' h1
end MB
section MR
variable {p : Program} {l : Launch} {e : Env} {R : Room} {s : State} {m : MethodId} {args : Array Value} {below : List Frame} {meth : Method} {c : Code} {H : Heap} {locs : List Loc} {cells slots : Nat} {Q : State → Prop}
variable {y : MethodName} {bytes cc : ByteArray} {maxL nL n index pc : Nat} {ret : Option FieldType} {ws : List Cond} {rm : Room} {Ts : List Cond} {own : String} {b : Addr} {As rest st0 : List Value} {ls : Array Slot} {D : va_G} {cl : List vw_C} {tys : List (ClassId × FieldType)} {w : va_W} {A : Nat → Prop} {a : Array Value}
/-- a static call of a method that reads nothing -/
theorem ps_go {ρ : Type} {rv : ρ → Option Value} {post : ρ → Prop} (S : CallFix p m c cc nL s args Ts own) (hM : PS l y ws rm As rv post) (cw : CallB R s args own index y bytes maxL ret ws rm 0 0 n ∧ (Cond.static y).before args s = true)
    (hn : As.length = n) (hsize : ls.size = nL) (hstack : st0 = As.reverse ++ rest) (hW : (rest.map fun v => v.category).sum ≤ 8) (hdg : decode cc pc = .ok (.invokestatic index, 3)) (hf : cells ≤ R.cells ∧ slots ≤ R.slots)
    (kk : ∀ r : ρ, post r → W p l e R s m args below meth c H locs cells slots Q (F0 m (pc + 3) ls ((rv r).toList ++ rest))) : W p l e R s m args below meth c H locs cells slots Q (F0 m pc ls st0) := by
  intro T hT X
  obtain ⟨v', st₀, t, T', L, h0, X', hL, e1, ⟨r, hv, hq, hh⟩, st⟩ := W.runS (g := F0 m pc ls st0) S hM cw preEq rfl hn hsize hstack (lv_room hW) hdg hf T hT X
  cases hv
  obtain ⟨t2, a1, b1⟩ := kk r hq T' (by rw [e1, hh, h0]) (Stand.forget X' (fun q h => (hL q h).elim))
  exact ⟨t2, st t2 a1, b1⟩
theorem ps_goi {post : Int32 → Prop} (S : CallFix p m c cc nL s args Ts own) (hM : PS l y ws rm As rv_i post) (cw : CallB R s args own index y bytes maxL ret ws rm 0 0 n ∧ (Cond.static y).before args s = true)
    (hn : As.length = n) (hsize : ls.size = nL) (hstack : st0 = As.reverse ++ rest) (hW : (rest.map fun v => v.category).sum ≤ 8) (hdg : decode cc pc = .ok (.invokestatic index, 3)) (hf : cells ≤ R.cells ∧ slots ≤ R.slots)
    (kk : ∀ r : Int32, post r → W p l e R s m args below meth c H locs cells slots Q (F0 m (pc + 3) ls (.int r :: rest))) : W p l e R s m args below meth c H locs cells slots Q (F0 m pc ls st0) := ps_go S hM cw hn hsize hstack hW hdg hf kk
theorem ps_gol {post : Int64 → Prop} (S : CallFix p m c cc nL s args Ts own) (hM : PS l y ws rm As rv_l post) (cw : CallB R s args own index y bytes maxL ret ws rm 0 0 n ∧ (Cond.static y).before args s = true)
    (hn : As.length = n) (hsize : ls.size = nL) (hstack : st0 = As.reverse ++ rest) (hW : (rest.map fun v => v.category).sum ≤ 8) (hdg : decode cc pc = .ok (.invokestatic index, 3)) (hf : cells ≤ R.cells ∧ slots ≤ R.slots)
    (kk : ∀ r : Int64, post r → W p l e R s m args below meth c H locs cells slots Q (F0 m (pc + 3) ls (.long r :: rest))) : W p l e R s m args below meth c H locs cells slots Q (F0 m pc ls st0) := ps_go S hM cw hn hsize hstack hW hdg hf kk
/-- behind a call of a method of a world: isC are the places of its cells, isR those of the others -/
theorem mm_back {ρ S : Type} {rv : ρ → Option Value} {post : ρ → S → Prop} {mw : S → va_W} {tysc : List (ClassId × FieldType)} {u : S} {wr : va_W} {Ac : Nat → Prop} {mc ms : Nat} (hr : va_Run p l e R s m args below meth c H locs cells slots mc ms (F0 m pc ls st0) rest (mm_Q rv D cl tysc post mw Ac a) Ac) (hP : va_P D cl w H) (hD : va_D A w) (hS : va_S A s.heap H locs)
    (isR isC : List Nat) (hC : (isR ++ isC).map (fun i => w[i]?) = (wr ++ mw u).map some) (hnd : va_nd (isR ++ isC) = true) (hAc : ∀ q, Ac q → ∃ e', (q, e') ∈ mw u) (hadr : ∀ u' : S, (mw u').map Prod.fst = (mw u).map Prod.fst)
    (kk : ∀ (r : ρ) (u' : S) (H1 : Heap) (locs1 : List Loc), post r u' → va_P D cl (wr ++ mw u') H1 → va_D A (wr ++ mw u') → va_S A s.heap H1 locs1 → W p l e R s m args below meth c H1 locs1 (cells + mc) (slots + ms) Q (F0 m (pc + 3) ls ((rv r).toList ++ rest))) : W p l e R s m args below meth c H locs cells slots Q (F0 m pc ls st0) := by
  have hDs : va_D A (wr ++ mw u) := hD.sub (isR ++ isC) hnd hC
  have hPs : va_P D cl (wr ++ mw u) H := by
    intro k q hk
    have h1 : ((isR ++ isC).map (fun i => w[i]?))[k]? = some (some q) := by rw [hC, List.getElem?_map, hk]; rfl
    rw [List.getElem?_map] at h1
    cases hi : (isR ++ isC)[k]? with
    | none => rw [hi] at h1; cases h1
    | some i => rw [hi] at h1; exact hP i q (Option.some.inj h1)
  have hat : ∀ q, Ac q → ∃ k e', (wr ++ mw u)[wr.length + k]? = some (q, e') := by
    intro q hq
    obtain ⟨e', he⟩ := hAc q hq
    obtain ⟨k, hk⟩ := List.mem_iff_getElem?.mp he
    exact ⟨k, e', by rw [List.getElem?_append_right (by omega)]; rw [show wr.length + k - wr.length = k by omega]; exact hk⟩
  have hin : ∀ q, Ac q → A q := by
    intro q hq
    obtain ⟨k, e', hk⟩ := hat q hq
    exact hDs.2 _ (q, e') hk
  intro T hT X
  obtain ⟨v', st₀, t, T', L, h0, X', hL, e1, e2, ⟨⟨r, u', hv, hq, hP1, hK1, hD1⟩, hz, hk⟩, st⟩ := hr T hT X
  cases hv
  rw [h0] at hz hk
  have hw : va_P D cl (wr ++ mw u') T'.heap := by
    refine va_P.app (fun k q hq => ?_) (by rw [e1]; exact hP1)
    have hlt := (List.getElem?_eq_some_iff.mp hq).1
    have hq' : (wr ++ mw u)[k]? = some q := by rw [List.getElem?_append_left hlt]; exact hq
    have hl := (hPs k q hq').lt
    refine (hPs k q hq').kept ?_
    rw [e1]
    refine hk q.1 hl (fun ha => ?_)
    obtain ⟨k2, e', h3⟩ := hat q.1 ha
    have := hDs.1 k (wr.length + k2) q (q.1, e') hq' h3 rfl
    omega
  obtain ⟨t2, a1, b1⟩ := kk r u' T'.heap (locs ++ L) hq hw (mm_adr hDs (by rw [List.map_append, List.map_append, hadr]))
    ⟨Nat.le_trans hS.1 (by rw [e1]; exact hz), fun q h1 h2 => by rw [e1, hk q (Nat.lt_of_lt_of_le h1 hS.1) (fun z => h2 (hin q z))]; exact hS.2.1 q h1 h2, fun q hq => by
      rcases List.mem_append.mp hq with h | h
      · exact hS.2.2 q h
      · exact hin _ (hL q h)⟩ T' rfl X'
  exact ⟨t2, st t2 a1, b1⟩
theorem mm_pre {ci q0 : Nat} {q : vw_C} {fs : List Value} (hK : va_K D cl tys s) (hP : va_P D cl w H) (hD : va_D A w) (hc : cl[ci]? = some q) (he : w[q0]? = some (b, .inr (ci, fs))) : PreV s H q.1 b (va_Pc (.ref b :: As) (mm_P D cl tys w)) As :=
  ⟨mm_blind, va_recv hK hP hc he, fun U hU hW => ⟨rfl, by rw [hU]; exact hP, va_K.moved hW.alike hK, hD.weaken (fun _ _ _ _ => trivial)⟩⟩
/-- a call of a method of the same object: the whole world is its -/
theorem mm_go {ρ S : Type} {rv : ρ → Option Value} {post : ρ → S → Prop} {mw : S → va_W} {u : S} {ci q0 : Nat} {q : vw_C} {fs : List Value} (S0 : CallFix p m c cc nL s args Ts own) (hM : MM l y ws rm D cl tys mw A u (.ref b :: As) rv post) (cw : CallW R s args own q.1 index y bytes maxL ret ws rm 0 0 n) (hK : va_K D cl tys s) (hP : va_P D cl (mw u) H) (hD : va_D A (mw u)) (hS : va_S A s.heap H locs)
    (hc : cl[ci]? = some q) (he : (mw u)[q0]? = some (b, .inr (ci, fs))) (isC : List Nat) (hC : isC.map (fun i => (mw u)[i]?) = (mw u).map some) (hnd : va_nd isC = true) (hAc : ∀ q, A q → ∃ e', (q, e') ∈ mw u) (hadr : ∀ u' : S, (mw u').map Prod.fst = (mw u).map Prod.fst)
    (hn : As.length = n) (hsize : ls.size = nL) (hstack : st0 = As.reverse ++ .ref b :: rest) (hW : (rest.map fun v => v.category).sum ≤ 8) (hdg : decode cc pc = .ok (.invokevirtual index, 3)) (hf : cells ≤ R.cells ∧ slots ≤ R.slots)
    (kk : ∀ (r : ρ) (u' : S) (H1 : Heap) (locs1 : List Loc), post r u' → va_P D cl (mw u') H1 → va_D A (mw u') → va_S A s.heap H1 locs1 → W p l e R s m args below meth c H1 locs1 cells slots Q (F0 m (pc + 3) ls ((rv r).toList ++ rest))) : W p l e R s m args below meth c H locs cells slots Q (F0 m pc ls st0) :=
  mm_back (wr := []) (u := u) (va_runV (g := F0 m pc ls st0) S0 hM cw (mm_pre hK hP hD hc he) rfl hn hsize hstack (lv_room hW) hdg hf) hP hD hS [] isC hC hnd hAc hadr kk
/-- the ends -/
theorem ps_iret {r : Int32} {post : Int32 → Prop} (hx : p.tables.exec = Jvm.exec) (hb : c.code = cc) (hr : meth.sig.returnType = some .int) (hlocks : meth.locks = false) (hdg : decode cc pc = .ok (.ireturn, 1)) (hq : post r) : W p l e R s m args below meth c s.heap [] 0 0 (MQ below (fun _ st o t => ∃ r : Int32, o = .returned (rv_i r) ∧ post r ∧ t.heap = st.heap) args s 0 0 (fun _ => False)) (F0 m pc ls [.int r]) :=
  W.iret hx hb hr (fun t ht _ => ⟨r, rfl, hq, ht⟩) (fun _ h => by cases h) hdg
theorem ps_zret {r : Int32} {post : Int32 → Prop} (hx : p.tables.exec = Jvm.exec) (hb : c.code = cc) (hr : meth.sig.returnType = some .boolean) (hlocks : meth.locks = false) (hdg : decode cc pc = .ok (.ireturn, 1)) (hn : narrow .boolean (.int r) = .int r) (hq : post r) : W p l e R s m args below meth c s.heap [] 0 0 (MQ below (fun _ st o t => ∃ r : Int32, o = .returned (rv_i r) ∧ post r ∧ t.heap = st.heap) args s 0 0 (fun _ => False)) (F0 m pc ls [.int r]) :=
  W.zret hx hb hr hn (fun t ht _ => ⟨r, rfl, hq, ht⟩) (fun _ h => by cases h) hdg
theorem ps_lret {r : Int64} {post : Int64 → Prop} (hx : p.tables.exec = Jvm.exec) (hb : c.code = cc) (hr : meth.sig.returnType = some .long) (hlocks : meth.locks = false) (hdg : decode cc pc = .ok (.lreturn, 1)) (hq : post r) : W p l e R s m args below meth c s.heap [] 0 0 (MQ below (fun _ st o t => ∃ r : Int64, o = .returned (rv_l r) ∧ post r ∧ t.heap = st.heap) args s 0 0 (fun _ => False)) (F0 m pc ls [.long r]) :=
  W.lret hx hb hr (fun t ht _ => ⟨r, rfl, hq, ht⟩) (fun _ h => by cases h) hdg
theorem mm_iret {S : Type} {mw : S → va_W} {post : Int32 → S → Prop} {r : Int32} {u1 : S} (hx : p.tables.exec = Jvm.exec) (hb : c.code = cc) (hr : meth.sig.returnType = some .int) (hlocks : meth.locks = false) (hP : va_P D cl (mw u1) H) (hK : va_K D cl tys s) (hD : va_D A (mw u1)) (hS : va_S A s.heap H locs) (hdg : decode cc pc = .ok (.ireturn, 1)) (hq : post r u1) :
    W p l e R s m args below meth c H locs 0 0 (MQ below (mm_Q rv_i D cl tys post mw A) args s 0 0 A) (F0 m pc ls [.int r]) :=
  W.iret hx hb hr (fun t ht hW => ⟨⟨r, u1, rfl, hq, by rw [ht]; exact hP, va_K.moved hW.alike hK, hD.weaken (fun _ _ _ _ => trivial)⟩, hS.F ht⟩) hS.2.2 hdg
theorem mm_zret {S : Type} {mw : S → va_W} {post : Int32 → S → Prop} {r : Int32} {u1 : S} (hx : p.tables.exec = Jvm.exec) (hb : c.code = cc) (hr : meth.sig.returnType = some .boolean) (hlocks : meth.locks = false) (hP : va_P D cl (mw u1) H) (hK : va_K D cl tys s) (hD : va_D A (mw u1)) (hS : va_S A s.heap H locs) (hdg : decode cc pc = .ok (.ireturn, 1)) (hn : narrow .boolean (.int r) = .int r) (hq : post r u1) :
    W p l e R s m args below meth c H locs 0 0 (MQ below (mm_Q rv_i D cl tys post mw A) args s 0 0 A) (F0 m pc ls [.int r]) :=
  W.zret hx hb hr hn (fun t ht hW => ⟨⟨r, u1, rfl, hq, by rw [ht]; exact hP, va_K.moved hW.alike hK, hD.weaken (fun _ _ _ _ => trivial)⟩, hS.F ht⟩) hS.2.2 hdg
theorem mm_lret {S : Type} {mw : S → va_W} {post : Int64 → S → Prop} {r : Int64} {u1 : S} (hx : p.tables.exec = Jvm.exec) (hb : c.code = cc) (hr : meth.sig.returnType = some .long) (hlocks : meth.locks = false) (hP : va_P D cl (mw u1) H) (hK : va_K D cl tys s) (hD : va_D A (mw u1)) (hS : va_S A s.heap H locs) (hdg : decode cc pc = .ok (.lreturn, 1)) (hq : post r u1) :
    W p l e R s m args below meth c H locs 0 0 (MQ below (mm_Q rv_l D cl tys post mw A) args s 0 0 A) (F0 m pc ls [.long r]) :=
  W.lret hx hb hr (fun t ht hW => ⟨⟨r, u1, rfl, hq, by rw [ht]; exact hP, va_K.moved hW.alike hK, hD.weaken (fun _ _ _ _ => trivial)⟩, hS.F ht⟩) hS.2.2 hdg
theorem mm_vret {S : Type} {mw : S → va_W} {post : Unit → S → Prop} {u1 : S} (hx : p.tables.exec = Jvm.exec) (hb : c.code = cc) (hr : meth.sig.returnType = none) (hlocks : meth.locks = false) (hP : va_P D cl (mw u1) H) (hK : va_K D cl tys s) (hD : va_D A (mw u1)) (hS : va_S A s.heap H locs) (hdg : decode cc pc = .ok (.return_, 1)) (hq : post () u1) :
    W p l e R s m args below meth c H locs 0 0 (MQ below (mm_Q rv_v D cl tys post mw A) args s 0 0 A) (F0 m pc ls []) :=
  W.vret hx hb hr (fun t ht hW => ⟨⟨(), u1, rfl, hq, by rw [ht]; exact hP, va_K.moved hW.alike hK, hD.weaken (fun _ _ _ _ => trivial)⟩, hS.F ht⟩) hS.2.2 hdg
end MR
-- ===== the object and its row =====
section WS
abbrev wS : Type := (Nat → Int64) × Int32 × Int32 × Int32 × Int32
abbrev wW (h a : Nat) (cA : ClassId) (u : wS) : va_W := [(h, .inr (0, [.ref a, .int u.2.1, .int u.2.2.1, .int u.2.2.2.1, .int u.2.2.2.2])), (a, .inl (cA, 4096, .inr (.inl u.1)))]
abbrev wA (h a : Nat) : Nat → Prop := fun q => q = h ∨ q = a
def wI (u : wS) : Prop := vp_in u.2.1 4096 ∧ vp_in u.2.2.1 4096
theorem wA_in (h a : Nat) (cA : ClassId) (u : wS) : ∀ (k : Nat) (q : Nat × va_E), (wW h a cA u)[k]? = some q → wA h a q.1 := by
  intro k q hk
  match k, hk with
  | 0, hk => cases hk; exact Or.inl rfl
  | 1, hk => cases hk; exact Or.inr rfl
theorem wA_at (h a : Nat) (cA : ClassId) (u : wS) : ∀ q, wA h a q → ∃ e', (q, e') ∈ wW h a cA u := by
  intro q hq
  rcases hq with rfl | rfl
  · exact ⟨_, List.mem_cons_self⟩
  · exact ⟨_, List.mem_cons_of_mem _ List.mem_cons_self⟩
abbrev rS : Type := (Nat → Int64) × Int32 × Int32 × Int32 × Int32 × Int64
abbrev rW (h a : Nat) (cA : ClassId) (u : rS) : va_W := [(h, .inr (1, [.int u.2.1, .ref a, .int u.2.2.1, .int u.2.2.2.1, .int u.2.2.2.2.1, .long u.2.2.2.2.2])), (a, .inl (cA, 4096, .inr (.inl u.1)))]
def rI (u : rS) : Prop := vp_in u.2.2.1 4096
theorem rA_in (h a : Nat) (cA : ClassId) (u : rS) : ∀ (k : Nat) (q : Nat × va_E), (rW h a cA u)[k]? = some q → wA h a q.1 := by
  intro k q hk
  match k, hk with
  | 0, hk => cases hk; exact Or.inl rfl
  | 1, hk => cases hk; exact Or.inr rfl
theorem rA_at (h a : Nat) (cA : ClassId) (u : rS) : ∀ q, wA h a q → ∃ e', (q, e') ∈ rW h a cA u := by
  intro q hq
  rcases hq with rfl | rfl
  · exact ⟨_, List.mem_cons_self⟩
  · exact ⟨_, List.mem_cons_of_mem _ List.mem_cons_self⟩
variable {p : Program} {l : Launch} {e : Env} {R : Room} {s : State} {m : MethodId} {args : Array Value} {below : List Frame} {meth : Method} {c : Code} {H : Heap} {locs : List Loc} {cells slots : Nat} {Q : State → Prop}
variable {y : MethodName} {bytes cc : ByteArray} {maxL nL n index pc : Nat} {ret : Option FieldType} {ws : List Cond} {rm : Room} {Ts : List Cond} {own : String} {As rest st0 : List Value} {ls : Array Slot} {D : va_G} {tys : List (ClassId × FieldType)} {h a : Nat} {cA : ClassId}
/-- calls of the object's own methods -/
theorem w_go {ρ : Type} {rv : ρ → Option Value} {post : ρ → wS → Prop} {u : wS} (S0 : CallFix p m c cc nL s args Ts own) (hM : MM l y ws rm D vwCl tys (wW h a cA) (wA h a) u (.ref h :: As) rv post) (cw : CallW R s args own RX0 index y bytes maxL ret ws rm 0 0 n) (hK : va_K D vwCl tys s) (hP : va_P D vwCl (wW h a cA u) H) (hD : va_D (wA h a) (wW h a cA u)) (hS : va_S (wA h a) s.heap H locs)
    (hn : As.length = n) (hsize : ls.size = nL) (hstack : st0 = As.reverse ++ .ref h :: rest) (hW : (rest.map fun v => v.category).sum ≤ 8) (hdg : decode cc pc = .ok (.invokevirtual index, 3)) (hf : cells ≤ R.cells ∧ slots ≤ R.slots)
    (kk : ∀ (r : ρ) (u' : wS) (H1 : Heap) (locs1 : List Loc), post r u' → va_P D vwCl (wW h a cA u') H1 → va_D (wA h a) (wW h a cA u') → va_S (wA h a) s.heap H1 locs1 → W p l e R s m args below meth c H1 locs1 cells slots Q (F0 m (pc + 3) ls ((rv r).toList ++ rest))) : W p l e R s m args below meth c H locs cells slots Q (F0 m pc ls st0) :=
  mm_go (ci := 0) (q0 := 0) (q := (RX0, TX0, 5)) S0 hM cw hK hP hD hS rfl rfl [0, 1] rfl rfl (wA_at h a cA u) (fun _ => rfl) hn hsize hstack hW hdg hf kk
theorem r_go {ρ : Type} {rv : ρ → Option Value} {post : ρ → rS → Prop} {u : rS} (S0 : CallFix p m c cc nL s args Ts own) (hM : MM l y ws rm D vwCl tys (rW h a cA) (wA h a) u (.ref h :: As) rv post) (cw : CallW R s args own RX1 index y bytes maxL ret ws rm 0 0 n) (hK : va_K D vwCl tys s) (hP : va_P D vwCl (rW h a cA u) H) (hD : va_D (wA h a) (rW h a cA u)) (hS : va_S (wA h a) s.heap H locs)
    (hn : As.length = n) (hsize : ls.size = nL) (hstack : st0 = As.reverse ++ .ref h :: rest) (hW : (rest.map fun v => v.category).sum ≤ 8) (hdg : decode cc pc = .ok (.invokevirtual index, 3)) (hf : cells ≤ R.cells ∧ slots ≤ R.slots)
    (kk : ∀ (r : ρ) (u' : rS) (H1 : Heap) (locs1 : List Loc), post r u' → va_P D vwCl (rW h a cA u') H1 → va_D (wA h a) (rW h a cA u') → va_S (wA h a) s.heap H1 locs1 → W p l e R s m args below meth c H1 locs1 cells slots Q (F0 m (pc + 3) ls ((rv r).toList ++ rest))) : W p l e R s m args below meth c H locs cells slots Q (F0 m pc ls st0) :=
  mm_go (ci := 1) (q0 := 0) (q := (RX1, TX1, 6)) S0 hM cw hK hP hD hS rfl rfl [0, 1] rfl rfl (rA_at h a cA u) (fun _ => rfl) hn hsize hstack hW hdg hf kk
end WS
end
section
theorem tst_all : ∀ k : Nat, k < 64 → ((nI (192 + k) &&& 8 = 0) ∧ (nI (192 + k) &&& 504 = 192 ∨ nI (192 + k) &&& 504 = 208 ∨ nI (192 + k) &&& 504 = 224 ∨ nI (192 + k) &&& 504 = 240)) ∨ ((¬ nI (192 + k) &&& 8 = 0) ∧ (nI (192 + k) &&& 504 = 200 ∨ nI (192 + k) &&& 504 = 216 ∨ nI (192 + k) &&& 504 = 232 ∨ nI (192 + k) &&& 504 = 248)) := by decide
theorem tst_k {op : Int32} (h1 : ¬ op < 192) (h2 : ¬ 255 < op) : ∃ k : Nat, k < 64 ∧ op = nI (192 + k) := by
  rw [Int32.lt_iff_toInt_lt] at h1 h2
  have e1 : (192 : Int32).toInt = 192 := by decide
  have e2 : (255 : Int32).toInt = 255 := by decide
  rw [e1] at h1
  rw [e2] at h2
  refine ⟨(op.toInt - 192).toNat, by omega, ?_⟩
  apply Int32.toInt_inj.mp
  rw [nI_toInt (by omega)]
  omega
theorem tst_0 {op : Int32} (h1 : ¬ op < 192) (h2 : ¬ 255 < op) (h : op &&& 8 = 0) : op &&& 504 = 192 ∨ op &&& 504 = 208 ∨ op &&& 504 = 224 ∨ op &&& 504 = 240 := by
  obtain ⟨k, hk, rfl⟩ := tst_k h1 h2
  rcases tst_all k hk with q | q
  · exact q.2
  · exact absurd h q.1
theorem tst_1 {op : Int32} (h1 : ¬ op < 192) (h2 : ¬ 255 < op) (h : ¬ op &&& 8 = 0) : op &&& 504 = 200 ∨ op &&& 504 = 216 ∨ op &&& 504 = 232 ∨ op &&& 504 = 248 := by
  obtain ⟨k, hk, rfl⟩ := tst_k h1 h2
  rcases tst_all k hk with q | q
  · exact absurd q.1 h
  · exact q.2
theorem tb_out3 {x : Int32} (h0 : ¬ x = 0) (h1 : ¬ x = 1) (h2 : ¬ x = 2) : x.toInt < 0 ∨ 2 < x.toInt := by
  have a0 := lv_neT h0 (show (0 : Int32).toInt = 0 by decide)
  have a1 := lv_neT h1 (show (1 : Int32).toInt = 1 by decide)
  have a2 := lv_neT h2 (show (2 : Int32).toInt = 2 by decide)
  omega
end
section
set_option maxHeartbeats 4000000 in
set_option maxRecDepth 100000 in
theorem kX0_number (l : Launch) (w : Int64)  : PS l yX0_number wsX0_number ({ frames := 0, cells := 0, slots := 0, locals := 0 }) [.long w] rv_l (fun _ => True) := by
  refine ps_of (cc := cX0_number) (maxL := 2) (ret := (some .long)) (by decide) rfl (Nat.le_of_ble_eq_true rfl) ?_
  intro p e s m below meth c ls C hl
  obtain ⟨hx, hb, hr, hml, hown, hts, hlocks⟩ := C
  have hl : lv_has ls 2 [(0, .long w)] := hl
  refine lv_lload_n hx hb dX0_number_0 rfl (lv_at hl 0 rfl) ?_
  refine lv_bipush (v := 28) hx hb dX0_number_1 (by decide) ?_
  refine lv_lshl hx hb dX0_number_3 rfl ?_
  refine lv_bipush (v := 28) hx hb dX0_number_4 (by decide) ?_
  refine lv_lshr hx hb dX0_number_6 rfl ?_
  exact ps_lret hx hb hr hlocks dX0_number_7 trivial
set_option maxHeartbeats 4000000 in
set_option maxRecDepth 100000 in
theorem kX0_rightHalf (l : Launch) (w : Int64)  : PS l yX0_rightHalf wsX0_rightHalf ({ frames := 0, cells := 0, slots := 0, locals := 0 }) [.long w] rv_i (fun r => vp_in r 262144) := by
  refine ps_of (cc := cX0_rightHalf) (maxL := 2) (ret := (some .int)) (by decide) rfl (Nat.le_of_ble_eq_true rfl) ?_
  intro p e s m below meth c ls C hl
  obtain ⟨hx, hb, hr, hml, hown, hts, hlocks⟩ := C
  have hl : lv_has ls 2 [(0, .long w)] := hl
  refine lv_lload_n hx hb dX0_rightHalf_0 rfl (lv_at hl 0 rfl) ?_
  refine lv_l2i hx hb dX0_rightHalf_1 rfl ?_
  refine lv_ldc (v := 262143) hx hb hown (hts (.constant RX0 34 262143) (by decide +kernel)) dX0_rightHalf_2 ?_
  refine lv_iand hx hb dX0_rightHalf_4 ?_
  exact ps_iret hx hb hr hlocks dX0_rightHalf_5 (vp_and18 _)
set_option maxHeartbeats 4000000 in
set_option maxRecDepth 100000 in
theorem kX0_leftHalf (l : Launch) (w : Int64)  : PS l yX0_leftHalf wsX0_leftHalf ({ frames := 0, cells := 0, slots := 0, locals := 0 }) [.long w] rv_i (fun r => vp_in r 262144) := by
  refine ps_of (cc := cX0_leftHalf) (maxL := 2) (ret := (some .int)) (by decide) rfl (Nat.le_of_ble_eq_true rfl) ?_
  intro p e s m below meth c ls C hl
  obtain ⟨hx, hb, hr, hml, hown, hts, hlocks⟩ := C
  have hl : lv_has ls 2 [(0, .long w)] := hl
  refine lv_lload_n hx hb dX0_leftHalf_0 rfl (lv_at hl 0 rfl) ?_
  refine lv_bipush (v := 18) hx hb dX0_leftHalf_1 (by decide) ?_
  refine lv_lshr hx hb dX0_leftHalf_3 rfl ?_
  refine lv_l2i hx hb dX0_leftHalf_4 rfl ?_
  refine lv_ldc (v := 262143) hx hb hown (hts (.constant RX0 34 262143) (by decide +kernel)) dX0_leftHalf_5 ?_
  refine lv_iand hx hb dX0_leftHalf_7 ?_
  exact ps_iret hx hb hr hlocks dX0_leftHalf_8 (vp_and18 _)
set_option maxHeartbeats 4000000 in
set_option maxRecDepth 100000 in
theorem kX0_isIndirect (l : Launch) (w : Int64)  : PS l yX0_isIndirect wsX0_isIndirect ({ frames := 0, cells := 0, slots := 0, locals := 0 }) [.long w] rv_i (fun _ => True) := by
  refine ps_of (cc := cX0_isIndirect) (maxL := 2) (ret := (some .boolean)) (by decide) rfl (Nat.le_of_ble_eq_true rfl) ?_
  intro p e s m below meth c ls C hl
  obtain ⟨hx, hb, hr, hml, hown, hts, hlocks⟩ := C
  have hl : lv_has ls 2 [(0, .long w)] := hl
  refine lv_lload_n hx hb dX0_isIndirect_0 rfl (lv_at hl 0 rfl) ?_
  refine lv_bipush (v := 22) hx hb dX0_isIndirect_1 (by decide) ?_
  refine lv_lshr hx hb dX0_isIndirect_3 rfl ?_
  refine lv_lconst (v := 1) hx hb dX0_isIndirect_4 (by decide) ?_
  refine lv_land hx hb dX0_isIndirect_5 ?_
  refine lv_lconst (v := 1) hx hb dX0_isIndirect_6 (by decide) ?_
  refine W.lcmp hx hb dX0_isIndirect_7 ?_
  refine lv_if_ne (tgt := 15) hx hb dX0_isIndirect_8 (by decide) (fun c_8 => ?_) (fun c_8 => ?_)
  · refine lv_iconst (v := 0) hx hb dX0_isIndirect_15 (by decide) ?_
    exact ps_zret hx hb hr hlocks dX0_isIndirect_16 rfl trivial
  · refine lv_iconst (v := 1) hx hb dX0_isIndirect_11 (by decide) ?_
    refine lv_goto (tgt := 16) hx hb dX0_isIndirect_12 (by decide) ?_
    exact ps_zret hx hb hr hlocks dX0_isIndirect_16 rfl trivial
set_option maxHeartbeats 4000000 in
set_option maxRecDepth 100000 in
theorem kX0_isOfHalves (l : Launch) (op : Int32)  : PS l yX0_isOfHalves wsX0_isOfHalves ({ frames := 0, cells := 0, slots := 0, locals := 0 }) [.int op] rv_i (fun _ => True) := by
  refine ps_of (cc := cX0_isOfHalves) (maxL := 1) (ret := (some .boolean)) (by decide) rfl (Nat.le_of_ble_eq_true rfl) ?_
  intro p e s m below meth c ls C hl
  obtain ⟨hx, hb, hr, hml, hown, hts, hlocks⟩ := C
  have hl : lv_has ls 1 [(0, .int op)] := hl
  refine lv_iload_n hx hb dX0_isOfHalves_0 rfl (lv_at hl 0 rfl) ?_
  refine lv_sipush (v := 320) hx hb dX0_isOfHalves_1 (by decide) ?_
  refine lv_icmp_lt (tgt := 11) hx hb dX0_isOfHalves_4 (by decide) (fun c_4 => ?_) (fun c_4 => ?_)
  · refine lv_iconst (v := 0) hx hb dX0_isOfHalves_11 (by decide) ?_
    exact ps_zret hx hb hr hlocks dX0_isOfHalves_12 rfl trivial
  · refine lv_iconst (v := 1) hx hb dX0_isOfHalves_7 (by decide) ?_
    refine lv_goto (tgt := 12) hx hb dX0_isOfHalves_8 (by decide) ?_
    exact ps_zret hx hb hr hlocks dX0_isOfHalves_12 rfl trivial
set_option maxHeartbeats 4000000 in
set_option maxRecDepth 100000 in
theorem kX0_isTest (l : Launch) (op : Int32)  : PS l yX0_isTest wsX0_isTest ({ frames := 0, cells := 0, slots := 0, locals := 0 }) [.int op] rv_i (fun r => r = 0 ∨ (¬ op < 192 ∧ ¬ 255 < op)) := by
  refine ps_of (cc := cX0_isTest) (maxL := 1) (ret := (some .boolean)) (by decide) rfl (Nat.le_of_ble_eq_true rfl) ?_
  intro p e s m below meth c ls C hl
  obtain ⟨hx, hb, hr, hml, hown, hts, hlocks⟩ := C
  have hl : lv_has ls 1 [(0, .int op)] := hl
  refine lv_iload_n hx hb dX0_isTest_0 rfl (lv_at hl 0 rfl) ?_
  refine lv_sipush (v := 192) hx hb dX0_isTest_1 (by decide) ?_
  refine lv_icmp_lt (tgt := 18) hx hb dX0_isTest_4 (by decide) (fun c_4 => ?_) (fun c_4 => ?_)
  · refine lv_iconst (v := 0) hx hb dX0_isTest_18 (by decide) ?_
    exact ps_zret hx hb hr hlocks dX0_isTest_19 rfl (Or.inl rfl)
  · refine lv_iload_n hx hb dX0_isTest_7 rfl (lv_at hl 0 rfl) ?_
    refine lv_sipush (v := 255) hx hb dX0_isTest_8 (by decide) ?_
    refine lv_icmp_gt (tgt := 18) hx hb dX0_isTest_11 (by decide) (fun c_11 => ?_) (fun c_11 => ?_)
    · refine lv_iconst (v := 0) hx hb dX0_isTest_18 (by decide) ?_
      exact ps_zret hx hb hr hlocks dX0_isTest_19 rfl (Or.inl rfl)
    · refine lv_iconst (v := 1) hx hb dX0_isTest_14 (by decide) ?_
      refine lv_goto (tgt := 19) hx hb dX0_isTest_15 (by decide) ?_
      exact ps_zret hx hb hr hlocks dX0_isTest_19 rfl (Or.inr ⟨c_4, c_11⟩)
set_option maxHeartbeats 4000000 in
set_option maxRecDepth 100000 in
theorem kX0_shifted (l : Launch) (c0 : Int64) (e0 : Int32)  : PS l yX0_shifted wsX0_shifted ({ frames := 0, cells := 0, slots := 0, locals := 0 }) [.long c0, .int e0] rv_l (fun _ => True) := by
  refine ps_of (cc := cX0_shifted) (maxL := 4) (ret := (some .long)) (by decide) rfl (Nat.le_of_ble_eq_true rfl) ?_
  intro p e s m below meth c ls C hl
  obtain ⟨hx, hb, hr, hml, hown, hts, hlocks⟩ := C
  have hl : lv_has ls 4 [(0, .long c0), (2, .int e0)] := hl
  refine lv_iload_n hx hb dX0_shifted_0 rfl (lv_at hl 1 rfl) ?_
  refine lv_bipush (v := 14) hx hb dX0_shifted_1 (by decide) ?_
  refine lv_ishl hx hb dX0_shifted_3 ?_
  refine lv_bipush (v := 14) hx hb dX0_shifted_4 (by decide) ?_
  refine lv_ishr hx hb dX0_shifted_6 ?_
  refine lv_topi (fun x_7 ex_7 => ?_)
  refine lv_istore_n (lv' := [(3, .int x_7), (0, .long c0), (2, .int e0)]) hx hb dX0_shifted_7 rfl hl (by decide) rfl (fun ls hl => ?_)
  refine lv_iload_n hx hb dX0_shifted_8 rfl (lv_at hl 0 rfl) ?_
  refine lv_bipush (v := 36) hx hb dX0_shifted_9 (by decide) ?_
  refine lv_icmp_ge (tgt := 20) hx hb dX0_shifted_11 (by decide) (fun c_11 => ?_) (fun c_11 => ?_)
  · refine lv_lconst (v := 0) hx hb dX0_shifted_20 (by decide) ?_
    exact ps_lret hx hb hr hlocks dX0_shifted_21 trivial
  · refine lv_iload_n hx hb dX0_shifted_14 rfl (lv_at hl 0 rfl) ?_
    refine lv_bipush (v := -36) hx hb dX0_shifted_15 (by decide) ?_
    refine lv_icmp_gt (tgt := 22) hx hb dX0_shifted_17 (by decide) (fun c_17 => ?_) (fun c_17 => ?_)
    · refine lv_iload_n hx hb dX0_shifted_22 rfl (lv_at hl 0 rfl) ?_
      refine lv_if_lt (tgt := 32) hx hb dX0_shifted_23 (by decide) (fun c_23 => ?_) (fun c_23 => ?_)
      · refine lv_lload_n hx hb dX0_shifted_32 rfl (lv_at hl 1 rfl) ?_
        refine lv_iload_n hx hb dX0_shifted_33 rfl (lv_at hl 0 rfl) ?_
        refine lv_ineg hx hb dX0_shifted_34 ?_
        refine lv_lshr hx hb dX0_shifted_35 rfl ?_
        exact ps_lret hx hb hr hlocks dX0_shifted_36 trivial
      · refine lv_lload_n hx hb dX0_shifted_26 rfl (lv_at hl 1 rfl) ?_
        refine lv_iload_n hx hb dX0_shifted_27 rfl (lv_at hl 0 rfl) ?_
        refine lv_lshl hx hb dX0_shifted_28 rfl ?_
        refine lv_goto (tgt := 36) hx hb dX0_shifted_29 (by decide) ?_
        exact ps_lret hx hb hr hlocks dX0_shifted_36 trivial
    · refine lv_lconst (v := 0) hx hb dX0_shifted_20 (by decide) ?_
      exact ps_lret hx hb hr hlocks dX0_shifted_21 trivial
set_option maxHeartbeats 4000000 in
set_option maxRecDepth 100000 in
theorem kX0_ofHalves (l : Launch) (op : Int32) (c0 : Int64) (o0 : Int64)  : PS l yX0_ofHalves wsX0_ofHalves ({ frames := 1, cells := 0, slots := 0, locals := 21 }) [.int op, .long c0, .long o0] rv_l (fun _ => True) := by
  refine ps_of (cc := cX0_ofHalves) (maxL := 5) (ret := (some .long)) (by decide) rfl (Nat.le_of_ble_eq_true rfl) ?_
  intro p e s m below meth c ls C hl
  obtain ⟨hx, hb, hr, hml, hown, hts, hlocks⟩ := C
  have hl : lv_has ls 5 [(0, .int op), (1, .long c0), (3, .long o0)] := hl
  refine lv_iload_n hx hb dX0_ofHalves_0 rfl (lv_at hl 0 rfl) ?_
  by_cases k_320 : op = 320
  · subst k_320
    refine lv_lookup (tgt := 52) hx hb dX0_ofHalves_1 (by decide) rfl (by decide) ?_
    refine lv_lload_n hx hb dX0_ofHalves_52 rfl (lv_at hl 2 rfl) ?_
    refine lv_ldc2 (v := 68719214592) hx hb hown (hts (.constantLong RX0 130 68719214592) (by decide +kernel)) dX0_ofHalves_53 ?_
    refine lv_land hx hb dX0_ofHalves_56 ?_
    refine lv_lload_n hx hb dX0_ofHalves_57 rfl (lv_at hl 1 rfl) ?_
    refine ps_goi (As := [.long c0]) (rest := [.long (o0 &&& 68719214592)]) ⟨hx, hb, hml, hown, hts⟩ (kX0_rightHalf l c0) (va_cwS 1 hts gX0_ofHalves_X0_rightHalf rfl rfl rfl (by decide +kernel) ⟨by decide, by decide⟩) rfl hl.1 rfl (Nat.le_of_ble_eq_true rfl) dX0_ofHalves_58 ⟨Nat.zero_le _, Nat.zero_le _⟩ (fun r_58 q_58 => ?_)
    refine lv_i2l hx hb dX0_ofHalves_61 rfl ?_
    refine lv_lor hx hb dX0_ofHalves_62 ?_
    exact ps_lret hx hb hr hlocks dX0_ofHalves_63 trivial
  by_cases k_324 : op = 324
  · subst k_324
    refine lv_lookup (tgt := 64) hx hb dX0_ofHalves_1 (by decide) rfl (by decide) ?_
    refine lv_lload_n hx hb dX0_ofHalves_64 rfl (lv_at hl 2 rfl) ?_
    refine ps_goi (As := [.long o0]) (rest := []) ⟨hx, hb, hml, hown, hts⟩ (kX0_rightHalf l o0) (va_cwS 1 hts gX0_ofHalves_X0_rightHalf rfl rfl rfl (by decide +kernel) ⟨by decide, by decide⟩) rfl hl.1 rfl (Nat.le_of_ble_eq_true rfl) dX0_ofHalves_65 ⟨Nat.zero_le _, Nat.zero_le _⟩ (fun r_65 q_65 => ?_)
    refine lv_i2l hx hb dX0_ofHalves_68 rfl ?_
    refine lv_bipush (v := 18) hx hb dX0_ofHalves_69 (by decide) ?_
    refine lv_lshl hx hb dX0_ofHalves_71 rfl ?_
    refine lv_lload_n hx hb dX0_ofHalves_72 rfl (lv_at hl 1 rfl) ?_
    refine ps_goi (As := [.long c0]) (rest := [.long ((r_65 : Int32).toInt64 <<< ((18 : Int32).toInt64 &&& 63))]) ⟨hx, hb, hml, hown, hts⟩ (kX0_rightHalf l c0) (va_cwS 1 hts gX0_ofHalves_X0_rightHalf rfl rfl rfl (by decide +kernel) ⟨by decide, by decide⟩) rfl hl.1 rfl (Nat.le_of_ble_eq_true rfl) dX0_ofHalves_73 ⟨Nat.zero_le _, Nat.zero_le _⟩ (fun r_73 q_73 => ?_)
    refine lv_i2l hx hb dX0_ofHalves_76 rfl ?_
    refine lv_lor hx hb dX0_ofHalves_77 ?_
    exact ps_lret hx hb hr hlocks dX0_ofHalves_78 trivial
  by_cases k_352 : op = 352
  · subst k_352
    refine lv_lookup (tgt := 79) hx hb dX0_ofHalves_1 (by decide) rfl (by decide) ?_
    refine lv_lload_n hx hb dX0_ofHalves_79 rfl (lv_at hl 1 rfl) ?_
    refine lv_ldc2 (v := 68719214592) hx hb hown (hts (.constantLong RX0 130 68719214592) (by decide +kernel)) dX0_ofHalves_80 ?_
    refine lv_land hx hb dX0_ofHalves_83 ?_
    refine lv_lload_n hx hb dX0_ofHalves_84 rfl (lv_at hl 2 rfl) ?_
    refine ps_goi (As := [.long o0]) (rest := [.long (c0 &&& 68719214592)]) ⟨hx, hb, hml, hown, hts⟩ (kX0_rightHalf l o0) (va_cwS 1 hts gX0_ofHalves_X0_rightHalf rfl rfl rfl (by decide +kernel) ⟨by decide, by decide⟩) rfl hl.1 rfl (Nat.le_of_ble_eq_true rfl) dX0_ofHalves_85 ⟨Nat.zero_le _, Nat.zero_le _⟩ (fun r_85 q_85 => ?_)
    refine lv_i2l hx hb dX0_ofHalves_88 rfl ?_
    refine lv_lor hx hb dX0_ofHalves_89 ?_
    exact ps_lret hx hb hr hlocks dX0_ofHalves_90 trivial
  by_cases k_356 : op = 356
  · subst k_356
    refine lv_lookup (tgt := 91) hx hb dX0_ofHalves_1 (by decide) rfl (by decide) ?_
    refine lv_lload_n hx hb dX0_ofHalves_91 rfl (lv_at hl 1 rfl) ?_
    refine lv_ldc2 (v := 68719214592) hx hb hown (hts (.constantLong RX0 130 68719214592) (by decide +kernel)) dX0_ofHalves_92 ?_
    refine lv_land hx hb dX0_ofHalves_95 ?_
    refine lv_lload_n hx hb dX0_ofHalves_96 rfl (lv_at hl 2 rfl) ?_
    refine ps_goi (As := [.long o0]) (rest := [.long (c0 &&& 68719214592)]) ⟨hx, hb, hml, hown, hts⟩ (kX0_leftHalf l o0) (va_cwS 1 hts gX0_ofHalves_X0_leftHalf rfl rfl rfl (by decide +kernel) ⟨by decide, by decide⟩) rfl hl.1 rfl (Nat.le_of_ble_eq_true rfl) dX0_ofHalves_97 ⟨Nat.zero_le _, Nat.zero_le _⟩ (fun r_97 q_97 => ?_)
    refine lv_i2l hx hb dX0_ofHalves_100 rfl ?_
    refine lv_lor hx hb dX0_ofHalves_101 ?_
    exact ps_lret hx hb hr hlocks dX0_ofHalves_102 trivial
  by_cases k_360 : op = 360
  · subst k_360
    refine lv_lookup (tgt := 103) hx hb dX0_ofHalves_1 (by decide) rfl (by decide) ?_
    refine lv_lload_n hx hb dX0_ofHalves_103 rfl (lv_at hl 2 rfl) ?_
    refine ps_goi (As := [.long o0]) (rest := []) ⟨hx, hb, hml, hown, hts⟩ (kX0_rightHalf l o0) (va_cwS 1 hts gX0_ofHalves_X0_rightHalf rfl rfl rfl (by decide +kernel) ⟨by decide, by decide⟩) rfl hl.1 rfl (Nat.le_of_ble_eq_true rfl) dX0_ofHalves_104 ⟨Nat.zero_le _, Nat.zero_le _⟩ (fun r_104 q_104 => ?_)
    refine lv_i2l hx hb dX0_ofHalves_107 rfl ?_
    exact ps_lret hx hb hr hlocks dX0_ofHalves_108 trivial
  refine lv_lookup (off := 108) (tgt := 109) hx hb dX0_ofHalves_1 (by decide) ((lv_osw k_320 (by decide)).trans <| (lv_osw k_324 (by decide)).trans <| (lv_osw k_352 (by decide)).trans <| (lv_osw k_356 (by decide)).trans <| (lv_osw k_360 (by decide)).trans <| rfl) (by decide) ?_
  refine lv_lload_n hx hb dX0_ofHalves_109 rfl (lv_at hl 2 rfl) ?_
  refine ps_goi (As := [.long o0]) (rest := []) ⟨hx, hb, hml, hown, hts⟩ (kX0_leftHalf l o0) (va_cwS 1 hts gX0_ofHalves_X0_leftHalf rfl rfl rfl (by decide +kernel) ⟨by decide, by decide⟩) rfl hl.1 rfl (Nat.le_of_ble_eq_true rfl) dX0_ofHalves_110 ⟨Nat.zero_le _, Nat.zero_le _⟩ (fun r_110 q_110 => ?_)
  refine lv_i2l hx hb dX0_ofHalves_113 rfl ?_
  exact ps_lret hx hb hr hlocks dX0_ofHalves_114 trivial
set_option maxHeartbeats 4000000 in
set_option maxRecDepth 100000 in
theorem kX0_ofWords (l : Launch) (op : Int32) (c0 : Int64) (o0 : Int64)  : PS l yX0_ofWords wsX0_ofWords ({ frames := 1, cells := 0, slots := 0, locals := 23 }) [.int op, .long c0, .long o0] rv_l (fun _ => True) := by
  refine ps_of (cc := cX0_ofWords) (maxL := 5) (ret := (some .long)) (by decide) rfl (Nat.le_of_ble_eq_true rfl) ?_
  intro p e s m below meth c ls C hl
  obtain ⟨hx, hb, hr, hml, hown, hts, hlocks⟩ := C
  have hl : lv_has ls 5 [(0, .int op), (1, .long c0), (3, .long o0)] := hl
  refine lv_iload_n hx hb dX0_ofWords_0 rfl (lv_at hl 0 rfl) ?_
  by_cases k_132 : op = 132
  · subst k_132
    refine lv_lookup (tgt := 156) hx hb dX0_ofWords_1 (by decide) rfl (by decide) ?_
    refine lv_lload_n hx hb dX0_ofWords_156 rfl (lv_at hl 2 rfl) ?_
    refine lv_bipush (v := 18) hx hb dX0_ofWords_157 (by decide) ?_
    refine lv_lshl hx hb dX0_ofWords_159 rfl ?_
    refine lv_lload_n hx hb dX0_ofWords_160 rfl (lv_at hl 2 rfl) ?_
    refine ps_goi (As := [.long o0]) (rest := [.long (o0 <<< ((18 : Int32).toInt64 &&& 63))]) ⟨hx, hb, hml, hown, hts⟩ (kX0_leftHalf l o0) (va_cwS 1 hts gX0_ofWords_X0_leftHalf rfl rfl rfl (by decide +kernel) ⟨by decide, by decide⟩) rfl hl.1 rfl (Nat.le_of_ble_eq_true rfl) dX0_ofWords_161 ⟨Nat.zero_le _, Nat.zero_le _⟩ (fun r_161 q_161 => ?_)
    refine lv_i2l hx hb dX0_ofWords_164 rfl ?_
    refine lv_lor hx hb dX0_ofWords_165 ?_
    exact ps_lret hx hb hr hlocks dX0_ofWords_166 trivial
  by_cases k_136 : op = 136
  · subst k_136
    refine lv_lookup (tgt := 167) hx hb dX0_ofWords_1 (by decide) rfl (by decide) ?_
    refine lv_lload_n hx hb dX0_ofWords_167 rfl (lv_at hl 2 rfl) ?_
    refine lv_lneg hx hb dX0_ofWords_168 ?_
    exact ps_lret hx hb hr hlocks dX0_ofWords_169 trivial
  by_cases k_140 : op = 140
  · subst k_140
    refine lv_lookup (tgt := 170) hx hb dX0_ofWords_1 (by decide) rfl (by decide) ?_
    refine lv_lload_n hx hb dX0_ofWords_170 rfl (lv_at hl 2 rfl) ?_
    refine ps_gol (As := [.long o0]) (rest := []) ⟨hx, hb, hml, hown, hts⟩ (kX0_number l o0) (va_cwS 1 hts gX0_ofWords_X0_number rfl rfl rfl (by decide +kernel) ⟨by decide, by decide⟩) rfl hl.1 rfl (Nat.le_of_ble_eq_true rfl) dX0_ofWords_171 ⟨Nat.zero_le _, Nat.zero_le _⟩ (fun r_171 q_171 => ?_)
    refine va_mabs_long hx hb (hml.trans hl.1.symm) hown (hts (.methodLink RX0 119 Lib.MathLoose.abs_long.x) (by decide +kernel)) (hts (.static Lib.MathLoose.abs_long.x) (by decide +kernel)) (hts (.initialized "java/lang/Math") (by decide +kernel)) (hts (.code Lib.MathLoose.abs_long.x Lib.MathLoose.abs_long.code 2 (some .long)) (by decide +kernel)) (by decide) (by decide) (Nat.zero_le _) (Nat.zero_le _) dX0_ofWords_174 ?_
    exact ps_lret hx hb hr hlocks dX0_ofWords_177 trivial
  by_cases k_144 : op = 144
  · subst k_144
    refine lv_lookup (tgt := 178) hx hb dX0_ofWords_1 (by decide) rfl (by decide) ?_
    refine lv_lload_n hx hb dX0_ofWords_178 rfl (lv_at hl 1 rfl) ?_
    refine lv_lload_n hx hb dX0_ofWords_179 rfl (lv_at hl 2 rfl) ?_
    refine lv_lmul hx hb dX0_ofWords_180 ?_
    exact ps_lret hx hb hr hlocks dX0_ofWords_181 trivial
  by_cases k_145 : op = 145
  · subst k_145
    refine lv_lookup (tgt := 178) hx hb dX0_ofWords_1 (by decide) rfl (by decide) ?_
    refine lv_lload_n hx hb dX0_ofWords_178 rfl (lv_at hl 1 rfl) ?_
    refine lv_lload_n hx hb dX0_ofWords_179 rfl (lv_at hl 2 rfl) ?_
    refine lv_lmul hx hb dX0_ofWords_180 ?_
    exact ps_lret hx hb hr hlocks dX0_ofWords_181 trivial
  by_cases k_162 : op = 162
  · subst k_162
    refine lv_lookup (tgt := 182) hx hb dX0_ofWords_1 (by decide) rfl (by decide) ?_
    refine lv_lload_n hx hb dX0_ofWords_182 rfl (lv_at hl 1 rfl) ?_
    refine lv_lload_n hx hb dX0_ofWords_183 rfl (lv_at hl 2 rfl) ?_
    refine lv_l2i hx hb dX0_ofWords_184 rfl ?_
    refine ps_gol (As := [.long c0, .int ((o0 : Int64).toInt32)]) (rest := []) ⟨hx, hb, hml, hown, hts⟩ (kX0_shifted l c0 ((o0 : Int64).toInt32)) (va_cwS 2 hts gX0_ofWords_X0_shifted rfl rfl rfl (by decide +kernel) ⟨by decide, by decide⟩) rfl hl.1 rfl (Nat.le_of_ble_eq_true rfl) dX0_ofWords_185 ⟨Nat.zero_le _, Nat.zero_le _⟩ (fun r_185 q_185 => ?_)
    exact ps_lret hx hb hr hlocks dX0_ofWords_188 trivial
  by_cases k_184 : op = 184
  · subst k_184
    refine lv_lookup (tgt := 189) hx hb dX0_ofWords_1 (by decide) rfl (by decide) ?_
    refine lv_lload_n hx hb dX0_ofWords_189 rfl (lv_at hl 1 rfl) ?_
    refine lv_lload_n hx hb dX0_ofWords_190 rfl (lv_at hl 2 rfl) ?_
    refine lv_ladd hx hb dX0_ofWords_191 ?_
    exact ps_lret hx hb hr hlocks dX0_ofWords_192 trivial
  by_cases k_185 : op = 185
  · subst k_185
    refine lv_lookup (tgt := 189) hx hb dX0_ofWords_1 (by decide) rfl (by decide) ?_
    refine lv_lload_n hx hb dX0_ofWords_189 rfl (lv_at hl 1 rfl) ?_
    refine lv_lload_n hx hb dX0_ofWords_190 rfl (lv_at hl 2 rfl) ?_
    refine lv_ladd hx hb dX0_ofWords_191 ?_
    exact ps_lret hx hb hr hlocks dX0_ofWords_192 trivial
  by_cases k_188 : op = 188
  · subst k_188
    refine lv_lookup (tgt := 193) hx hb dX0_ofWords_1 (by decide) rfl (by decide) ?_
    refine lv_lload_n hx hb dX0_ofWords_193 rfl (lv_at hl 1 rfl) ?_
    refine lv_lload_n hx hb dX0_ofWords_194 rfl (lv_at hl 2 rfl) ?_
    refine lv_lsub hx hb dX0_ofWords_195 ?_
    exact ps_lret hx hb hr hlocks dX0_ofWords_196 trivial
  by_cases k_189 : op = 189
  · subst k_189
    refine lv_lookup (tgt := 193) hx hb dX0_ofWords_1 (by decide) rfl (by decide) ?_
    refine lv_lload_n hx hb dX0_ofWords_193 rfl (lv_at hl 1 rfl) ?_
    refine lv_lload_n hx hb dX0_ofWords_194 rfl (lv_at hl 2 rfl) ?_
    refine lv_lsub hx hb dX0_ofWords_195 ?_
    exact ps_lret hx hb hr hlocks dX0_ofWords_196 trivial
  by_cases k_256 : op = 256
  · subst k_256
    refine lv_lookup (tgt := 197) hx hb dX0_ofWords_1 (by decide) rfl (by decide) ?_
    refine lv_lconst (v := 0) hx hb dX0_ofWords_197 (by decide) ?_
    exact ps_lret hx hb hr hlocks dX0_ofWords_198 trivial
  by_cases k_260 : op = 260
  · subst k_260
    refine lv_lookup (tgt := 199) hx hb dX0_ofWords_1 (by decide) rfl (by decide) ?_
    refine lv_lload_n hx hb dX0_ofWords_199 rfl (lv_at hl 1 rfl) ?_
    refine lv_lload_n hx hb dX0_ofWords_200 rfl (lv_at hl 2 rfl) ?_
    refine lv_land hx hb dX0_ofWords_201 ?_
    exact ps_lret hx hb hr hlocks dX0_ofWords_202 trivial
  by_cases k_261 : op = 261
  · subst k_261
    refine lv_lookup (tgt := 199) hx hb dX0_ofWords_1 (by decide) rfl (by decide) ?_
    refine lv_lload_n hx hb dX0_ofWords_199 rfl (lv_at hl 1 rfl) ?_
    refine lv_lload_n hx hb dX0_ofWords_200 rfl (lv_at hl 2 rfl) ?_
    refine lv_land hx hb dX0_ofWords_201 ?_
    exact ps_lret hx hb hr hlocks dX0_ofWords_202 trivial
  by_cases k_280 : op = 280
  · subst k_280
    refine lv_lookup (tgt := 203) hx hb dX0_ofWords_1 (by decide) rfl (by decide) ?_
    refine lv_lload_n hx hb dX0_ofWords_203 rfl (lv_at hl 1 rfl) ?_
    refine lv_lload_n hx hb dX0_ofWords_204 rfl (lv_at hl 2 rfl) ?_
    refine lv_lxor hx hb dX0_ofWords_205 ?_
    exact ps_lret hx hb hr hlocks dX0_ofWords_206 trivial
  by_cases k_281 : op = 281
  · subst k_281
    refine lv_lookup (tgt := 203) hx hb dX0_ofWords_1 (by decide) rfl (by decide) ?_
    refine lv_lload_n hx hb dX0_ofWords_203 rfl (lv_at hl 1 rfl) ?_
    refine lv_lload_n hx hb dX0_ofWords_204 rfl (lv_at hl 2 rfl) ?_
    refine lv_lxor hx hb dX0_ofWords_205 ?_
    exact ps_lret hx hb hr hlocks dX0_ofWords_206 trivial
  by_cases k_284 : op = 284
  · subst k_284
    refine lv_lookup (tgt := 207) hx hb dX0_ofWords_1 (by decide) rfl (by decide) ?_
    refine lv_lload_n hx hb dX0_ofWords_207 rfl (lv_at hl 1 rfl) ?_
    refine lv_lload_n hx hb dX0_ofWords_208 rfl (lv_at hl 2 rfl) ?_
    refine lv_lor hx hb dX0_ofWords_209 ?_
    exact ps_lret hx hb hr hlocks dX0_ofWords_210 trivial
  by_cases k_285 : op = 285
  · subst k_285
    refine lv_lookup (tgt := 207) hx hb dX0_ofWords_1 (by decide) rfl (by decide) ?_
    refine lv_lload_n hx hb dX0_ofWords_207 rfl (lv_at hl 1 rfl) ?_
    refine lv_lload_n hx hb dX0_ofWords_208 rfl (lv_at hl 2 rfl) ?_
    refine lv_lor hx hb dX0_ofWords_209 ?_
    exact ps_lret hx hb hr hlocks dX0_ofWords_210 trivial
  by_cases k_296 : op = 296
  · subst k_296
    refine lv_lookup (tgt := 211) hx hb dX0_ofWords_1 (by decide) rfl (by decide) ?_
    refine lv_lload_n hx hb dX0_ofWords_211 rfl (lv_at hl 1 rfl) ?_
    refine lv_ldc2 (v := -1) hx hb hown (hts (.constantLong RX0 128 (-1)) (by decide +kernel)) dX0_ofWords_212 ?_
    refine lv_lxor hx hb dX0_ofWords_215 ?_
    exact ps_lret hx hb hr hlocks dX0_ofWords_216 trivial
  refine lv_lookup (off := 216) (tgt := 217) hx hb dX0_ofWords_1 (by decide) ((lv_osw k_132 (by decide)).trans <| (lv_osw k_136 (by decide)).trans <| (lv_osw k_140 (by decide)).trans <| (lv_osw k_144 (by decide)).trans <| (lv_osw k_145 (by decide)).trans <| (lv_osw k_162 (by decide)).trans <| (lv_osw k_184 (by decide)).trans <| (lv_osw k_185 (by decide)).trans <| (lv_osw k_188 (by decide)).trans <| (lv_osw k_189 (by decide)).trans <| (lv_osw k_256 (by decide)).trans <| (lv_osw k_260 (by decide)).trans <| (lv_osw k_261 (by decide)).trans <| (lv_osw k_280 (by decide)).trans <| (lv_osw k_281 (by decide)).trans <| (lv_osw k_284 (by decide)).trans <| (lv_osw k_285 (by decide)).trans <| (lv_osw k_296 (by decide)).trans <| rfl) (by decide) ?_
  refine lv_lload_n hx hb dX0_ofWords_217 rfl (lv_at hl 2 rfl) ?_
  exact ps_lret hx hb hr hlocks dX0_ofWords_218 trivial
set_option maxHeartbeats 4000000 in
set_option maxRecDepth 100000 in
theorem kX0_holds (l : Launch) (cd : Int32) (x0 : Int64) (y0 : Int64)  : PS l yX0_holds wsX0_holds ({ frames := 1, cells := 0, slots := 0, locals := 21 }) [.int cd, .long x0, .long y0] rv_i (fun _ => True) := by
  refine ps_of (cc := cX0_holds) (maxL := 10) (ret := (some .boolean)) (by decide) rfl (Nat.le_of_ble_eq_true rfl) ?_
  intro p e s m below meth c ls C hl
  obtain ⟨hx, hb, hr, hml, hown, hts, hlocks⟩ := C
  have hl : lv_has ls 10 [(0, .int cd), (1, .long x0), (3, .long y0)] := hl
  refine lv_lload_n hx hb dX0_holds_0 rfl (lv_at hl 1 rfl) ?_
  refine ps_gol (As := [.long x0]) (rest := []) ⟨hx, hb, hml, hown, hts⟩ (kX0_number l x0) (va_cwS 1 hts gX0_holds_X0_number rfl rfl rfl (by decide +kernel) ⟨by decide, by decide⟩) rfl hl.1 rfl (Nat.le_of_ble_eq_true rfl) dX0_holds_1 ⟨Nat.zero_le _, Nat.zero_le _⟩ (fun r_1 q_1 => ?_)
  refine lv_lstore (lv' := [(5, .long r_1), (0, .int cd), (1, .long x0), (3, .long y0)]) hx hb dX0_holds_4 hl (by decide) rfl (fun ls hl => ?_)
  refine lv_lload_n hx hb dX0_holds_6 rfl (lv_at hl 3 rfl) ?_
  refine ps_gol (As := [.long y0]) (rest := []) ⟨hx, hb, hml, hown, hts⟩ (kX0_number l y0) (va_cwS 1 hts gX0_holds_X0_number rfl rfl rfl (by decide +kernel) ⟨by decide, by decide⟩) rfl hl.1 rfl (Nat.le_of_ble_eq_true rfl) dX0_holds_7 ⟨Nat.zero_le _, Nat.zero_le _⟩ (fun r_7 q_7 => ?_)
  refine lv_lstore (lv' := [(7, .long r_7), (5, .long r_1), (0, .int cd), (1, .long x0), (3, .long y0)]) hx hb dX0_holds_10 hl (by decide) rfl (fun ls hl => ?_)
  refine lv_iload_n hx hb dX0_holds_12 rfl (lv_at hl 2 rfl) ?_
  refine lv_iconst (v := 1) hx hb dX0_holds_13 (by decide) ?_
  refine lv_iand hx hb dX0_holds_14 ?_
  refine lv_if_eq (tgt := 26) hx hb dX0_holds_15 (by decide) (fun c_15 => ?_) (fun c_15 => ?_)
  · refine lv_iload_n hx hb dX0_holds_26 rfl (lv_at hl 2 rfl) ?_
    refine lv_iconst (v := 2) hx hb dX0_holds_27 (by decide) ?_
    refine lv_iand hx hb dX0_holds_28 ?_
    refine lv_if_eq (tgt := 44) hx hb dX0_holds_29 (by decide) (fun c_29 => ?_) (fun c_29 => ?_)
    · refine lv_iconst (v := 0) hx hb dX0_holds_44 (by decide) ?_
      refine lv_istore (lv' := [(9, .int 0), (7, .long r_7), (5, .long r_1), (0, .int cd), (1, .long x0), (3, .long y0)]) hx hb dX0_holds_45 hl (by decide) rfl (fun ls hl => ?_)
      refine lv_iload hx hb dX0_holds_47 (lv_at hl 0 rfl) ?_
      refine lv_iload_n hx hb dX0_holds_49 rfl (lv_at hl 3 rfl) ?_
      refine lv_iconst (v := 4) hx hb dX0_holds_50 (by decide) ?_
      refine lv_iand hx hb dX0_holds_51 ?_
      refine lv_if_eq (tgt := 59) hx hb dX0_holds_52 (by decide) (fun c_52 => ?_) (fun c_52 => ?_)
      · refine lv_iconst (v := 0) hx hb dX0_holds_59 (by decide) ?_
        refine lv_icmp_eq (tgt := 67) hx hb dX0_holds_60 (by decide) (fun c_60 => ?_) (fun c_60 => ?_)
        · refine lv_iconst (v := 0) hx hb dX0_holds_67 (by decide) ?_
          exact ps_zret hx hb hr hlocks dX0_holds_68 rfl trivial
        · exact absurd (by decide) c_60
      · refine lv_iconst (v := 1) hx hb dX0_holds_55 (by decide) ?_
        refine lv_goto (tgt := 60) hx hb dX0_holds_56 (by decide) ?_
        refine lv_icmp_eq (tgt := 67) hx hb dX0_holds_60 (by decide) (fun c_60 => ?_) (fun c_60 => ?_)
        · exact absurd c_60 (by decide)
        · refine lv_iconst (v := 1) hx hb dX0_holds_63 (by decide) ?_
          refine lv_goto (tgt := 68) hx hb dX0_holds_64 (by decide) ?_
          exact ps_zret hx hb hr hlocks dX0_holds_68 rfl trivial
    · refine lv_lload hx hb dX0_holds_32 (lv_at hl 1 rfl) ?_
      refine lv_lload hx hb dX0_holds_34 (lv_at hl 0 rfl) ?_
      refine W.lcmp hx hb dX0_holds_36 ?_
      refine lv_if_ne (tgt := 44) hx hb dX0_holds_37 (by decide) (fun c_37 => ?_) (fun c_37 => ?_)
      · refine lv_iconst (v := 0) hx hb dX0_holds_44 (by decide) ?_
        refine lv_istore (lv' := [(9, .int 0), (7, .long r_7), (5, .long r_1), (0, .int cd), (1, .long x0), (3, .long y0)]) hx hb dX0_holds_45 hl (by decide) rfl (fun ls hl => ?_)
        refine lv_iload hx hb dX0_holds_47 (lv_at hl 0 rfl) ?_
        refine lv_iload_n hx hb dX0_holds_49 rfl (lv_at hl 3 rfl) ?_
        refine lv_iconst (v := 4) hx hb dX0_holds_50 (by decide) ?_
        refine lv_iand hx hb dX0_holds_51 ?_
        refine lv_if_eq (tgt := 59) hx hb dX0_holds_52 (by decide) (fun c_52 => ?_) (fun c_52 => ?_)
        · refine lv_iconst (v := 0) hx hb dX0_holds_59 (by decide) ?_
          refine lv_icmp_eq (tgt := 67) hx hb dX0_holds_60 (by decide) (fun c_60 => ?_) (fun c_60 => ?_)
          · refine lv_iconst (v := 0) hx hb dX0_holds_67 (by decide) ?_
            exact ps_zret hx hb hr hlocks dX0_holds_68 rfl trivial
          · exact absurd (by decide) c_60
        · refine lv_iconst (v := 1) hx hb dX0_holds_55 (by decide) ?_
          refine lv_goto (tgt := 60) hx hb dX0_holds_56 (by decide) ?_
          refine lv_icmp_eq (tgt := 67) hx hb dX0_holds_60 (by decide) (fun c_60 => ?_) (fun c_60 => ?_)
          · exact absurd c_60 (by decide)
          · refine lv_iconst (v := 1) hx hb dX0_holds_63 (by decide) ?_
            refine lv_goto (tgt := 68) hx hb dX0_holds_64 (by decide) ?_
            exact ps_zret hx hb hr hlocks dX0_holds_68 rfl trivial
      · refine lv_iconst (v := 1) hx hb dX0_holds_40 (by decide) ?_
        refine lv_goto (tgt := 45) hx hb dX0_holds_41 (by decide) ?_
        refine lv_istore (lv' := [(9, .int 1), (7, .long r_7), (5, .long r_1), (0, .int cd), (1, .long x0), (3, .long y0)]) hx hb dX0_holds_45 hl (by decide) rfl (fun ls hl => ?_)
        refine lv_iload hx hb dX0_holds_47 (lv_at hl 0 rfl) ?_
        refine lv_iload_n hx hb dX0_holds_49 rfl (lv_at hl 3 rfl) ?_
        refine lv_iconst (v := 4) hx hb dX0_holds_50 (by decide) ?_
        refine lv_iand hx hb dX0_holds_51 ?_
        refine lv_if_eq (tgt := 59) hx hb dX0_holds_52 (by decide) (fun c_52 => ?_) (fun c_52 => ?_)
        · refine lv_iconst (v := 0) hx hb dX0_holds_59 (by decide) ?_
          refine lv_icmp_eq (tgt := 67) hx hb dX0_holds_60 (by decide) (fun c_60 => ?_) (fun c_60 => ?_)
          · exact absurd c_60 (by decide)
          · refine lv_iconst (v := 1) hx hb dX0_holds_63 (by decide) ?_
            refine lv_goto (tgt := 68) hx hb dX0_holds_64 (by decide) ?_
            exact ps_zret hx hb hr hlocks dX0_holds_68 rfl trivial
        · refine lv_iconst (v := 1) hx hb dX0_holds_55 (by decide) ?_
          refine lv_goto (tgt := 60) hx hb dX0_holds_56 (by decide) ?_
          refine lv_icmp_eq (tgt := 67) hx hb dX0_holds_60 (by decide) (fun c_60 => ?_) (fun c_60 => ?_)
          · refine lv_iconst (v := 0) hx hb dX0_holds_67 (by decide) ?_
            exact ps_zret hx hb hr hlocks dX0_holds_68 rfl trivial
          · exact absurd (by decide) c_60
  · refine lv_lload hx hb dX0_holds_18 (lv_at hl 1 rfl) ?_
    refine lv_lload hx hb dX0_holds_20 (lv_at hl 0 rfl) ?_
    refine W.lcmp hx hb dX0_holds_22 ?_
    refine lv_if_lt (tgt := 40) hx hb dX0_holds_23 (by decide) (fun c_23 => ?_) (fun c_23 => ?_)
    · refine lv_iconst (v := 1) hx hb dX0_holds_40 (by decide) ?_
      refine lv_goto (tgt := 45) hx hb dX0_holds_41 (by decide) ?_
      refine lv_istore (lv' := [(9, .int 1), (7, .long r_7), (5, .long r_1), (0, .int cd), (1, .long x0), (3, .long y0)]) hx hb dX0_holds_45 hl (by decide) rfl (fun ls hl => ?_)
      refine lv_iload hx hb dX0_holds_47 (lv_at hl 0 rfl) ?_
      refine lv_iload_n hx hb dX0_holds_49 rfl (lv_at hl 3 rfl) ?_
      refine lv_iconst (v := 4) hx hb dX0_holds_50 (by decide) ?_
      refine lv_iand hx hb dX0_holds_51 ?_
      refine lv_if_eq (tgt := 59) hx hb dX0_holds_52 (by decide) (fun c_52 => ?_) (fun c_52 => ?_)
      · refine lv_iconst (v := 0) hx hb dX0_holds_59 (by decide) ?_
        refine lv_icmp_eq (tgt := 67) hx hb dX0_holds_60 (by decide) (fun c_60 => ?_) (fun c_60 => ?_)
        · exact absurd c_60 (by decide)
        · refine lv_iconst (v := 1) hx hb dX0_holds_63 (by decide) ?_
          refine lv_goto (tgt := 68) hx hb dX0_holds_64 (by decide) ?_
          exact ps_zret hx hb hr hlocks dX0_holds_68 rfl trivial
      · refine lv_iconst (v := 1) hx hb dX0_holds_55 (by decide) ?_
        refine lv_goto (tgt := 60) hx hb dX0_holds_56 (by decide) ?_
        refine lv_icmp_eq (tgt := 67) hx hb dX0_holds_60 (by decide) (fun c_60 => ?_) (fun c_60 => ?_)
        · refine lv_iconst (v := 0) hx hb dX0_holds_67 (by decide) ?_
          exact ps_zret hx hb hr hlocks dX0_holds_68 rfl trivial
        · exact absurd (by decide) c_60
    · refine lv_iload_n hx hb dX0_holds_26 rfl (lv_at hl 2 rfl) ?_
      refine lv_iconst (v := 2) hx hb dX0_holds_27 (by decide) ?_
      refine lv_iand hx hb dX0_holds_28 ?_
      refine lv_if_eq (tgt := 44) hx hb dX0_holds_29 (by decide) (fun c_29 => ?_) (fun c_29 => ?_)
      · refine lv_iconst (v := 0) hx hb dX0_holds_44 (by decide) ?_
        refine lv_istore (lv' := [(9, .int 0), (7, .long r_7), (5, .long r_1), (0, .int cd), (1, .long x0), (3, .long y0)]) hx hb dX0_holds_45 hl (by decide) rfl (fun ls hl => ?_)
        refine lv_iload hx hb dX0_holds_47 (lv_at hl 0 rfl) ?_
        refine lv_iload_n hx hb dX0_holds_49 rfl (lv_at hl 3 rfl) ?_
        refine lv_iconst (v := 4) hx hb dX0_holds_50 (by decide) ?_
        refine lv_iand hx hb dX0_holds_51 ?_
        refine lv_if_eq (tgt := 59) hx hb dX0_holds_52 (by decide) (fun c_52 => ?_) (fun c_52 => ?_)
        · refine lv_iconst (v := 0) hx hb dX0_holds_59 (by decide) ?_
          refine lv_icmp_eq (tgt := 67) hx hb dX0_holds_60 (by decide) (fun c_60 => ?_) (fun c_60 => ?_)
          · refine lv_iconst (v := 0) hx hb dX0_holds_67 (by decide) ?_
            exact ps_zret hx hb hr hlocks dX0_holds_68 rfl trivial
          · exact absurd (by decide) c_60
        · refine lv_iconst (v := 1) hx hb dX0_holds_55 (by decide) ?_
          refine lv_goto (tgt := 60) hx hb dX0_holds_56 (by decide) ?_
          refine lv_icmp_eq (tgt := 67) hx hb dX0_holds_60 (by decide) (fun c_60 => ?_) (fun c_60 => ?_)
          · exact absurd c_60 (by decide)
          · refine lv_iconst (v := 1) hx hb dX0_holds_63 (by decide) ?_
            refine lv_goto (tgt := 68) hx hb dX0_holds_64 (by decide) ?_
            exact ps_zret hx hb hr hlocks dX0_holds_68 rfl trivial
      · refine lv_lload hx hb dX0_holds_32 (lv_at hl 1 rfl) ?_
        refine lv_lload hx hb dX0_holds_34 (lv_at hl 0 rfl) ?_
        refine W.lcmp hx hb dX0_holds_36 ?_
        refine lv_if_ne (tgt := 44) hx hb dX0_holds_37 (by decide) (fun c_37 => ?_) (fun c_37 => ?_)
        · refine lv_iconst (v := 0) hx hb dX0_holds_44 (by decide) ?_
          refine lv_istore (lv' := [(9, .int 0), (7, .long r_7), (5, .long r_1), (0, .int cd), (1, .long x0), (3, .long y0)]) hx hb dX0_holds_45 hl (by decide) rfl (fun ls hl => ?_)
          refine lv_iload hx hb dX0_holds_47 (lv_at hl 0 rfl) ?_
          refine lv_iload_n hx hb dX0_holds_49 rfl (lv_at hl 3 rfl) ?_
          refine lv_iconst (v := 4) hx hb dX0_holds_50 (by decide) ?_
          refine lv_iand hx hb dX0_holds_51 ?_
          refine lv_if_eq (tgt := 59) hx hb dX0_holds_52 (by decide) (fun c_52 => ?_) (fun c_52 => ?_)
          · refine lv_iconst (v := 0) hx hb dX0_holds_59 (by decide) ?_
            refine lv_icmp_eq (tgt := 67) hx hb dX0_holds_60 (by decide) (fun c_60 => ?_) (fun c_60 => ?_)
            · refine lv_iconst (v := 0) hx hb dX0_holds_67 (by decide) ?_
              exact ps_zret hx hb hr hlocks dX0_holds_68 rfl trivial
            · exact absurd (by decide) c_60
          · refine lv_iconst (v := 1) hx hb dX0_holds_55 (by decide) ?_
            refine lv_goto (tgt := 60) hx hb dX0_holds_56 (by decide) ?_
            refine lv_icmp_eq (tgt := 67) hx hb dX0_holds_60 (by decide) (fun c_60 => ?_) (fun c_60 => ?_)
            · exact absurd c_60 (by decide)
            · refine lv_iconst (v := 1) hx hb dX0_holds_63 (by decide) ?_
              refine lv_goto (tgt := 68) hx hb dX0_holds_64 (by decide) ?_
              exact ps_zret hx hb hr hlocks dX0_holds_68 rfl trivial
        · refine lv_iconst (v := 1) hx hb dX0_holds_40 (by decide) ?_
          refine lv_goto (tgt := 45) hx hb dX0_holds_41 (by decide) ?_
          refine lv_istore (lv' := [(9, .int 1), (7, .long r_7), (5, .long r_1), (0, .int cd), (1, .long x0), (3, .long y0)]) hx hb dX0_holds_45 hl (by decide) rfl (fun ls hl => ?_)
          refine lv_iload hx hb dX0_holds_47 (lv_at hl 0 rfl) ?_
          refine lv_iload_n hx hb dX0_holds_49 rfl (lv_at hl 3 rfl) ?_
          refine lv_iconst (v := 4) hx hb dX0_holds_50 (by decide) ?_
          refine lv_iand hx hb dX0_holds_51 ?_
          refine lv_if_eq (tgt := 59) hx hb dX0_holds_52 (by decide) (fun c_52 => ?_) (fun c_52 => ?_)
          · refine lv_iconst (v := 0) hx hb dX0_holds_59 (by decide) ?_
            refine lv_icmp_eq (tgt := 67) hx hb dX0_holds_60 (by decide) (fun c_60 => ?_) (fun c_60 => ?_)
            · exact absurd c_60 (by decide)
            · refine lv_iconst (v := 1) hx hb dX0_holds_63 (by decide) ?_
              refine lv_goto (tgt := 68) hx hb dX0_holds_64 (by decide) ?_
              exact ps_zret hx hb hr hlocks dX0_holds_68 rfl trivial
          · refine lv_iconst (v := 1) hx hb dX0_holds_55 (by decide) ?_
            refine lv_goto (tgt := 60) hx hb dX0_holds_56 (by decide) ?_
            refine lv_icmp_eq (tgt := 67) hx hb dX0_holds_60 (by decide) (fun c_60 => ?_) (fun c_60 => ?_)
            · refine lv_iconst (v := 0) hx hb dX0_holds_67 (by decide) ?_
              exact ps_zret hx hb hr hlocks dX0_holds_68 rfl trivial
            · exact absurd (by decide) c_60
theorem iw_X0_store : ∀ w ∈ u_ws RX0 TX0 5, w ∈ wsX0_store := by decide +kernel
set_option maxHeartbeats 4000000 in
set_option maxRecDepth 100000 in
theorem kX0_store (l : Launch) (D : va_G) (h a : Nat) (cA : ClassId) (u : wS) (hI : wI u) (i : Int32) (w : Int64) (hi : vp_in i 4096) : MM l yX0_store wsX0_store ({ frames := 0, cells := 0, slots := 0, locals := 0 }) D vwCl [(cA, .long)] (wW h a cA) (wA h a) u [.ref h, .int i, .long w] rv_v (fun _ u' => wI u') := by
  refine mm_of (cc := cX0_store) (maxL := 4) (ret := none) (by decide) rfl (Nat.le_of_ble_eq_true rfl) (wA_in h a cA u) ?_
  intro p e s m below meth c ls C hl hP hK hD hS
  obtain ⟨hx, hb, hr, hml, hown, hts, hlocks⟩ := C
  have hl : lv_has ls 4 [(0, .ref h), (1, .int i), (2, .long w)] := hl
  refine lv_aload_n hx hb dX0_store_0 rfl (lv_at hl 0 rfl) ?_
  refine va_get (D := D) (ci := 0) (v := .ref a) (C := RX0) (T := TX0) (N := 5) hx hb hts iw_X0_store hown hK hP 0 rfl rfl 0 (by decide) (hts (.fieldLink RX0 9 "WordMill" "memory" "[J") (by decide +kernel)) (fun _ h9 => h9) rfl dX0_store_1 ?_
  refine lv_iload_n hx hb dX0_store_4 rfl (lv_at hl 1 rfl) ?_
  refine lv_lload_n hx hb dX0_store_5 rfl (lv_at hl 2 rfl) ?_
  refine lv_ldc2 (v := 68719476735) hx hb hown (hts (.constantLong RX0 152 68719476735) (by decide +kernel)) dX0_store_6 ?_
  refine lv_land hx hb dX0_store_9 ?_
  refine va_last hx hb hK hP hD hS 1 0 rfl rfl hi dX0_store_10 (fun H locs hP hD hS => ?_)
  have hP : va_P D vwCl (wW h a cA ((vp_updL u.1 (i : Int32).toNatClampNeg (w &&& 68719476735)), u.2.1, u.2.2.1, u.2.2.2.1, u.2.2.2.2)) H := hP
  have hD : va_D (wA h a) (wW h a cA ((vp_updL u.1 (i : Int32).toNatClampNeg (w &&& 68719476735)), u.2.1, u.2.2.1, u.2.2.2.1, u.2.2.2.2)) := hD
  generalize (vp_updL u.1 (i : Int32).toNatClampNeg (w &&& 68719476735)) = f_10 at hP hD
  exact mm_vret (mw := wW h a cA) (u1 := (f_10, u.2.1, u.2.2.1, u.2.2.2.1, u.2.2.2.2)) hx hb hr hlocks hP hK hD hS dX0_store_11 ⟨hI.1, hI.2⟩
theorem iw_X0_jump : ∀ w ∈ u_ws RX0 TX0 5, w ∈ wsX0_jump := by decide +kernel
set_option maxHeartbeats 4000000 in
set_option maxRecDepth 100000 in
theorem kX0_jump (l : Launch) (D : va_G) (h a : Nat) (cA : ClassId) (u : wS) (hI : wI u) (e0 : Int32)  : MM l yX0_jump wsX0_jump ({ frames := 0, cells := 0, slots := 0, locals := 0 }) D vwCl [(cA, .long)] (wW h a cA) (wA h a) u [.ref h, .int e0] rv_i (fun _ u' => wI u') := by
  refine mm_of (cc := cX0_jump) (maxL := 2) (ret := (some .int)) (by decide) rfl (Nat.le_of_ble_eq_true rfl) (wA_in h a cA u) ?_
  intro p e s m below meth c ls C hl hP hK hD hS
  obtain ⟨hx, hb, hr, hml, hown, hts, hlocks⟩ := C
  have hl : lv_has ls 2 [(0, .ref h), (1, .int e0)] := hl
  refine lv_aload_n hx hb dX0_jump_0 rfl (lv_at hl 0 rfl) ?_
  refine lv_iload_n hx hb dX0_jump_1 rfl (lv_at hl 1 rfl) ?_
  refine lv_sipush (v := 4095) hx hb dX0_jump_2 (by decide) ?_
  refine lv_iand hx hb dX0_jump_5 ?_
  refine lv_topi (fun x_6 ex_6 => ?_)
  refine va_put (D := D) (ci := 0) (v := .int x_6) (ty := .int) (C := RX0) (T := TX0) (N := 5) hx hb hts iw_X0_jump tyX0 tyX0_ok nmX0 hown hK hP hD hS 0 rfl rfl 2 (by decide) (hts (.fieldLink RX0 17 "WordMill" "next" "I") (by decide +kernel)) (fun _ h9 => h9) rfl (by decide +kernel) rfl rfl (Nat.le_of_ble_eq_true rfl) dX0_jump_6 (fun H locs hP hD hS => ?_)
  have hP : va_P D vwCl (wW h a cA (u.1, u.2.1, x_6, u.2.2.2.1, u.2.2.2.2)) H := hP
  have hD : va_D (wA h a) (wW h a cA (u.1, u.2.1, x_6, u.2.2.2.1, u.2.2.2.2)) := hD
  refine lv_iconst (v := 0) hx hb dX0_jump_9 (by decide) ?_
  exact mm_iret (mw := wW h a cA) (u1 := (u.1, u.2.1, x_6, u.2.2.2.1, u.2.2.2.2)) hx hb hr hlocks hP hK hD hS dX0_jump_10 ⟨hI.1, (by rw [ex_6]; exact vp_and4095 _)⟩
theorem iw_X0_indexed : ∀ w ∈ u_ws RX0 TX0 5, w ∈ wsX0_indexed := by decide +kernel
set_option maxHeartbeats 4000000 in
set_option maxRecDepth 100000 in
theorem kX0_indexed (l : Launch) (D : va_G) (h a : Nat) (cA : ClassId) (u : wS) (hI : wI u) (w : Int64)  : MM l yX0_indexed wsX0_indexed ({ frames := 1, cells := 0, slots := 0, locals := 21 }) D vwCl [(cA, .long)] (wW h a cA) (wA h a) u [.ref h, .long w] rv_i (fun r u' => wI u' ∧ vp_in r 262144) := by
  refine mm_of (cc := cX0_indexed) (maxL := 5) (ret := (some .int)) (by decide) rfl (Nat.le_of_ble_eq_true rfl) (wA_in h a cA u) ?_
  intro p e s m below meth c ls C hl hP hK hD hS
  obtain ⟨hx, hb, hr, hml, hown, hts, hlocks⟩ := C
  have hl : lv_has ls 5 [(0, .ref h), (1, .long w)] := hl
  refine lv_lload_n hx hb dX0_indexed_0 rfl (lv_at hl 1 rfl) ?_
  refine lv_bipush (v := 18) hx hb dX0_indexed_1 (by decide) ?_
  refine lv_lshr hx hb dX0_indexed_3 rfl ?_
  refine lv_l2i hx hb dX0_indexed_4 rfl ?_
  refine lv_bipush (v := 15) hx hb dX0_indexed_5 (by decide) ?_
  refine lv_iand hx hb dX0_indexed_7 ?_
  refine lv_topi (fun x_8 ex_8 => ?_)
  refine lv_istore_n (lv' := [(3, .int x_8), (0, .ref h), (1, .long w)]) hx hb dX0_indexed_8 rfl hl (by decide) rfl (fun ls hl => ?_)
  refine lv_lload_n hx hb dX0_indexed_9 rfl (lv_at hl 2 rfl) ?_
  refine ps_goi (As := [.long w]) (rest := []) ⟨hx, hb, hml, hown, hts⟩ (kX0_rightHalf l w) (va_cwS 1 hts gX0_indexed_X0_rightHalf rfl rfl rfl (by decide +kernel) ⟨by decide, by decide⟩) rfl hl.1 rfl (Nat.le_of_ble_eq_true rfl) dX0_indexed_10 ⟨Nat.zero_le _, Nat.zero_le _⟩ (fun r_10 q_10 => ?_)
  refine lv_istore (lv' := [(4, .int r_10), (3, .int x_8), (0, .ref h), (1, .long w)]) hx hb dX0_indexed_13 hl (by decide) rfl (fun ls hl => ?_)
  refine lv_iload_n hx hb dX0_indexed_15 rfl (lv_at hl 1 rfl) ?_
  refine lv_if_ne (tgt := 24) hx hb dX0_indexed_16 (by decide) (fun c_16 => ?_) (fun c_16 => ?_)
  · refine lv_iload hx hb dX0_indexed_24 (lv_at hl 0 rfl) ?_
    refine lv_aload_n hx hb dX0_indexed_26 rfl (lv_at hl 2 rfl) ?_
    refine va_get (D := D) (ci := 0) (v := .ref a) (C := RX0) (T := TX0) (N := 5) hx hb hts iw_X0_indexed hown hK hP 0 rfl rfl 0 (by decide) (hts (.fieldLink RX0 9 "WordMill" "memory" "[J") (by decide +kernel)) (fun _ h9 => h9) rfl dX0_indexed_27 ?_
    refine lv_iload_n hx hb dX0_indexed_30 rfl (lv_at hl 1 rfl) ?_
    refine va_lald hx hb hK hP 1 0 rfl rfl (by rw [ex_8]; exact vp_and15 _) dX0_indexed_31 ?_
    refine ps_goi (As := [.long (u.1 (x_8 : Int32).toNatClampNeg)]) (rest := [.int r_10]) ⟨hx, hb, hml, hown, hts⟩ (kX0_rightHalf l (u.1 (x_8 : Int32).toNatClampNeg)) (va_cwS 1 hts gX0_indexed_X0_rightHalf rfl rfl rfl (by decide +kernel) ⟨by decide, by decide⟩) rfl hl.1 rfl (Nat.le_of_ble_eq_true rfl) dX0_indexed_32 ⟨Nat.zero_le _, Nat.zero_le _⟩ (fun r_32 q_32 => ?_)
    refine lv_iadd hx hb dX0_indexed_35 ?_
    refine lv_ldc (v := 262143) hx hb hown (hts (.constant RX0 34 262143) (by decide +kernel)) dX0_indexed_36 ?_
    refine lv_iand hx hb dX0_indexed_38 ?_
    exact mm_iret (mw := wW h a cA) (u1 := (u.1, u.2.1, u.2.2.1, u.2.2.2.1, u.2.2.2.2)) hx hb hr hlocks hP hK hD hS dX0_indexed_39 ⟨⟨hI.1, hI.2⟩, (vp_and18 _)⟩
  · refine lv_iload hx hb dX0_indexed_19 (lv_at hl 0 rfl) ?_
    refine lv_goto (tgt := 39) hx hb dX0_indexed_21 (by decide) ?_
    exact mm_iret (mw := wW h a cA) (u1 := (u.1, u.2.1, u.2.2.1, u.2.2.2.1, u.2.2.2.2)) hx hb hr hlocks hP hK hD hS dX0_indexed_39 ⟨⟨hI.1, hI.2⟩, q_10⟩
theorem iw_X0_moveTop : ∀ w ∈ u_ws RX0 TX0 5, w ∈ wsX0_moveTop := by decide +kernel
set_option maxHeartbeats 4000000 in
set_option maxRecDepth 100000 in
theorem kX0_moveTop (l : Launch) (D : va_G) (h a : Nat) (cA : ClassId) (u : wS) (hI : wI u) (ac : Int32) (ch : Int32) (hac : vp_in ac 4096) : MM l yX0_moveTop wsX0_moveTop ({ frames := 1, cells := 0, slots := 0, locals := 23 }) D vwCl [(cA, .long)] (wW h a cA) (wA h a) u [.ref h, .int ac, .int ch] rv_v (fun _ u' => wI u') := by
  refine mm_of (cc := cX0_moveTop) (maxL := 5) (ret := none) (by decide) rfl (Nat.le_of_ble_eq_true rfl) (wA_in h a cA u) ?_
  intro p e s m below meth c ls C hl hP hK hD hS
  obtain ⟨hx, hb, hr, hml, hown, hts, hlocks⟩ := C
  have hl : lv_has ls 5 [(0, .ref h), (1, .int ac), (2, .int ch)] := hl
  refine lv_aload_n hx hb dX0_moveTop_0 rfl (lv_at hl 0 rfl) ?_
  refine va_get (D := D) (ci := 0) (v := .ref a) (C := RX0) (T := TX0) (N := 5) hx hb hts iw_X0_moveTop hown hK hP 0 rfl rfl 0 (by decide) (hts (.fieldLink RX0 9 "WordMill" "memory" "[J") (by decide +kernel)) (fun _ h9 => h9) rfl dX0_moveTop_1 ?_
  refine lv_iload_n hx hb dX0_moveTop_4 rfl (lv_at hl 1 rfl) ?_
  refine va_lald hx hb hK hP 1 0 rfl rfl hac dX0_moveTop_5 ?_
  refine lv_topl (fun x_6 ex_6 => ?_)
  refine lv_lstore_n (lv' := [(3, .long x_6), (0, .ref h), (1, .int ac), (2, .int ch)]) hx hb dX0_moveTop_6 rfl hl (by decide) rfl (fun ls hl => ?_)
  refine lv_aload_n hx hb dX0_moveTop_7 rfl (lv_at hl 1 rfl) ?_
  refine lv_iload_n hx hb dX0_moveTop_8 rfl (lv_at hl 2 rfl) ?_
  refine lv_lload_n hx hb dX0_moveTop_9 rfl (lv_at hl 0 rfl) ?_
  refine lv_ldc2 (v := 68719214592) hx hb hown (hts (.constantLong RX0 130 68719214592) (by decide +kernel)) dX0_moveTop_10 ?_
  refine lv_land hx hb dX0_moveTop_13 ?_
  refine lv_lload_n hx hb dX0_moveTop_14 rfl (lv_at hl 0 rfl) ?_
  refine ps_goi (As := [.long x_6]) (rest := [.long (x_6 &&& 68719214592), .int ac, .ref h]) ⟨hx, hb, hml, hown, hts⟩ (kX0_rightHalf l x_6) (va_cwS 1 hts gX0_moveTop_X0_rightHalf rfl rfl rfl (by decide +kernel) ⟨by decide, by decide⟩) rfl hl.1 rfl (Nat.le_of_ble_eq_true rfl) dX0_moveTop_15 ⟨Nat.zero_le _, Nat.zero_le _⟩ (fun r_15 q_15 => ?_)
  refine lv_iload_n hx hb dX0_moveTop_18 rfl (lv_at hl 3 rfl) ?_
  refine lv_iadd hx hb dX0_moveTop_19 ?_
  refine lv_ldc (v := 262143) hx hb hown (hts (.constant RX0 34 262143) (by decide +kernel)) dX0_moveTop_20 ?_
  refine lv_iand hx hb dX0_moveTop_22 ?_
  refine lv_i2l hx hb dX0_moveTop_23 rfl ?_
  refine lv_lor hx hb dX0_moveTop_24 ?_
  refine w_go (rv := rv_v) (As := [.int ac, .long ((x_6 &&& 68719214592) ||| (((r_15 + ch) &&& 262143) : Int32).toInt64)]) (rest := []) ⟨hx, hb, hml, hown, hts⟩ (kX0_store l D h a cA (u.1, u.2.1, u.2.2.1, u.2.2.2.1, u.2.2.2.2) ⟨hI.1, hI.2⟩ ac ((x_6 &&& 68719214592) ||| (((r_15 + ch) &&& 262143) : Int32).toInt64) hac) (cwV 2 hts gX0_moveTop_X0_store rfl rfl rfl (by decide +kernel) ⟨by decide, by decide⟩) hK hP hD hS rfl hl.1 rfl (Nat.le_of_ble_eq_true rfl) dX0_moveTop_25 ⟨Nat.zero_le _, Nat.zero_le _⟩ (fun _ u_25 H locs q_25 hP hD hS => ?_)
  refine W.eq (g2 := F0 m 28 ls []) rfl ?_
  exact mm_vret (mw := wW h a cA) (u1 := (u_25.1, u_25.2.1, u_25.2.2.1, u_25.2.2.2.1, u_25.2.2.2.2)) hx hb hr hlocks hP hK hD hS dX0_moveTop_28 ⟨q_25.1, q_25.2⟩
end
section
theorem iw_X0_push : ∀ w ∈ u_ws RX0 TX0 5, w ∈ wsX0_push := by decide +kernel
set_option maxHeartbeats 4000000 in
set_option maxRecDepth 100000 in
theorem kX0_push (l : Launch) (D : va_G) (h a : Nat) (cA : ClassId) (u : wS) (hI : wI u) (ac : Int32) (w : Int64) (hac : vp_in ac 4096) : MM l yX0_push wsX0_push ({ frames := 2, cells := 0, slots := 0, locals := 47 }) D vwCl [(cA, .long)] (wW h a cA) (wA h a) u [.ref h, .int ac, .long w] rv_i (fun _ u' => wI u') := by
  refine mm_of (cc := cX0_push) (maxL := 5) (ret := (some .int)) (by decide) rfl (Nat.le_of_ble_eq_true rfl) (wA_in h a cA u) ?_
  intro p e s m below meth c ls C hl hP hK hD hS
  obtain ⟨hx, hb, hr, hml, hown, hts, hlocks⟩ := C
  have hl : lv_has ls 5 [(0, .ref h), (1, .int ac), (2, .long w)] := hl
  refine lv_aload_n hx hb dX0_push_0 rfl (lv_at hl 0 rfl) ?_
  refine va_get (D := D) (ci := 0) (v := .ref a) (C := RX0) (T := TX0) (N := 5) hx hb hts iw_X0_push hown hK hP 0 rfl rfl 0 (by decide) (hts (.fieldLink RX0 9 "WordMill" "memory" "[J") (by decide +kernel)) (fun _ h9 => h9) rfl dX0_push_1 ?_
  refine lv_iload_n hx hb dX0_push_4 rfl (lv_at hl 1 rfl) ?_
  refine va_lald hx hb hK hP 1 0 rfl rfl hac dX0_push_5 ?_
  refine ps_goi (As := [.long (u.1 (ac : Int32).toNatClampNeg)]) (rest := []) ⟨hx, hb, hml, hown, hts⟩ (kX0_rightHalf l (u.1 (ac : Int32).toNatClampNeg)) (va_cwS 1 hts gX0_push_X0_rightHalf rfl rfl rfl (by decide +kernel) ⟨by decide, by decide⟩) rfl hl.1 rfl (Nat.le_of_ble_eq_true rfl) dX0_push_6 ⟨Nat.zero_le _, Nat.zero_le _⟩ (fun r_6 q_6 => ?_)
  refine lv_iconst (v := 1) hx hb dX0_push_9 (by decide) ?_
  refine lv_iadd hx hb dX0_push_10 ?_
  refine lv_ldc (v := 262143) hx hb hown (hts (.constant RX0 34 262143) (by decide +kernel)) dX0_push_11 ?_
  refine lv_iand hx hb dX0_push_13 ?_
  refine lv_topi (fun x_14 ex_14 => ?_)
  refine lv_istore (lv' := [(4, .int x_14), (0, .ref h), (1, .int ac), (2, .long w)]) hx hb dX0_push_14 hl (by decide) rfl (fun ls hl => ?_)
  refine lv_iload hx hb dX0_push_16 (lv_at hl 0 rfl) ?_
  refine lv_sipush (v := 4096) hx hb dX0_push_18 (by decide) ?_
  refine lv_icmp_lt (tgt := 26) hx hb dX0_push_21 (by decide) (fun c_21 => ?_) (fun c_21 => ?_)
  · refine lv_aload_n hx hb dX0_push_26 rfl (lv_at hl 1 rfl) ?_
    refine lv_iload_n hx hb dX0_push_27 rfl (lv_at hl 2 rfl) ?_
    refine lv_iconst (v := 1) hx hb dX0_push_28 (by decide) ?_
    refine w_go (rv := rv_v) (As := [.int ac, .int 1]) (rest := []) ⟨hx, hb, hml, hown, hts⟩ (kX0_moveTop l D h a cA (u.1, u.2.1, u.2.2.1, u.2.2.2.1, u.2.2.2.2) ⟨hI.1, hI.2⟩ ac 1 hac) (cwV 2 hts gX0_push_X0_moveTop rfl rfl rfl (by decide +kernel) ⟨by decide, by decide⟩) hK hP hD hS rfl hl.1 rfl (Nat.le_of_ble_eq_true rfl) dX0_push_29 ⟨Nat.zero_le _, Nat.zero_le _⟩ (fun _ u_29 H locs q_29 hP hD hS => ?_)
    refine W.eq (g2 := F0 m 32 ls []) rfl ?_
    refine lv_aload_n hx hb dX0_push_32 rfl (lv_at hl 1 rfl) ?_
    refine lv_iload hx hb dX0_push_33 (lv_at hl 0 rfl) ?_
    refine lv_lload_n hx hb dX0_push_35 rfl (lv_at hl 3 rfl) ?_
    refine w_go (rv := rv_v) (As := [.int x_14, .long w]) (rest := []) ⟨hx, hb, hml, hown, hts⟩ (kX0_store l D h a cA (u_29.1, u_29.2.1, u_29.2.2.1, u_29.2.2.2.1, u_29.2.2.2.2) ⟨q_29.1, q_29.2⟩ x_14 w (vp_below (vp_nonneg (by rw [ex_14]; exact vp_and18 _)) c_21 (by decide))) (cwV 2 hts gX0_push_X0_store rfl rfl rfl (by decide +kernel) ⟨by decide, by decide⟩) hK hP hD hS rfl hl.1 rfl (Nat.le_of_ble_eq_true rfl) dX0_push_36 ⟨Nat.zero_le _, Nat.zero_le _⟩ (fun _ u_36 H locs q_36 hP hD hS => ?_)
    refine W.eq (g2 := F0 m 39 ls []) rfl ?_
    refine lv_iconst (v := 0) hx hb dX0_push_39 (by decide) ?_
    exact mm_iret (mw := wW h a cA) (u1 := (u_36.1, u_36.2.1, u_36.2.2.1, u_36.2.2.2.1, u_36.2.2.2.2)) hx hb hr hlocks hP hK hD hS dX0_push_40 ⟨q_36.1, q_36.2⟩
  · refine lv_iconst (v := 2) hx hb dX0_push_24 (by decide) ?_
    exact mm_iret (mw := wW h a cA) (u1 := (u.1, u.2.1, u.2.2.1, u.2.2.2.1, u.2.2.2.2)) hx hb hr hlocks hP hK hD hS dX0_push_25 ⟨hI.1, hI.2⟩
theorem iw_X0_pushNextPlace : ∀ w ∈ u_ws RX0 TX0 5, w ∈ wsX0_pushNextPlace := by decide +kernel
set_option maxHeartbeats 4000000 in
set_option maxRecDepth 100000 in
theorem kX0_pushNextPlace (l : Launch) (D : va_G) (h a : Nat) (cA : ClassId) (u : wS) (hI : wI u) (ac : Int32) (e0 : Int32) (hac : vp_in ac 4096) : MM l yX0_pushNextPlace wsX0_pushNextPlace ({ frames := 3, cells := 0, slots := 0, locals := 71 }) D vwCl [(cA, .long)] (wW h a cA) (wA h a) u [.ref h, .int ac, .int e0] rv_i (fun _ u' => wI u') := by
  refine mm_of (cc := cX0_pushNextPlace) (maxL := 4) (ret := (some .int)) (by decide) rfl (Nat.le_of_ble_eq_true rfl) (wA_in h a cA u) ?_
  intro p e s m below meth c ls C hl hP hK hD hS
  obtain ⟨hx, hb, hr, hml, hown, hts, hlocks⟩ := C
  have hl : lv_has ls 4 [(0, .ref h), (1, .int ac), (2, .int e0)] := hl
  refine lv_aload_n hx hb dX0_pushNextPlace_0 rfl (lv_at hl 0 rfl) ?_
  refine lv_iload_n hx hb dX0_pushNextPlace_1 rfl (lv_at hl 1 rfl) ?_
  refine lv_aload_n hx hb dX0_pushNextPlace_2 rfl (lv_at hl 0 rfl) ?_
  refine va_get (D := D) (ci := 0) (v := .int u.2.2.1) (C := RX0) (T := TX0) (N := 5) hx hb hts iw_X0_pushNextPlace hown hK hP 0 rfl rfl 2 (by decide) (hts (.fieldLink RX0 17 "WordMill" "next" "I") (by decide +kernel)) (fun _ h9 => h9) rfl dX0_pushNextPlace_3 ?_
  refine lv_i2l hx hb dX0_pushNextPlace_6 rfl ?_
  refine w_go (rv := rv_i) (As := [.int ac, .long ((u.2.2.1 : Int32).toInt64)]) (rest := []) ⟨hx, hb, hml, hown, hts⟩ (kX0_push l D h a cA (u.1, u.2.1, u.2.2.1, u.2.2.2.1, u.2.2.2.2) ⟨hI.1, hI.2⟩ ac ((u.2.2.1 : Int32).toInt64) hac) (cwV 2 hts gX0_pushNextPlace_X0_push rfl rfl rfl (by decide +kernel) ⟨by decide, by decide⟩) hK hP hD hS rfl hl.1 rfl (Nat.le_of_ble_eq_true rfl) dX0_pushNextPlace_7 ⟨Nat.zero_le _, Nat.zero_le _⟩ (fun r_7 u_7 H locs q_7 hP hD hS => ?_)
  refine W.eq (g2 := F0 m 10 ls (.int r_7 :: [])) rfl ?_
  refine lv_istore_n (lv' := [(3, .int r_7), (0, .ref h), (1, .int ac), (2, .int e0)]) hx hb dX0_pushNextPlace_10 rfl hl (by decide) rfl (fun ls hl => ?_)
  refine lv_iload_n hx hb dX0_pushNextPlace_11 rfl (lv_at hl 0 rfl) ?_
  refine lv_if_ne (tgt := 23) hx hb dX0_pushNextPlace_12 (by decide) (fun c_12 => ?_) (fun c_12 => ?_)
  · refine lv_iload_n hx hb dX0_pushNextPlace_23 rfl (lv_at hl 0 rfl) ?_
    exact mm_iret (mw := wW h a cA) (u1 := (u_7.1, u_7.2.1, u_7.2.2.1, u_7.2.2.2.1, u_7.2.2.2.2)) hx hb hr hlocks hP hK hD hS dX0_pushNextPlace_24 ⟨q_7.1, q_7.2⟩
  · refine lv_aload_n hx hb dX0_pushNextPlace_15 rfl (lv_at hl 1 rfl) ?_
    refine lv_iload_n hx hb dX0_pushNextPlace_16 rfl (lv_at hl 3 rfl) ?_
    refine w_go (rv := rv_i) (As := [.int e0]) (rest := []) ⟨hx, hb, hml, hown, hts⟩ (kX0_jump l D h a cA (u_7.1, u_7.2.1, u_7.2.2.1, u_7.2.2.2.1, u_7.2.2.2.2) ⟨q_7.1, q_7.2⟩ e0 ) (cwV 1 hts gX0_pushNextPlace_X0_jump rfl rfl rfl (by decide +kernel) ⟨by decide, by decide⟩) hK hP hD hS rfl hl.1 rfl (Nat.le_of_ble_eq_true rfl) dX0_pushNextPlace_17 ⟨Nat.zero_le _, Nat.zero_le _⟩ (fun r_17 u_17 H locs q_17 hP hD hS => ?_)
    refine W.eq (g2 := F0 m 20 ls (.int r_17 :: [])) rfl ?_
    refine lv_goto (tgt := 24) hx hb dX0_pushNextPlace_20 (by decide) ?_
    exact mm_iret (mw := wW h a cA) (u1 := (u_17.1, u_17.2.1, u_17.2.2.1, u_17.2.2.2.1, u_17.2.2.2.2)) hx hb hr hlocks hP hK hD hS dX0_pushNextPlace_24 ⟨q_17.1, q_17.2⟩
theorem iw_X0_popToMemory : ∀ w ∈ u_ws RX0 TX0 5, w ∈ wsX0_popToMemory := by decide +kernel
set_option maxHeartbeats 4000000 in
set_option maxRecDepth 100000 in
theorem kX0_popToMemory (l : Launch) (D : va_G) (h a : Nat) (cA : ClassId) (u : wS) (hI : wI u) (ac : Int32) (e0 : Int32) (hac : vp_in ac 4096) (he : vp_in e0 4096) : MM l yX0_popToMemory wsX0_popToMemory ({ frames := 2, cells := 0, slots := 0, locals := 47 }) D vwCl [(cA, .long)] (wW h a cA) (wA h a) u [.ref h, .int ac, .int e0] rv_i (fun _ u' => wI u') := by
  refine mm_of (cc := cX0_popToMemory) (maxL := 4) (ret := (some .int)) (by decide) rfl (Nat.le_of_ble_eq_true rfl) (wA_in h a cA u) ?_
  intro p e s m below meth c ls C hl hP hK hD hS
  obtain ⟨hx, hb, hr, hml, hown, hts, hlocks⟩ := C
  have hl : lv_has ls 4 [(0, .ref h), (1, .int ac), (2, .int e0)] := hl
  refine lv_aload_n hx hb dX0_popToMemory_0 rfl (lv_at hl 0 rfl) ?_
  refine va_get (D := D) (ci := 0) (v := .ref a) (C := RX0) (T := TX0) (N := 5) hx hb hts iw_X0_popToMemory hown hK hP 0 rfl rfl 0 (by decide) (hts (.fieldLink RX0 9 "WordMill" "memory" "[J") (by decide +kernel)) (fun _ h9 => h9) rfl dX0_popToMemory_1 ?_
  refine lv_iload_n hx hb dX0_popToMemory_4 rfl (lv_at hl 1 rfl) ?_
  refine va_lald hx hb hK hP 1 0 rfl rfl hac dX0_popToMemory_5 ?_
  refine ps_goi (As := [.long (u.1 (ac : Int32).toNatClampNeg)]) (rest := []) ⟨hx, hb, hml, hown, hts⟩ (kX0_rightHalf l (u.1 (ac : Int32).toNatClampNeg)) (va_cwS 1 hts gX0_popToMemory_X0_rightHalf rfl rfl rfl (by decide +kernel) ⟨by decide, by decide⟩) rfl hl.1 rfl (Nat.le_of_ble_eq_true rfl) dX0_popToMemory_6 ⟨Nat.zero_le _, Nat.zero_le _⟩ (fun r_6 q_6 => ?_)
  refine lv_istore_n (lv' := [(3, .int r_6), (0, .ref h), (1, .int ac), (2, .int e0)]) hx hb dX0_popToMemory_9 rfl hl (by decide) rfl (fun ls hl => ?_)
  refine lv_iload_n hx hb dX0_popToMemory_10 rfl (lv_at hl 0 rfl) ?_
  refine lv_sipush (v := 4096) hx hb dX0_popToMemory_11 (by decide) ?_
  refine lv_icmp_lt (tgt := 19) hx hb dX0_popToMemory_14 (by decide) (fun c_14 => ?_) (fun c_14 => ?_)
  · refine lv_aload_n hx hb dX0_popToMemory_19 rfl (lv_at hl 1 rfl) ?_
    refine lv_iload_n hx hb dX0_popToMemory_20 rfl (lv_at hl 3 rfl) ?_
    refine lv_aload_n hx hb dX0_popToMemory_21 rfl (lv_at hl 1 rfl) ?_
    refine va_get (D := D) (ci := 0) (v := .ref a) (C := RX0) (T := TX0) (N := 5) hx hb hts iw_X0_popToMemory hown hK hP 0 rfl rfl 0 (by decide) (hts (.fieldLink RX0 9 "WordMill" "memory" "[J") (by decide +kernel)) (fun _ h9 => h9) rfl dX0_popToMemory_22 ?_
    refine lv_iload_n hx hb dX0_popToMemory_25 rfl (lv_at hl 0 rfl) ?_
    refine va_lald hx hb hK hP 1 0 rfl rfl (vp_below (vp_nonneg q_6) c_14 (by decide)) dX0_popToMemory_26 ?_
    refine w_go (rv := rv_v) (As := [.int e0, .long (u.1 (r_6 : Int32).toNatClampNeg)]) (rest := []) ⟨hx, hb, hml, hown, hts⟩ (kX0_store l D h a cA (u.1, u.2.1, u.2.2.1, u.2.2.2.1, u.2.2.2.2) ⟨hI.1, hI.2⟩ e0 (u.1 (r_6 : Int32).toNatClampNeg) he) (cwV 2 hts gX0_popToMemory_X0_store rfl rfl rfl (by decide +kernel) ⟨by decide, by decide⟩) hK hP hD hS rfl hl.1 rfl (Nat.le_of_ble_eq_true rfl) dX0_popToMemory_27 ⟨Nat.zero_le _, Nat.zero_le _⟩ (fun _ u_27 H locs q_27 hP hD hS => ?_)
    refine W.eq (g2 := F0 m 30 ls []) rfl ?_
    refine lv_aload_n hx hb dX0_popToMemory_30 rfl (lv_at hl 1 rfl) ?_
    refine lv_iload_n hx hb dX0_popToMemory_31 rfl (lv_at hl 2 rfl) ?_
    refine lv_iconst (v := -1) hx hb dX0_popToMemory_32 (by decide) ?_
    refine w_go (rv := rv_v) (As := [.int ac, .int (-1)]) (rest := []) ⟨hx, hb, hml, hown, hts⟩ (kX0_moveTop l D h a cA (u_27.1, u_27.2.1, u_27.2.2.1, u_27.2.2.2.1, u_27.2.2.2.2) ⟨q_27.1, q_27.2⟩ ac (-1) hac) (cwV 2 hts gX0_popToMemory_X0_moveTop rfl rfl rfl (by decide +kernel) ⟨by decide, by decide⟩) hK hP hD hS rfl hl.1 rfl (Nat.le_of_ble_eq_true rfl) dX0_popToMemory_33 ⟨Nat.zero_le _, Nat.zero_le _⟩ (fun _ u_33 H locs q_33 hP hD hS => ?_)
    refine W.eq (g2 := F0 m 36 ls []) rfl ?_
    refine lv_iconst (v := 0) hx hb dX0_popToMemory_36 (by decide) ?_
    exact mm_iret (mw := wW h a cA) (u1 := (u_33.1, u_33.2.1, u_33.2.2.1, u_33.2.2.2.1, u_33.2.2.2.2)) hx hb hr hlocks hP hK hD hS dX0_popToMemory_37 ⟨q_33.1, q_33.2⟩
  · refine lv_iconst (v := 2) hx hb dX0_popToMemory_17 (by decide) ?_
    exact mm_iret (mw := wW h a cA) (u1 := (u.1, u.2.1, u.2.2.1, u.2.2.2.1, u.2.2.2.2)) hx hb hr hlocks hP hK hD hS dX0_popToMemory_18 ⟨hI.1, hI.2⟩
theorem iw_X0_popToPc : ∀ w ∈ u_ws RX0 TX0 5, w ∈ wsX0_popToPc := by decide +kernel
set_option maxHeartbeats 4000000 in
set_option maxRecDepth 100000 in
theorem kX0_popToPc (l : Launch) (D : va_G) (h a : Nat) (cA : ClassId) (u : wS) (hI : wI u) (ac : Int32) (hac : vp_in ac 4096) : MM l yX0_popToPc wsX0_popToPc ({ frames := 2, cells := 0, slots := 0, locals := 47 }) D vwCl [(cA, .long)] (wW h a cA) (wA h a) u [.ref h, .int ac] rv_i (fun _ u' => wI u') := by
  refine mm_of (cc := cX0_popToPc) (maxL := 3) (ret := (some .int)) (by decide) rfl (Nat.le_of_ble_eq_true rfl) (wA_in h a cA u) ?_
  intro p e s m below meth c ls C hl hP hK hD hS
  obtain ⟨hx, hb, hr, hml, hown, hts, hlocks⟩ := C
  have hl : lv_has ls 3 [(0, .ref h), (1, .int ac)] := hl
  refine lv_aload_n hx hb dX0_popToPc_0 rfl (lv_at hl 0 rfl) ?_
  refine va_get (D := D) (ci := 0) (v := .ref a) (C := RX0) (T := TX0) (N := 5) hx hb hts iw_X0_popToPc hown hK hP 0 rfl rfl 0 (by decide) (hts (.fieldLink RX0 9 "WordMill" "memory" "[J") (by decide +kernel)) (fun _ h9 => h9) rfl dX0_popToPc_1 ?_
  refine lv_iload_n hx hb dX0_popToPc_4 rfl (lv_at hl 1 rfl) ?_
  refine va_lald hx hb hK hP 1 0 rfl rfl hac dX0_popToPc_5 ?_
  refine ps_goi (As := [.long (u.1 (ac : Int32).toNatClampNeg)]) (rest := []) ⟨hx, hb, hml, hown, hts⟩ (kX0_rightHalf l (u.1 (ac : Int32).toNatClampNeg)) (va_cwS 1 hts gX0_popToPc_X0_rightHalf rfl rfl rfl (by decide +kernel) ⟨by decide, by decide⟩) rfl hl.1 rfl (Nat.le_of_ble_eq_true rfl) dX0_popToPc_6 ⟨Nat.zero_le _, Nat.zero_le _⟩ (fun r_6 q_6 => ?_)
  refine lv_istore_n (lv' := [(2, .int r_6), (0, .ref h), (1, .int ac)]) hx hb dX0_popToPc_9 rfl hl (by decide) rfl (fun ls hl => ?_)
  refine lv_iload_n hx hb dX0_popToPc_10 rfl (lv_at hl 0 rfl) ?_
  refine lv_sipush (v := 4096) hx hb dX0_popToPc_11 (by decide) ?_
  refine lv_icmp_lt (tgt := 19) hx hb dX0_popToPc_14 (by decide) (fun c_14 => ?_) (fun c_14 => ?_)
  · refine lv_aload_n hx hb dX0_popToPc_19 rfl (lv_at hl 1 rfl) ?_
    refine lv_aload_n hx hb dX0_popToPc_20 rfl (lv_at hl 1 rfl) ?_
    refine va_get (D := D) (ci := 0) (v := .ref a) (C := RX0) (T := TX0) (N := 5) hx hb hts iw_X0_popToPc hown hK hP 0 rfl rfl 0 (by decide) (hts (.fieldLink RX0 9 "WordMill" "memory" "[J") (by decide +kernel)) (fun _ h9 => h9) rfl dX0_popToPc_21 ?_
    refine lv_iload_n hx hb dX0_popToPc_24 rfl (lv_at hl 0 rfl) ?_
    refine va_lald hx hb hK hP 1 0 rfl rfl (vp_below (vp_nonneg q_6) c_14 (by decide)) dX0_popToPc_25 ?_
    refine ps_goi (As := [.long (u.1 (r_6 : Int32).toNatClampNeg)]) (rest := [.ref h]) ⟨hx, hb, hml, hown, hts⟩ (kX0_rightHalf l (u.1 (r_6 : Int32).toNatClampNeg)) (va_cwS 1 hts gX0_popToPc_X0_rightHalf rfl rfl rfl (by decide +kernel) ⟨by decide, by decide⟩) rfl hl.1 rfl (Nat.le_of_ble_eq_true rfl) dX0_popToPc_26 ⟨Nat.zero_le _, Nat.zero_le _⟩ (fun r_26 q_26 => ?_)
    refine w_go (rv := rv_i) (As := [.int r_26]) (rest := []) ⟨hx, hb, hml, hown, hts⟩ (kX0_jump l D h a cA (u.1, u.2.1, u.2.2.1, u.2.2.2.1, u.2.2.2.2) ⟨hI.1, hI.2⟩ r_26 ) (cwV 1 hts gX0_popToPc_X0_jump rfl rfl rfl (by decide +kernel) ⟨by decide, by decide⟩) hK hP hD hS rfl hl.1 rfl (Nat.le_of_ble_eq_true rfl) dX0_popToPc_29 ⟨Nat.zero_le _, Nat.zero_le _⟩ (fun r_29 u_29 H locs q_29 hP hD hS => ?_)
    refine W.eq (g2 := F0 m 32 ls (.int r_29 :: [])) rfl ?_
    refine lv_pop hx hb dX0_popToPc_32 rfl ?_
    refine lv_aload_n hx hb dX0_popToPc_33 rfl (lv_at hl 1 rfl) ?_
    refine lv_iload_n hx hb dX0_popToPc_34 rfl (lv_at hl 2 rfl) ?_
    refine lv_iconst (v := -1) hx hb dX0_popToPc_35 (by decide) ?_
    refine w_go (rv := rv_v) (As := [.int ac, .int (-1)]) (rest := []) ⟨hx, hb, hml, hown, hts⟩ (kX0_moveTop l D h a cA (u_29.1, u_29.2.1, u_29.2.2.1, u_29.2.2.2.1, u_29.2.2.2.2) ⟨q_29.1, q_29.2⟩ ac (-1) hac) (cwV 2 hts gX0_popToPc_X0_moveTop rfl rfl rfl (by decide +kernel) ⟨by decide, by decide⟩) hK hP hD hS rfl hl.1 rfl (Nat.le_of_ble_eq_true rfl) dX0_popToPc_36 ⟨Nat.zero_le _, Nat.zero_le _⟩ (fun _ u_36 H locs q_36 hP hD hS => ?_)
    refine W.eq (g2 := F0 m 39 ls []) rfl ?_
    refine lv_iconst (v := 0) hx hb dX0_popToPc_39 (by decide) ?_
    exact mm_iret (mw := wW h a cA) (u1 := (u_36.1, u_36.2.1, u_36.2.2.1, u_36.2.2.2.1, u_36.2.2.2.2)) hx hb hr hlocks hP hK hD hS dX0_popToPc_40 ⟨q_36.1, q_36.2⟩
  · refine lv_iconst (v := 2) hx hb dX0_popToPc_17 (by decide) ?_
    exact mm_iret (mw := wW h a cA) (u1 := (u.1, u.2.1, u.2.2.1, u.2.2.2.1, u.2.2.2.2)) hx hb hr hlocks hP hK hD hS dX0_popToPc_18 ⟨hI.1, hI.2⟩
theorem iw_X0_leaveNextPlaceAndJump : ∀ w ∈ u_ws RX0 TX0 5, w ∈ wsX0_leaveNextPlaceAndJump := by decide +kernel
set_option maxHeartbeats 4000000 in
set_option maxRecDepth 100000 in
theorem kX0_leaveNextPlaceAndJump (l : Launch) (D : va_G) (h a : Nat) (cA : ClassId) (u : wS) (hI : wI u) (e0 : Int32) (he : vp_in e0 4096) : MM l yX0_leaveNextPlaceAndJump wsX0_leaveNextPlaceAndJump ({ frames := 1, cells := 0, slots := 0, locals := 23 }) D vwCl [(cA, .long)] (wW h a cA) (wA h a) u [.ref h, .int e0] rv_i (fun _ u' => wI u') := by
  refine mm_of (cc := cX0_leaveNextPlaceAndJump) (maxL := 2) (ret := (some .int)) (by decide) rfl (Nat.le_of_ble_eq_true rfl) (wA_in h a cA u) ?_
  intro p e s m below meth c ls C hl hP hK hD hS
  obtain ⟨hx, hb, hr, hml, hown, hts, hlocks⟩ := C
  have hl : lv_has ls 2 [(0, .ref h), (1, .int e0)] := hl
  refine lv_aload_n hx hb dX0_leaveNextPlaceAndJump_0 rfl (lv_at hl 0 rfl) ?_
  refine lv_iload_n hx hb dX0_leaveNextPlaceAndJump_1 rfl (lv_at hl 1 rfl) ?_
  refine lv_aload_n hx hb dX0_leaveNextPlaceAndJump_2 rfl (lv_at hl 0 rfl) ?_
  refine va_get (D := D) (ci := 0) (v := .int u.2.2.1) (C := RX0) (T := TX0) (N := 5) hx hb hts iw_X0_leaveNextPlaceAndJump hown hK hP 0 rfl rfl 2 (by decide) (hts (.fieldLink RX0 17 "WordMill" "next" "I") (by decide +kernel)) (fun _ h9 => h9) rfl dX0_leaveNextPlaceAndJump_3 ?_
  refine lv_i2l hx hb dX0_leaveNextPlaceAndJump_6 rfl ?_
  refine w_go (rv := rv_v) (As := [.int e0, .long ((u.2.2.1 : Int32).toInt64)]) (rest := []) ⟨hx, hb, hml, hown, hts⟩ (kX0_store l D h a cA (u.1, u.2.1, u.2.2.1, u.2.2.2.1, u.2.2.2.2) ⟨hI.1, hI.2⟩ e0 ((u.2.2.1 : Int32).toInt64) he) (cwV 2 hts gX0_leaveNextPlaceAndJump_X0_store rfl rfl rfl (by decide +kernel) ⟨by decide, by decide⟩) hK hP hD hS rfl hl.1 rfl (Nat.le_of_ble_eq_true rfl) dX0_leaveNextPlaceAndJump_7 ⟨Nat.zero_le _, Nat.zero_le _⟩ (fun _ u_7 H locs q_7 hP hD hS => ?_)
  refine W.eq (g2 := F0 m 10 ls []) rfl ?_
  refine lv_aload_n hx hb dX0_leaveNextPlaceAndJump_10 rfl (lv_at hl 0 rfl) ?_
  refine lv_iload_n hx hb dX0_leaveNextPlaceAndJump_11 rfl (lv_at hl 1 rfl) ?_
  refine lv_iconst (v := 1) hx hb dX0_leaveNextPlaceAndJump_12 (by decide) ?_
  refine lv_iadd hx hb dX0_leaveNextPlaceAndJump_13 ?_
  refine w_go (rv := rv_i) (As := [.int (e0 + 1)]) (rest := []) ⟨hx, hb, hml, hown, hts⟩ (kX0_jump l D h a cA (u_7.1, u_7.2.1, u_7.2.2.1, u_7.2.2.2.1, u_7.2.2.2.2) ⟨q_7.1, q_7.2⟩ (e0 + 1) ) (cwV 1 hts gX0_leaveNextPlaceAndJump_X0_jump rfl rfl rfl (by decide +kernel) ⟨by decide, by decide⟩) hK hP hD hS rfl hl.1 rfl (Nat.le_of_ble_eq_true rfl) dX0_leaveNextPlaceAndJump_14 ⟨Nat.zero_le _, Nat.zero_le _⟩ (fun r_14 u_14 H locs q_14 hP hD hS => ?_)
  refine W.eq (g2 := F0 m 17 ls (.int r_14 :: [])) rfl ?_
  exact mm_iret (mw := wW h a cA) (u1 := (u_14.1, u_14.2.1, u_14.2.2.1, u_14.2.2.2.1, u_14.2.2.2.2)) hx hb hr hlocks hP hK hD hS dX0_leaveNextPlaceAndJump_17 ⟨q_14.1, q_14.2⟩
theorem iw_X0_exchange : ∀ w ∈ u_ws RX0 TX0 5, w ∈ wsX0_exchange := by decide +kernel
set_option maxHeartbeats 4000000 in
set_option maxRecDepth 100000 in
theorem kX0_exchange (l : Launch) (D : va_G) (h a : Nat) (cA : ClassId) (u : wS) (hI : wI u) (ac : Int32) (e0 : Int32) (hac : vp_in ac 4096) (he : vp_in e0 4096) : MM l yX0_exchange wsX0_exchange ({ frames := 1, cells := 0, slots := 0, locals := 23 }) D vwCl [(cA, .long)] (wW h a cA) (wA h a) u [.ref h, .int ac, .int e0] rv_i (fun _ u' => wI u') := by
  refine mm_of (cc := cX0_exchange) (maxL := 5) (ret := (some .int)) (by decide) rfl (Nat.le_of_ble_eq_true rfl) (wA_in h a cA u) ?_
  intro p e s m below meth c ls C hl hP hK hD hS
  obtain ⟨hx, hb, hr, hml, hown, hts, hlocks⟩ := C
  have hl : lv_has ls 5 [(0, .ref h), (1, .int ac), (2, .int e0)] := hl
  refine lv_aload_n hx hb dX0_exchange_0 rfl (lv_at hl 0 rfl) ?_
  refine va_get (D := D) (ci := 0) (v := .ref a) (C := RX0) (T := TX0) (N := 5) hx hb hts iw_X0_exchange hown hK hP 0 rfl rfl 0 (by decide) (hts (.fieldLink RX0 9 "WordMill" "memory" "[J") (by decide +kernel)) (fun _ h9 => h9) rfl dX0_exchange_1 ?_
  refine lv_iload_n hx hb dX0_exchange_4 rfl (lv_at hl 1 rfl) ?_
  refine va_lald hx hb hK hP 1 0 rfl rfl hac dX0_exchange_5 ?_
  refine lv_topl (fun x_6 ex_6 => ?_)
  refine lv_lstore_n (lv' := [(3, .long x_6), (0, .ref h), (1, .int ac), (2, .int e0)]) hx hb dX0_exchange_6 rfl hl (by decide) rfl (fun ls hl => ?_)
  refine lv_aload_n hx hb dX0_exchange_7 rfl (lv_at hl 1 rfl) ?_
  refine lv_iload_n hx hb dX0_exchange_8 rfl (lv_at hl 2 rfl) ?_
  refine lv_aload_n hx hb dX0_exchange_9 rfl (lv_at hl 1 rfl) ?_
  refine va_get (D := D) (ci := 0) (v := .ref a) (C := RX0) (T := TX0) (N := 5) hx hb hts iw_X0_exchange hown hK hP 0 rfl rfl 0 (by decide) (hts (.fieldLink RX0 9 "WordMill" "memory" "[J") (by decide +kernel)) (fun _ h9 => h9) rfl dX0_exchange_10 ?_
  refine lv_iload_n hx hb dX0_exchange_13 rfl (lv_at hl 3 rfl) ?_
  refine va_lald hx hb hK hP 1 0 rfl rfl he dX0_exchange_14 ?_
  refine w_go (rv := rv_v) (As := [.int ac, .long (u.1 (e0 : Int32).toNatClampNeg)]) (rest := []) ⟨hx, hb, hml, hown, hts⟩ (kX0_store l D h a cA (u.1, u.2.1, u.2.2.1, u.2.2.2.1, u.2.2.2.2) ⟨hI.1, hI.2⟩ ac (u.1 (e0 : Int32).toNatClampNeg) hac) (cwV 2 hts gX0_exchange_X0_store rfl rfl rfl (by decide +kernel) ⟨by decide, by decide⟩) hK hP hD hS rfl hl.1 rfl (Nat.le_of_ble_eq_true rfl) dX0_exchange_15 ⟨Nat.zero_le _, Nat.zero_le _⟩ (fun _ u_15 H locs q_15 hP hD hS => ?_)
  refine W.eq (g2 := F0 m 18 ls []) rfl ?_
  refine lv_aload_n hx hb dX0_exchange_18 rfl (lv_at hl 1 rfl) ?_
  refine lv_iload_n hx hb dX0_exchange_19 rfl (lv_at hl 3 rfl) ?_
  refine lv_lload_n hx hb dX0_exchange_20 rfl (lv_at hl 0 rfl) ?_
  refine w_go (rv := rv_v) (As := [.int e0, .long x_6]) (rest := []) ⟨hx, hb, hml, hown, hts⟩ (kX0_store l D h a cA (u_15.1, u_15.2.1, u_15.2.2.1, u_15.2.2.2.1, u_15.2.2.2.2) ⟨q_15.1, q_15.2⟩ e0 x_6 he) (cwV 2 hts gX0_exchange_X0_store rfl rfl rfl (by decide +kernel) ⟨by decide, by decide⟩) hK hP hD hS rfl hl.1 rfl (Nat.le_of_ble_eq_true rfl) dX0_exchange_21 ⟨Nat.zero_le _, Nat.zero_le _⟩ (fun _ u_21 H locs q_21 hP hD hS => ?_)
  refine W.eq (g2 := F0 m 24 ls []) rfl ?_
  refine lv_iconst (v := 0) hx hb dX0_exchange_24 (by decide) ?_
  exact mm_iret (mw := wW h a cA) (u1 := (u_21.1, u_21.2.1, u_21.2.2.1, u_21.2.2.2.1, u_21.2.2.2.2)) hx hb hr hlocks hP hK hD hS dX0_exchange_25 ⟨q_21.1, q_21.2⟩
theorem iw_X0_divide : ∀ w ∈ u_ws RX0 TX0 5, w ∈ wsX0_divide := by decide +kernel
set_option maxHeartbeats 4000000 in
set_option maxRecDepth 100000 in
theorem kX0_divide (l : Launch) (D : va_G) (h a : Nat) (cA : ClassId) (u : wS) (hI : wI u) (ac : Int32) (w : Int64) (hac : vp_in ac 4096) : MM l yX0_divide wsX0_divide ({ frames := 1, cells := 0, slots := 0, locals := 23 }) D vwCl [(cA, .long)] (wW h a cA) (wA h a) u [.ref h, .int ac, .long w] rv_i (fun _ u' => wI u') := by
  refine mm_of (cc := cX0_divide) (maxL := 8) (ret := (some .int)) (by decide) rfl (Nat.le_of_ble_eq_true rfl) (wA_in h a cA u) ?_
  intro p e s m below meth c ls C hl hP hK hD hS
  obtain ⟨hx, hb, hr, hml, hown, hts, hlocks⟩ := C
  have hl : lv_has ls 8 [(0, .ref h), (1, .int ac), (2, .long w)] := hl
  refine lv_aload_n hx hb dX0_divide_0 rfl (lv_at hl 0 rfl) ?_
  refine va_get (D := D) (ci := 0) (v := .ref a) (C := RX0) (T := TX0) (N := 5) hx hb hts iw_X0_divide hown hK hP 0 rfl rfl 0 (by decide) (hts (.fieldLink RX0 9 "WordMill" "memory" "[J") (by decide +kernel)) (fun _ h9 => h9) rfl dX0_divide_1 ?_
  refine lv_iload_n hx hb dX0_divide_4 rfl (lv_at hl 1 rfl) ?_
  refine va_lald hx hb hK hP 1 0 rfl rfl hac dX0_divide_5 ?_
  refine ps_gol (As := [.long (u.1 (ac : Int32).toNatClampNeg)]) (rest := []) ⟨hx, hb, hml, hown, hts⟩ (kX0_number l (u.1 (ac : Int32).toNatClampNeg)) (va_cwS 1 hts gX0_divide_X0_number rfl rfl rfl (by decide +kernel) ⟨by decide, by decide⟩) rfl hl.1 rfl (Nat.le_of_ble_eq_true rfl) dX0_divide_6 ⟨Nat.zero_le _, Nat.zero_le _⟩ (fun r_6 q_6 => ?_)
  refine lv_lstore (lv' := [(4, .long r_6), (0, .ref h), (1, .int ac), (2, .long w)]) hx hb dX0_divide_9 hl (by decide) rfl (fun ls hl => ?_)
  refine lv_lload_n hx hb dX0_divide_11 rfl (lv_at hl 3 rfl) ?_
  refine ps_gol (As := [.long w]) (rest := []) ⟨hx, hb, hml, hown, hts⟩ (kX0_number l w) (va_cwS 1 hts gX0_divide_X0_number rfl rfl rfl (by decide +kernel) ⟨by decide, by decide⟩) rfl hl.1 rfl (Nat.le_of_ble_eq_true rfl) dX0_divide_12 ⟨Nat.zero_le _, Nat.zero_le _⟩ (fun r_12 q_12 => ?_)
  refine lv_lstore (lv' := [(6, .long r_12), (4, .long r_6), (0, .ref h), (1, .int ac), (2, .long w)]) hx hb dX0_divide_15 hl (by decide) rfl (fun ls hl => ?_)
  refine lv_lload hx hb dX0_divide_17 (lv_at hl 0 rfl) ?_
  refine lv_lconst (v := 0) hx hb dX0_divide_19 (by decide) ?_
  refine W.lcmp hx hb dX0_divide_20 ?_
  refine lv_if_eq (tgt := 42) hx hb dX0_divide_21 (by decide) (fun c_21 => ?_) (fun c_21 => ?_)
  · refine lv_iconst (v := 3) hx hb dX0_divide_42 (by decide) ?_
    exact mm_iret (mw := wW h a cA) (u1 := (u.1, u.2.1, u.2.2.1, u.2.2.2.1, u.2.2.2.2)) hx hb hr hlocks hP hK hD hS dX0_divide_43 ⟨hI.1, hI.2⟩
  · refine lv_lload hx hb dX0_divide_24 (lv_at hl 0 rfl) ?_
    refine lv_ldc2 (v := -1) hx hb hown (hts (.constantLong RX0 128 (-1)) (by decide +kernel)) dX0_divide_26 ?_
    refine W.lcmp hx hb dX0_divide_29 ?_
    refine lv_if_ne (tgt := 44) hx hb dX0_divide_30 (by decide) (fun c_30 => ?_) (fun c_30 => ?_)
    · refine lv_aload_n hx hb dX0_divide_44 rfl (lv_at hl 2 rfl) ?_
      refine lv_iload_n hx hb dX0_divide_45 rfl (lv_at hl 3 rfl) ?_
      refine lv_lload hx hb dX0_divide_46 (lv_at hl 1 rfl) ?_
      refine lv_lload hx hb dX0_divide_48 (lv_at hl 0 rfl) ?_
      refine lv_ldiv hx hb dX0_divide_50 (fun hz => c_21 (by rw [hz]; rfl)) ?_
      refine w_go (rv := rv_v) (As := [.int ac, .long (r_6 / r_12)]) (rest := []) ⟨hx, hb, hml, hown, hts⟩ (kX0_store l D h a cA (u.1, u.2.1, u.2.2.1, u.2.2.2.1, u.2.2.2.2) ⟨hI.1, hI.2⟩ ac (r_6 / r_12) hac) (cwV 2 hts gX0_divide_X0_store rfl rfl rfl (by decide +kernel) ⟨by decide, by decide⟩) hK hP hD hS rfl hl.1 rfl (Nat.le_of_ble_eq_true rfl) dX0_divide_51 ⟨Nat.zero_le _, Nat.zero_le _⟩ (fun _ u_51 H locs q_51 hP hD hS => ?_)
      refine W.eq (g2 := F0 m 54 ls []) rfl ?_
      refine lv_aload_n hx hb dX0_divide_54 rfl (lv_at hl 2 rfl) ?_
      refine lv_iload_n hx hb dX0_divide_55 rfl (lv_at hl 3 rfl) ?_
      refine lv_iconst (v := 1) hx hb dX0_divide_56 (by decide) ?_
      refine lv_iadd hx hb dX0_divide_57 ?_
      refine lv_bipush (v := 15) hx hb dX0_divide_58 (by decide) ?_
      refine lv_iand hx hb dX0_divide_60 ?_
      refine lv_lload hx hb dX0_divide_61 (lv_at hl 1 rfl) ?_
      refine lv_lload hx hb dX0_divide_63 (lv_at hl 0 rfl) ?_
      refine lv_lrem hx hb dX0_divide_65 (fun hz => c_21 (by rw [hz]; rfl)) ?_
      refine w_go (rv := rv_v) (As := [.int ((ac + 1) &&& 15), .long (r_6 - r_6 / r_12 * r_12)]) (rest := []) ⟨hx, hb, hml, hown, hts⟩ (kX0_store l D h a cA (u_51.1, u_51.2.1, u_51.2.2.1, u_51.2.2.2.1, u_51.2.2.2.2) ⟨q_51.1, q_51.2⟩ ((ac + 1) &&& 15) (r_6 - r_6 / r_12 * r_12) (vp_and15 _)) (cwV 2 hts gX0_divide_X0_store rfl rfl rfl (by decide +kernel) ⟨by decide, by decide⟩) hK hP hD hS rfl hl.1 rfl (Nat.le_of_ble_eq_true rfl) dX0_divide_66 ⟨Nat.zero_le _, Nat.zero_le _⟩ (fun _ u_66 H locs q_66 hP hD hS => ?_)
      refine W.eq (g2 := F0 m 69 ls []) rfl ?_
      refine lv_iconst (v := 0) hx hb dX0_divide_69 (by decide) ?_
      exact mm_iret (mw := wW h a cA) (u1 := (u_66.1, u_66.2.1, u_66.2.2.1, u_66.2.2.2.1, u_66.2.2.2.2)) hx hb hr hlocks hP hK hD hS dX0_divide_70 ⟨q_66.1, q_66.2⟩
    · refine lv_lload hx hb dX0_divide_33 (lv_at hl 1 rfl) ?_
      refine lv_ldc2 (v := -34359738368) hx hb hown (hts (.constantLong RX0 132 (-34359738368)) (by decide +kernel)) dX0_divide_35 ?_
      refine W.lcmp hx hb dX0_divide_38 ?_
      refine lv_if_ne (tgt := 44) hx hb dX0_divide_39 (by decide) (fun c_39 => ?_) (fun c_39 => ?_)
      · refine lv_aload_n hx hb dX0_divide_44 rfl (lv_at hl 2 rfl) ?_
        refine lv_iload_n hx hb dX0_divide_45 rfl (lv_at hl 3 rfl) ?_
        refine lv_lload hx hb dX0_divide_46 (lv_at hl 1 rfl) ?_
        refine lv_lload hx hb dX0_divide_48 (lv_at hl 0 rfl) ?_
        refine lv_ldiv hx hb dX0_divide_50 (fun hz => c_21 (by rw [hz]; rfl)) ?_
        refine w_go (rv := rv_v) (As := [.int ac, .long (r_6 / r_12)]) (rest := []) ⟨hx, hb, hml, hown, hts⟩ (kX0_store l D h a cA (u.1, u.2.1, u.2.2.1, u.2.2.2.1, u.2.2.2.2) ⟨hI.1, hI.2⟩ ac (r_6 / r_12) hac) (cwV 2 hts gX0_divide_X0_store rfl rfl rfl (by decide +kernel) ⟨by decide, by decide⟩) hK hP hD hS rfl hl.1 rfl (Nat.le_of_ble_eq_true rfl) dX0_divide_51 ⟨Nat.zero_le _, Nat.zero_le _⟩ (fun _ u_51 H locs q_51 hP hD hS => ?_)
        refine W.eq (g2 := F0 m 54 ls []) rfl ?_
        refine lv_aload_n hx hb dX0_divide_54 rfl (lv_at hl 2 rfl) ?_
        refine lv_iload_n hx hb dX0_divide_55 rfl (lv_at hl 3 rfl) ?_
        refine lv_iconst (v := 1) hx hb dX0_divide_56 (by decide) ?_
        refine lv_iadd hx hb dX0_divide_57 ?_
        refine lv_bipush (v := 15) hx hb dX0_divide_58 (by decide) ?_
        refine lv_iand hx hb dX0_divide_60 ?_
        refine lv_lload hx hb dX0_divide_61 (lv_at hl 1 rfl) ?_
        refine lv_lload hx hb dX0_divide_63 (lv_at hl 0 rfl) ?_
        refine lv_lrem hx hb dX0_divide_65 (fun hz => c_21 (by rw [hz]; rfl)) ?_
        refine w_go (rv := rv_v) (As := [.int ((ac + 1) &&& 15), .long (r_6 - r_6 / r_12 * r_12)]) (rest := []) ⟨hx, hb, hml, hown, hts⟩ (kX0_store l D h a cA (u_51.1, u_51.2.1, u_51.2.2.1, u_51.2.2.2.1, u_51.2.2.2.2) ⟨q_51.1, q_51.2⟩ ((ac + 1) &&& 15) (r_6 - r_6 / r_12 * r_12) (vp_and15 _)) (cwV 2 hts gX0_divide_X0_store rfl rfl rfl (by decide +kernel) ⟨by decide, by decide⟩) hK hP hD hS rfl hl.1 rfl (Nat.le_of_ble_eq_true rfl) dX0_divide_66 ⟨Nat.zero_le _, Nat.zero_le _⟩ (fun _ u_66 H locs q_66 hP hD hS => ?_)
        refine W.eq (g2 := F0 m 69 ls []) rfl ?_
        refine lv_iconst (v := 0) hx hb dX0_divide_69 (by decide) ?_
        exact mm_iret (mw := wW h a cA) (u1 := (u_66.1, u_66.2.1, u_66.2.2.1, u_66.2.2.2.1, u_66.2.2.2.2)) hx hb hr hlocks hP hK hD hS dX0_divide_70 ⟨q_66.1, q_66.2⟩
      · refine lv_iconst (v := 3) hx hb dX0_divide_42 (by decide) ?_
        exact mm_iret (mw := wW h a cA) (u1 := (u.1, u.2.1, u.2.2.1, u.2.2.2.1, u.2.2.2.2)) hx hb hr hlocks hP hK hD hS dX0_divide_43 ⟨hI.1, hI.2⟩
theorem iw_X0_combine : ∀ w ∈ u_ws RX0 TX0 5, w ∈ wsX0_combine := by decide +kernel
set_option maxHeartbeats 4000000 in
set_option maxRecDepth 100000 in
theorem kX0_combine (l : Launch) (D : va_G) (h a : Nat) (cA : ClassId) (u : wS) (hI : wI u) (op : Int32) (ac : Int32) (w : Int64) (hac : vp_in ac 4096) : MM l yX0_combine wsX0_combine ({ frames := 2, cells := 0, slots := 0, locals := 47 }) D vwCl [(cA, .long)] (wW h a cA) (wA h a) u [.ref h, .int op, .int ac, .long w] rv_i (fun _ u' => wI u') := by
  refine mm_of (cc := cX0_combine) (maxL := 7) (ret := (some .int)) (by decide) rfl (Nat.le_of_ble_eq_true rfl) (wA_in h a cA u) ?_
  intro p e s m below meth c ls C hl hP hK hD hS
  obtain ⟨hx, hb, hr, hml, hown, hts, hlocks⟩ := C
  have hl : lv_has ls 7 [(0, .ref h), (1, .int op), (2, .int ac), (3, .long w)] := hl
  refine lv_aload_n hx hb dX0_combine_0 rfl (lv_at hl 0 rfl) ?_
  refine va_get (D := D) (ci := 0) (v := .ref a) (C := RX0) (T := TX0) (N := 5) hx hb hts iw_X0_combine hown hK hP 0 rfl rfl 0 (by decide) (hts (.fieldLink RX0 9 "WordMill" "memory" "[J") (by decide +kernel)) (fun _ h9 => h9) rfl dX0_combine_1 ?_
  refine lv_iload_n hx hb dX0_combine_4 rfl (lv_at hl 2 rfl) ?_
  refine va_lald hx hb hK hP 1 0 rfl rfl hac dX0_combine_5 ?_
  refine lv_topl (fun x_6 ex_6 => ?_)
  refine lv_lstore (lv' := [(5, .long x_6), (0, .ref h), (1, .int op), (2, .int ac), (3, .long w)]) hx hb dX0_combine_6 hl (by decide) rfl (fun ls hl => ?_)
  refine lv_aload_n hx hb dX0_combine_8 rfl (lv_at hl 1 rfl) ?_
  refine lv_iload_n hx hb dX0_combine_9 rfl (lv_at hl 3 rfl) ?_
  refine lv_iload_n hx hb dX0_combine_10 rfl (lv_at hl 2 rfl) ?_
  refine ps_goi (As := [.int op]) (rest := [.int ac, .ref h]) ⟨hx, hb, hml, hown, hts⟩ (kX0_isOfHalves l op) (va_cwS 1 hts gX0_combine_X0_isOfHalves rfl rfl rfl (by decide +kernel) ⟨by decide, by decide⟩) rfl hl.1 rfl (Nat.le_of_ble_eq_true rfl) dX0_combine_11 ⟨Nat.zero_le _, Nat.zero_le _⟩ (fun r_11 q_11 => ?_)
  refine lv_if_eq (tgt := 27) hx hb dX0_combine_14 (by decide) (fun c_14 => ?_) (fun c_14 => ?_)
  · refine lv_iload_n hx hb dX0_combine_27 rfl (lv_at hl 2 rfl) ?_
    refine lv_lload hx hb dX0_combine_28 (lv_at hl 0 rfl) ?_
    refine lv_lload_n hx hb dX0_combine_30 rfl (lv_at hl 4 rfl) ?_
    refine ps_gol (As := [.int op, .long x_6, .long w]) (rest := [.int ac, .ref h]) ⟨hx, hb, hml, hown, hts⟩ (kX0_ofWords l op x_6 w) (va_cwS 3 hts gX0_combine_X0_ofWords rfl rfl rfl (by decide +kernel) ⟨by decide, by decide⟩) rfl hl.1 rfl (Nat.le_of_ble_eq_true rfl) dX0_combine_31 ⟨Nat.zero_le _, Nat.zero_le _⟩ (fun r_31 q_31 => ?_)
    refine w_go (rv := rv_v) (As := [.int ac, .long r_31]) (rest := []) ⟨hx, hb, hml, hown, hts⟩ (kX0_store l D h a cA (u.1, u.2.1, u.2.2.1, u.2.2.2.1, u.2.2.2.2) ⟨hI.1, hI.2⟩ ac r_31 hac) (cwV 2 hts gX0_combine_X0_store rfl rfl rfl (by decide +kernel) ⟨by decide, by decide⟩) hK hP hD hS rfl hl.1 rfl (Nat.le_of_ble_eq_true rfl) dX0_combine_34 ⟨Nat.zero_le _, Nat.zero_le _⟩ (fun _ u_34 H locs q_34 hP hD hS => ?_)
    refine W.eq (g2 := F0 m 37 ls []) rfl ?_
    refine lv_iconst (v := 0) hx hb dX0_combine_37 (by decide) ?_
    exact mm_iret (mw := wW h a cA) (u1 := (u_34.1, u_34.2.1, u_34.2.2.1, u_34.2.2.2.1, u_34.2.2.2.2)) hx hb hr hlocks hP hK hD hS dX0_combine_38 ⟨q_34.1, q_34.2⟩
  · refine lv_iload_n hx hb dX0_combine_17 rfl (lv_at hl 2 rfl) ?_
    refine lv_lload hx hb dX0_combine_18 (lv_at hl 0 rfl) ?_
    refine lv_lload_n hx hb dX0_combine_20 rfl (lv_at hl 4 rfl) ?_
    refine ps_gol (As := [.int op, .long x_6, .long w]) (rest := [.int ac, .ref h]) ⟨hx, hb, hml, hown, hts⟩ (kX0_ofHalves l op x_6 w) (va_cwS 3 hts gX0_combine_X0_ofHalves rfl rfl rfl (by decide +kernel) ⟨by decide, by decide⟩) rfl hl.1 rfl (Nat.le_of_ble_eq_true rfl) dX0_combine_21 ⟨Nat.zero_le _, Nat.zero_le _⟩ (fun r_21 q_21 => ?_)
    refine lv_goto (tgt := 34) hx hb dX0_combine_24 (by decide) ?_
    refine w_go (rv := rv_v) (As := [.int ac, .long r_21]) (rest := []) ⟨hx, hb, hml, hown, hts⟩ (kX0_store l D h a cA (u.1, u.2.1, u.2.2.1, u.2.2.2.1, u.2.2.2.2) ⟨hI.1, hI.2⟩ ac r_21 hac) (cwV 2 hts gX0_combine_X0_store rfl rfl rfl (by decide +kernel) ⟨by decide, by decide⟩) hK hP hD hS rfl hl.1 rfl (Nat.le_of_ble_eq_true rfl) dX0_combine_34 ⟨Nat.zero_le _, Nat.zero_le _⟩ (fun _ u_34 H locs q_34 hP hD hS => ?_)
    refine W.eq (g2 := F0 m 37 ls []) rfl ?_
    refine lv_iconst (v := 0) hx hb dX0_combine_37 (by decide) ?_
    exact mm_iret (mw := wW h a cA) (u1 := (u_34.1, u_34.2.1, u_34.2.2.1, u_34.2.2.2.1, u_34.2.2.2.2)) hx hb hr hlocks hP hK hD hS dX0_combine_38 ⟨q_34.1, q_34.2⟩
theorem iw_X0_performOnMemory : ∀ w ∈ u_ws RX0 TX0 5, w ∈ wsX0_performOnMemory := by decide +kernel
set_option maxHeartbeats 4000000 in
set_option maxRecDepth 100000 in
theorem kX0_performOnMemory (l : Launch) (D : va_G) (h a : Nat) (cA : ClassId) (u : wS) (hI : wI u) (op : Int32) (ac : Int32) (e0 : Int32) (hac : vp_in ac 4096) (he : vp_in e0 4096) : MM l yX0_performOnMemory wsX0_performOnMemory ({ frames := 3, cells := 0, slots := 0, locals := 73 }) D vwCl [(cA, .long)] (wW h a cA) (wA h a) u [.ref h, .int op, .int ac, .int e0] rv_i (fun _ u' => wI u') := by
  refine mm_of (cc := cX0_performOnMemory) (maxL := 4) (ret := (some .int)) (by decide) rfl (Nat.le_of_ble_eq_true rfl) (wA_in h a cA u) ?_
  intro p e s m below meth c ls C hl hP hK hD hS
  obtain ⟨hx, hb, hr, hml, hown, hts, hlocks⟩ := C
  have hl : lv_has ls 4 [(0, .ref h), (1, .int op), (2, .int ac), (3, .int e0)] := hl
  refine lv_iload_n hx hb dX0_performOnMemory_0 rfl (lv_at hl 1 rfl) ?_
  by_cases k_130 : op = 130
  · subst k_130
    refine lv_lookup (tgt := 68) hx hb dX0_performOnMemory_1 (by decide) rfl (by decide) ?_
    refine lv_aload_n hx hb dX0_performOnMemory_68 rfl (lv_at hl 0 rfl) ?_
    refine lv_iload_n hx hb dX0_performOnMemory_69 rfl (lv_at hl 3 rfl) ?_
    refine lv_aload_n hx hb dX0_performOnMemory_70 rfl (lv_at hl 0 rfl) ?_
    refine va_get (D := D) (ci := 0) (v := .ref a) (C := RX0) (T := TX0) (N := 5) hx hb hts iw_X0_performOnMemory hown hK hP 0 rfl rfl 0 (by decide) (hts (.fieldLink RX0 9 "WordMill" "memory" "[J") (by decide +kernel)) (fun _ h9 => h9) rfl dX0_performOnMemory_71 ?_
    refine lv_iload_n hx hb dX0_performOnMemory_74 rfl (lv_at hl 2 rfl) ?_
    refine va_lald hx hb hK hP 1 0 rfl rfl hac dX0_performOnMemory_75 ?_
    refine w_go (rv := rv_v) (As := [.int e0, .long (u.1 (ac : Int32).toNatClampNeg)]) (rest := []) ⟨hx, hb, hml, hown, hts⟩ (kX0_store l D h a cA (u.1, u.2.1, u.2.2.1, u.2.2.2.1, u.2.2.2.2) ⟨hI.1, hI.2⟩ e0 (u.1 (ac : Int32).toNatClampNeg) he) (cwV 2 hts gX0_performOnMemory_X0_store rfl rfl rfl (by decide +kernel) ⟨by decide, by decide⟩) hK hP hD hS rfl hl.1 rfl (Nat.le_of_ble_eq_true rfl) dX0_performOnMemory_76 ⟨Nat.zero_le _, Nat.zero_le _⟩ (fun _ u_76 H locs q_76 hP hD hS => ?_)
    refine W.eq (g2 := F0 m 79 ls []) rfl ?_
    refine lv_iconst (v := 0) hx hb dX0_performOnMemory_79 (by decide) ?_
    exact mm_iret (mw := wW h a cA) (u1 := (u_76.1, u_76.2.1, u_76.2.2.1, u_76.2.2.2.1, u_76.2.2.2.2)) hx hb hr hlocks hP hK hD hS dX0_performOnMemory_80 ⟨q_76.1, q_76.2⟩
  by_cases k_152 : op = 152
  · subst k_152
    refine lv_lookup (tgt := 81) hx hb dX0_performOnMemory_1 (by decide) rfl (by decide) ?_
    refine lv_aload_n hx hb dX0_performOnMemory_81 rfl (lv_at hl 0 rfl) ?_
    refine lv_iload_n hx hb dX0_performOnMemory_82 rfl (lv_at hl 2 rfl) ?_
    refine lv_aload_n hx hb dX0_performOnMemory_83 rfl (lv_at hl 0 rfl) ?_
    refine va_get (D := D) (ci := 0) (v := .ref a) (C := RX0) (T := TX0) (N := 5) hx hb hts iw_X0_performOnMemory hown hK hP 0 rfl rfl 0 (by decide) (hts (.fieldLink RX0 9 "WordMill" "memory" "[J") (by decide +kernel)) (fun _ h9 => h9) rfl dX0_performOnMemory_84 ?_
    refine lv_iload_n hx hb dX0_performOnMemory_87 rfl (lv_at hl 3 rfl) ?_
    refine va_lald hx hb hK hP 1 0 rfl rfl he dX0_performOnMemory_88 ?_
    refine w_go (rv := rv_i) (As := [.int ac, .long (u.1 (e0 : Int32).toNatClampNeg)]) (rest := []) ⟨hx, hb, hml, hown, hts⟩ (kX0_divide l D h a cA (u.1, u.2.1, u.2.2.1, u.2.2.2.1, u.2.2.2.2) ⟨hI.1, hI.2⟩ ac (u.1 (e0 : Int32).toNatClampNeg) hac) (cwV 2 hts gX0_performOnMemory_X0_divide rfl rfl rfl (by decide +kernel) ⟨by decide, by decide⟩) hK hP hD hS rfl hl.1 rfl (Nat.le_of_ble_eq_true rfl) dX0_performOnMemory_89 ⟨Nat.zero_le _, Nat.zero_le _⟩ (fun r_89 u_89 H locs q_89 hP hD hS => ?_)
    refine W.eq (g2 := F0 m 92 ls (.int r_89 :: [])) rfl ?_
    exact mm_iret (mw := wW h a cA) (u1 := (u_89.1, u_89.2.1, u_89.2.2.1, u_89.2.2.2.1, u_89.2.2.2.2)) hx hb hr hlocks hP hK hD hS dX0_performOnMemory_92 ⟨q_89.1, q_89.2⟩
  by_cases k_168 : op = 168
  · subst k_168
    refine lv_lookup (tgt := 93) hx hb dX0_performOnMemory_1 (by decide) rfl (by decide) ?_
    refine lv_aload_n hx hb dX0_performOnMemory_93 rfl (lv_at hl 0 rfl) ?_
    refine lv_iload_n hx hb dX0_performOnMemory_94 rfl (lv_at hl 2 rfl) ?_
    refine lv_iload_n hx hb dX0_performOnMemory_95 rfl (lv_at hl 3 rfl) ?_
    refine w_go (rv := rv_i) (As := [.int ac, .int e0]) (rest := []) ⟨hx, hb, hml, hown, hts⟩ (kX0_exchange l D h a cA (u.1, u.2.1, u.2.2.1, u.2.2.2.1, u.2.2.2.2) ⟨hI.1, hI.2⟩ ac e0 hac he) (cwV 2 hts gX0_performOnMemory_X0_exchange rfl rfl rfl (by decide +kernel) ⟨by decide, by decide⟩) hK hP hD hS rfl hl.1 rfl (Nat.le_of_ble_eq_true rfl) dX0_performOnMemory_96 ⟨Nat.zero_le _, Nat.zero_le _⟩ (fun r_96 u_96 H locs q_96 hP hD hS => ?_)
    refine W.eq (g2 := F0 m 99 ls (.int r_96 :: [])) rfl ?_
    exact mm_iret (mw := wW h a cA) (u1 := (u_96.1, u_96.2.1, u_96.2.2.1, u_96.2.2.2.1, u_96.2.2.2.2)) hx hb hr hlocks hP hK hD hS dX0_performOnMemory_99 ⟨q_96.1, q_96.2⟩
  by_cases k_177 : op = 177
  · subst k_177
    refine lv_lookup (tgt := 100) hx hb dX0_performOnMemory_1 (by decide) rfl (by decide) ?_
    refine lv_aload_n hx hb dX0_performOnMemory_100 rfl (lv_at hl 0 rfl) ?_
    refine lv_iload_n hx hb dX0_performOnMemory_101 rfl (lv_at hl 2 rfl) ?_
    refine lv_aload_n hx hb dX0_performOnMemory_102 rfl (lv_at hl 0 rfl) ?_
    refine va_get (D := D) (ci := 0) (v := .ref a) (C := RX0) (T := TX0) (N := 5) hx hb hts iw_X0_performOnMemory hown hK hP 0 rfl rfl 0 (by decide) (hts (.fieldLink RX0 9 "WordMill" "memory" "[J") (by decide +kernel)) (fun _ h9 => h9) rfl dX0_performOnMemory_103 ?_
    refine lv_iload_n hx hb dX0_performOnMemory_106 rfl (lv_at hl 3 rfl) ?_
    refine va_lald hx hb hK hP 1 0 rfl rfl he dX0_performOnMemory_107 ?_
    refine w_go (rv := rv_i) (As := [.int ac, .long (u.1 (e0 : Int32).toNatClampNeg)]) (rest := []) ⟨hx, hb, hml, hown, hts⟩ (kX0_push l D h a cA (u.1, u.2.1, u.2.2.1, u.2.2.2.1, u.2.2.2.2) ⟨hI.1, hI.2⟩ ac (u.1 (e0 : Int32).toNatClampNeg) hac) (cwV 2 hts gX0_performOnMemory_X0_push rfl rfl rfl (by decide +kernel) ⟨by decide, by decide⟩) hK hP hD hS rfl hl.1 rfl (Nat.le_of_ble_eq_true rfl) dX0_performOnMemory_108 ⟨Nat.zero_le _, Nat.zero_le _⟩ (fun r_108 u_108 H locs q_108 hP hD hS => ?_)
    refine W.eq (g2 := F0 m 111 ls (.int r_108 :: [])) rfl ?_
    exact mm_iret (mw := wW h a cA) (u1 := (u_108.1, u_108.2.1, u_108.2.2.1, u_108.2.2.2.1, u_108.2.2.2.2)) hx hb hr hlocks hP hK hD hS dX0_performOnMemory_111 ⟨q_108.1, q_108.2⟩
  by_cases k_178 : op = 178
  · subst k_178
    refine lv_lookup (tgt := 112) hx hb dX0_performOnMemory_1 (by decide) rfl (by decide) ?_
    refine lv_aload_n hx hb dX0_performOnMemory_112 rfl (lv_at hl 0 rfl) ?_
    refine lv_iload_n hx hb dX0_performOnMemory_113 rfl (lv_at hl 2 rfl) ?_
    refine lv_iload_n hx hb dX0_performOnMemory_114 rfl (lv_at hl 3 rfl) ?_
    refine w_go (rv := rv_i) (As := [.int ac, .int e0]) (rest := []) ⟨hx, hb, hml, hown, hts⟩ (kX0_popToMemory l D h a cA (u.1, u.2.1, u.2.2.1, u.2.2.2.1, u.2.2.2.2) ⟨hI.1, hI.2⟩ ac e0 hac he) (cwV 2 hts gX0_performOnMemory_X0_popToMemory rfl rfl rfl (by decide +kernel) ⟨by decide, by decide⟩) hK hP hD hS rfl hl.1 rfl (Nat.le_of_ble_eq_true rfl) dX0_performOnMemory_115 ⟨Nat.zero_le _, Nat.zero_le _⟩ (fun r_115 u_115 H locs q_115 hP hD hS => ?_)
    refine W.eq (g2 := F0 m 118 ls (.int r_115 :: [])) rfl ?_
    exact mm_iret (mw := wW h a cA) (u1 := (u_115.1, u_115.2.1, u_115.2.2.1, u_115.2.2.2.1, u_115.2.2.2.2)) hx hb hr hlocks hP hK hD hS dX0_performOnMemory_118 ⟨q_115.1, q_115.2⟩
  by_cases k_180 : op = 180
  · subst k_180
    refine lv_lookup (tgt := 119) hx hb dX0_performOnMemory_1 (by decide) rfl (by decide) ?_
    refine lv_aload_n hx hb dX0_performOnMemory_119 rfl (lv_at hl 0 rfl) ?_
    refine lv_iload_n hx hb dX0_performOnMemory_120 rfl (lv_at hl 3 rfl) ?_
    refine w_go (rv := rv_i) (As := [.int e0]) (rest := []) ⟨hx, hb, hml, hown, hts⟩ (kX0_leaveNextPlaceAndJump l D h a cA (u.1, u.2.1, u.2.2.1, u.2.2.2.1, u.2.2.2.2) ⟨hI.1, hI.2⟩ e0 he) (cwV 1 hts gX0_performOnMemory_X0_leaveNextPlaceAndJump rfl rfl rfl (by decide +kernel) ⟨by decide, by decide⟩) hK hP hD hS rfl hl.1 rfl (Nat.le_of_ble_eq_true rfl) dX0_performOnMemory_121 ⟨Nat.zero_le _, Nat.zero_le _⟩ (fun r_121 u_121 H locs q_121 hP hD hS => ?_)
    refine W.eq (g2 := F0 m 124 ls (.int r_121 :: [])) rfl ?_
    exact mm_iret (mw := wW h a cA) (u1 := (u_121.1, u_121.2.1, u_121.2.2.1, u_121.2.2.2.1, u_121.2.2.2.2)) hx hb hr hlocks hP hK hD hS dX0_performOnMemory_124 ⟨q_121.1, q_121.2⟩
  by_cases k_258 : op = 258
  · subst k_258
    refine lv_lookup (tgt := 125) hx hb dX0_performOnMemory_1 (by decide) rfl (by decide) ?_
    refine lv_aload_n hx hb dX0_performOnMemory_125 rfl (lv_at hl 0 rfl) ?_
    refine lv_iload_n hx hb dX0_performOnMemory_126 rfl (lv_at hl 3 rfl) ?_
    refine lv_lconst (v := 0) hx hb dX0_performOnMemory_127 (by decide) ?_
    refine w_go (rv := rv_v) (As := [.int e0, .long 0]) (rest := []) ⟨hx, hb, hml, hown, hts⟩ (kX0_store l D h a cA (u.1, u.2.1, u.2.2.1, u.2.2.2.1, u.2.2.2.2) ⟨hI.1, hI.2⟩ e0 0 he) (cwV 2 hts gX0_performOnMemory_X0_store rfl rfl rfl (by decide +kernel) ⟨by decide, by decide⟩) hK hP hD hS rfl hl.1 rfl (Nat.le_of_ble_eq_true rfl) dX0_performOnMemory_128 ⟨Nat.zero_le _, Nat.zero_le _⟩ (fun _ u_128 H locs q_128 hP hD hS => ?_)
    refine W.eq (g2 := F0 m 131 ls []) rfl ?_
    refine lv_iconst (v := 0) hx hb dX0_performOnMemory_131 (by decide) ?_
    exact mm_iret (mw := wW h a cA) (u1 := (u_128.1, u_128.2.1, u_128.2.2.1, u_128.2.2.2.1, u_128.2.2.2.2)) hx hb hr hlocks hP hK hD hS dX0_performOnMemory_132 ⟨q_128.1, q_128.2⟩
  refine lv_lookup (off := 132) (tgt := 133) hx hb dX0_performOnMemory_1 (by decide) ((lv_osw k_130 (by decide)).trans <| (lv_osw k_152 (by decide)).trans <| (lv_osw k_168 (by decide)).trans <| (lv_osw k_177 (by decide)).trans <| (lv_osw k_178 (by decide)).trans <| (lv_osw k_180 (by decide)).trans <| (lv_osw k_258 (by decide)).trans <| rfl) (by decide) ?_
  refine lv_aload_n hx hb dX0_performOnMemory_133 rfl (lv_at hl 0 rfl) ?_
  refine lv_iload_n hx hb dX0_performOnMemory_134 rfl (lv_at hl 1 rfl) ?_
  refine lv_iload_n hx hb dX0_performOnMemory_135 rfl (lv_at hl 2 rfl) ?_
  refine lv_aload_n hx hb dX0_performOnMemory_136 rfl (lv_at hl 0 rfl) ?_
  refine va_get (D := D) (ci := 0) (v := .ref a) (C := RX0) (T := TX0) (N := 5) hx hb hts iw_X0_performOnMemory hown hK hP 0 rfl rfl 0 (by decide) (hts (.fieldLink RX0 9 "WordMill" "memory" "[J") (by decide +kernel)) (fun _ h9 => h9) rfl dX0_performOnMemory_137 ?_
  refine lv_iload_n hx hb dX0_performOnMemory_140 rfl (lv_at hl 3 rfl) ?_
  refine va_lald hx hb hK hP 1 0 rfl rfl he dX0_performOnMemory_141 ?_
  refine w_go (rv := rv_i) (As := [.int op, .int ac, .long (u.1 (e0 : Int32).toNatClampNeg)]) (rest := []) ⟨hx, hb, hml, hown, hts⟩ (kX0_combine l D h a cA (u.1, u.2.1, u.2.2.1, u.2.2.2.1, u.2.2.2.2) ⟨hI.1, hI.2⟩ op ac (u.1 (e0 : Int32).toNatClampNeg) hac) (cwV 3 hts gX0_performOnMemory_X0_combine rfl rfl rfl (by decide +kernel) ⟨by decide, by decide⟩) hK hP hD hS rfl hl.1 rfl (Nat.le_of_ble_eq_true rfl) dX0_performOnMemory_142 ⟨Nat.zero_le _, Nat.zero_le _⟩ (fun r_142 u_142 H locs q_142 hP hD hS => ?_)
  refine W.eq (g2 := F0 m 145 ls (.int r_142 :: [])) rfl ?_
  exact mm_iret (mw := wW h a cA) (u1 := (u_142.1, u_142.2.1, u_142.2.2.1, u_142.2.2.2.1, u_142.2.2.2.2)) hx hb hr hlocks hP hK hD hS dX0_performOnMemory_145 ⟨q_142.1, q_142.2⟩
theorem iw_X0_skipIf : ∀ w ∈ u_ws RX0 TX0 5, w ∈ wsX0_skipIf := by decide +kernel
set_option maxHeartbeats 4000000 in
set_option maxRecDepth 100000 in
theorem kX0_skipIf (l : Launch) (D : va_G) (h a : Nat) (cA : ClassId) (u : wS) (hI : wI u) (z0 : Int32)  : MM l yX0_skipIf wsX0_skipIf ({ frames := 1, cells := 0, slots := 0, locals := 21 }) D vwCl [(cA, .long)] (wW h a cA) (wA h a) u [.ref h, .int z0] rv_i (fun _ u' => wI u') := by
  refine mm_of (cc := cX0_skipIf) (maxL := 2) (ret := (some .int)) (by decide) rfl (Nat.le_of_ble_eq_true rfl) (wA_in h a cA u) ?_
  intro p e s m below meth c ls C hl hP hK hD hS
  obtain ⟨hx, hb, hr, hml, hown, hts, hlocks⟩ := C
  have hl : lv_has ls 2 [(0, .ref h), (1, .int z0)] := hl
  refine lv_iload_n hx hb dX0_skipIf_0 rfl (lv_at hl 1 rfl) ?_
  refine lv_if_eq (tgt := 17) hx hb dX0_skipIf_1 (by decide) (fun c_1 => ?_) (fun c_1 => ?_)
  · refine lv_iconst (v := 0) hx hb dX0_skipIf_17 (by decide) ?_
    exact mm_iret (mw := wW h a cA) (u1 := (u.1, u.2.1, u.2.2.1, u.2.2.2.1, u.2.2.2.2)) hx hb hr hlocks hP hK hD hS dX0_skipIf_18 ⟨hI.1, hI.2⟩
  · refine lv_aload_n hx hb dX0_skipIf_4 rfl (lv_at hl 0 rfl) ?_
    refine lv_aload_n hx hb dX0_skipIf_5 rfl (lv_at hl 0 rfl) ?_
    refine va_get (D := D) (ci := 0) (v := .int u.2.2.1) (C := RX0) (T := TX0) (N := 5) hx hb hts iw_X0_skipIf hown hK hP 0 rfl rfl 2 (by decide) (hts (.fieldLink RX0 17 "WordMill" "next" "I") (by decide +kernel)) (fun _ h9 => h9) rfl dX0_skipIf_6 ?_
    refine lv_iconst (v := 1) hx hb dX0_skipIf_9 (by decide) ?_
    refine lv_iadd hx hb dX0_skipIf_10 ?_
    refine w_go (rv := rv_i) (As := [.int (u.2.2.1 + 1)]) (rest := []) ⟨hx, hb, hml, hown, hts⟩ (kX0_jump l D h a cA (u.1, u.2.1, u.2.2.1, u.2.2.2.1, u.2.2.2.2) ⟨hI.1, hI.2⟩ (u.2.2.1 + 1) ) (cwV 1 hts gX0_skipIf_X0_jump rfl rfl rfl (by decide +kernel) ⟨by decide, by decide⟩) hK hP hD hS rfl hl.1 rfl (Nat.le_of_ble_eq_true rfl) dX0_skipIf_11 ⟨Nat.zero_le _, Nat.zero_le _⟩ (fun r_11 u_11 H locs q_11 hP hD hS => ?_)
    refine W.eq (g2 := F0 m 14 ls (.int r_11 :: [])) rfl ?_
    refine lv_goto (tgt := 18) hx hb dX0_skipIf_14 (by decide) ?_
    exact mm_iret (mw := wW h a cA) (u1 := (u_11.1, u_11.2.1, u_11.2.2.1, u_11.2.2.2.1, u_11.2.2.2.2)) hx hb hr hlocks hP hK hD hS dX0_skipIf_18 ⟨q_11.1, q_11.2⟩
theorem iw_X0_changeAndJump : ∀ w ∈ u_ws RX0 TX0 5, w ∈ wsX0_changeAndJump := by decide +kernel
set_option maxHeartbeats 4000000 in
set_option maxRecDepth 100000 in
theorem kX0_changeAndJump (l : Launch) (D : va_G) (h a : Nat) (cA : ClassId) (u : wS) (hI : wI u) (cd : Int32) (ac : Int32) (e0 : Int32) (ch : Int32) (hac : vp_in ac 4096) : MM l yX0_changeAndJump wsX0_changeAndJump ({ frames := 2, cells := 0, slots := 0, locals := 50 }) D vwCl [(cA, .long)] (wW h a cA) (wA h a) u [.ref h, .int cd, .int ac, .int e0, .int ch] rv_i (fun _ u' => wI u') := by
  refine mm_of (cc := cX0_changeAndJump) (maxL := 5) (ret := (some .int)) (by decide) rfl (Nat.le_of_ble_eq_true rfl) (wA_in h a cA u) ?_
  intro p e s m below meth c ls C hl hP hK hD hS
  obtain ⟨hx, hb, hr, hml, hown, hts, hlocks⟩ := C
  have hl : lv_has ls 5 [(0, .ref h), (1, .int cd), (2, .int ac), (3, .int e0), (4, .int ch)] := hl
  refine lv_aload_n hx hb dX0_changeAndJump_0 rfl (lv_at hl 0 rfl) ?_
  refine lv_iload_n hx hb dX0_changeAndJump_1 rfl (lv_at hl 2 rfl) ?_
  refine lv_aload_n hx hb dX0_changeAndJump_2 rfl (lv_at hl 0 rfl) ?_
  refine va_get (D := D) (ci := 0) (v := .ref a) (C := RX0) (T := TX0) (N := 5) hx hb hts iw_X0_changeAndJump hown hK hP 0 rfl rfl 0 (by decide) (hts (.fieldLink RX0 9 "WordMill" "memory" "[J") (by decide +kernel)) (fun _ h9 => h9) rfl dX0_changeAndJump_3 ?_
  refine lv_iload_n hx hb dX0_changeAndJump_6 rfl (lv_at hl 2 rfl) ?_
  refine va_lald hx hb hK hP 1 0 rfl rfl hac dX0_changeAndJump_7 ?_
  refine lv_iload hx hb dX0_changeAndJump_8 (lv_at hl 4 rfl) ?_
  refine lv_i2l hx hb dX0_changeAndJump_10 rfl ?_
  refine lv_ladd hx hb dX0_changeAndJump_11 ?_
  refine w_go (rv := rv_v) (As := [.int ac, .long ((u.1 (ac : Int32).toNatClampNeg) + (ch : Int32).toInt64)]) (rest := []) ⟨hx, hb, hml, hown, hts⟩ (kX0_store l D h a cA (u.1, u.2.1, u.2.2.1, u.2.2.2.1, u.2.2.2.2) ⟨hI.1, hI.2⟩ ac ((u.1 (ac : Int32).toNatClampNeg) + (ch : Int32).toInt64) hac) (cwV 2 hts gX0_changeAndJump_X0_store rfl rfl rfl (by decide +kernel) ⟨by decide, by decide⟩) hK hP hD hS rfl hl.1 rfl (Nat.le_of_ble_eq_true rfl) dX0_changeAndJump_12 ⟨Nat.zero_le _, Nat.zero_le _⟩ (fun _ u_12 H locs q_12 hP hD hS => ?_)
  refine W.eq (g2 := F0 m 15 ls []) rfl ?_
  refine lv_iload_n hx hb dX0_changeAndJump_15 rfl (lv_at hl 1 rfl) ?_
  refine lv_aload_n hx hb dX0_changeAndJump_16 rfl (lv_at hl 0 rfl) ?_
  refine va_get (D := D) (ci := 0) (v := .ref a) (C := RX0) (T := TX0) (N := 5) hx hb hts iw_X0_changeAndJump hown hK hP 0 rfl rfl 0 (by decide) (hts (.fieldLink RX0 9 "WordMill" "memory" "[J") (by decide +kernel)) (fun _ h9 => h9) rfl dX0_changeAndJump_17 ?_
  refine lv_iload_n hx hb dX0_changeAndJump_20 rfl (lv_at hl 2 rfl) ?_
  refine va_lald hx hb hK hP 1 0 rfl rfl hac dX0_changeAndJump_21 ?_
  refine lv_lconst (v := 0) hx hb dX0_changeAndJump_22 (by decide) ?_
  refine ps_goi (As := [.int cd, .long (u_12.1 (ac : Int32).toNatClampNeg), .long 0]) (rest := []) ⟨hx, hb, hml, hown, hts⟩ (kX0_holds l cd (u_12.1 (ac : Int32).toNatClampNeg) 0) (va_cwS 3 hts gX0_changeAndJump_X0_holds rfl rfl rfl (by decide +kernel) ⟨by decide, by decide⟩) rfl hl.1 rfl (Nat.le_of_ble_eq_true rfl) dX0_changeAndJump_23 ⟨Nat.zero_le _, Nat.zero_le _⟩ (fun r_23 q_23 => ?_)
  refine lv_if_eq (tgt := 37) hx hb dX0_changeAndJump_26 (by decide) (fun c_26 => ?_) (fun c_26 => ?_)
  · refine lv_iconst (v := 0) hx hb dX0_changeAndJump_37 (by decide) ?_
    exact mm_iret (mw := wW h a cA) (u1 := (u_12.1, u_12.2.1, u_12.2.2.1, u_12.2.2.2.1, u_12.2.2.2.2)) hx hb hr hlocks hP hK hD hS dX0_changeAndJump_38 ⟨q_12.1, q_12.2⟩
  · refine lv_aload_n hx hb dX0_changeAndJump_29 rfl (lv_at hl 0 rfl) ?_
    refine lv_iload_n hx hb dX0_changeAndJump_30 rfl (lv_at hl 3 rfl) ?_
    refine w_go (rv := rv_i) (As := [.int e0]) (rest := []) ⟨hx, hb, hml, hown, hts⟩ (kX0_jump l D h a cA (u_12.1, u_12.2.1, u_12.2.2.1, u_12.2.2.2.1, u_12.2.2.2.2) ⟨q_12.1, q_12.2⟩ e0 ) (cwV 1 hts gX0_changeAndJump_X0_jump rfl rfl rfl (by decide +kernel) ⟨by decide, by decide⟩) hK hP hD hS rfl hl.1 rfl (Nat.le_of_ble_eq_true rfl) dX0_changeAndJump_31 ⟨Nat.zero_le _, Nat.zero_le _⟩ (fun r_31 u_31 H locs q_31 hP hD hS => ?_)
    refine W.eq (g2 := F0 m 34 ls (.int r_31 :: [])) rfl ?_
    refine lv_goto (tgt := 38) hx hb dX0_changeAndJump_34 (by decide) ?_
    exact mm_iret (mw := wW h a cA) (u1 := (u_31.1, u_31.2.1, u_31.2.2.1, u_31.2.2.2.1, u_31.2.2.2.2)) hx hb hr hlocks hP hK hD hS dX0_changeAndJump_38 ⟨q_31.1, q_31.2⟩
theorem iw_X0_changeAndSkip : ∀ w ∈ u_ws RX0 TX0 5, w ∈ wsX0_changeAndSkip := by decide +kernel
set_option maxHeartbeats 4000000 in
set_option maxRecDepth 100000 in
theorem kX0_changeAndSkip (l : Launch) (D : va_G) (h a : Nat) (cA : ClassId) (u : wS) (hI : wI u) (cd : Int32) (ac : Int32) (e0 : Int32) (ch : Int32) (hac : vp_in ac 4096) (he : vp_in e0 4096) : MM l yX0_changeAndSkip wsX0_changeAndSkip ({ frames := 2, cells := 0, slots := 0, locals := 50 }) D vwCl [(cA, .long)] (wW h a cA) (wA h a) u [.ref h, .int cd, .int ac, .int e0, .int ch] rv_i (fun _ u' => wI u') := by
  refine mm_of (cc := cX0_changeAndSkip) (maxL := 7) (ret := (some .int)) (by decide) rfl (Nat.le_of_ble_eq_true rfl) (wA_in h a cA u) ?_
  intro p e s m below meth c ls C hl hP hK hD hS
  obtain ⟨hx, hb, hr, hml, hown, hts, hlocks⟩ := C
  have hl : lv_has ls 7 [(0, .ref h), (1, .int cd), (2, .int ac), (3, .int e0), (4, .int ch)] := hl
  refine lv_aload_n hx hb dX0_changeAndSkip_0 rfl (lv_at hl 0 rfl) ?_
  refine lv_iload_n hx hb dX0_changeAndSkip_1 rfl (lv_at hl 3 rfl) ?_
  refine lv_aload_n hx hb dX0_changeAndSkip_2 rfl (lv_at hl 0 rfl) ?_
  refine va_get (D := D) (ci := 0) (v := .ref a) (C := RX0) (T := TX0) (N := 5) hx hb hts iw_X0_changeAndSkip hown hK hP 0 rfl rfl 0 (by decide) (hts (.fieldLink RX0 9 "WordMill" "memory" "[J") (by decide +kernel)) (fun _ h9 => h9) rfl dX0_changeAndSkip_3 ?_
  refine lv_iload_n hx hb dX0_changeAndSkip_6 rfl (lv_at hl 3 rfl) ?_
  refine va_lald hx hb hK hP 1 0 rfl rfl he dX0_changeAndSkip_7 ?_
  refine lv_iload hx hb dX0_changeAndSkip_8 (lv_at hl 4 rfl) ?_
  refine lv_i2l hx hb dX0_changeAndSkip_10 rfl ?_
  refine lv_ladd hx hb dX0_changeAndSkip_11 ?_
  refine w_go (rv := rv_v) (As := [.int e0, .long ((u.1 (e0 : Int32).toNatClampNeg) + (ch : Int32).toInt64)]) (rest := []) ⟨hx, hb, hml, hown, hts⟩ (kX0_store l D h a cA (u.1, u.2.1, u.2.2.1, u.2.2.2.1, u.2.2.2.2) ⟨hI.1, hI.2⟩ e0 ((u.1 (e0 : Int32).toNatClampNeg) + (ch : Int32).toInt64) he) (cwV 2 hts gX0_changeAndSkip_X0_store rfl rfl rfl (by decide +kernel) ⟨by decide, by decide⟩) hK hP hD hS rfl hl.1 rfl (Nat.le_of_ble_eq_true rfl) dX0_changeAndSkip_12 ⟨Nat.zero_le _, Nat.zero_le _⟩ (fun _ u_12 H locs q_12 hP hD hS => ?_)
  refine W.eq (g2 := F0 m 15 ls []) rfl ?_
  refine lv_aload_n hx hb dX0_changeAndSkip_15 rfl (lv_at hl 0 rfl) ?_
  refine va_get (D := D) (ci := 0) (v := .ref a) (C := RX0) (T := TX0) (N := 5) hx hb hts iw_X0_changeAndSkip hown hK hP 0 rfl rfl 0 (by decide) (hts (.fieldLink RX0 9 "WordMill" "memory" "[J") (by decide +kernel)) (fun _ h9 => h9) rfl dX0_changeAndSkip_16 ?_
  refine lv_iload_n hx hb dX0_changeAndSkip_19 rfl (lv_at hl 3 rfl) ?_
  refine va_lald hx hb hK hP 1 0 rfl rfl he dX0_changeAndSkip_20 ?_
  refine lv_topl (fun x_21 ex_21 => ?_)
  refine lv_lstore (lv' := [(5, .long x_21), (0, .ref h), (1, .int cd), (2, .int ac), (3, .int e0), (4, .int ch)]) hx hb dX0_changeAndSkip_21 hl (by decide) rfl (fun ls hl => ?_)
  refine lv_iload_n hx hb dX0_changeAndSkip_23 rfl (lv_at hl 3 rfl) ?_
  refine lv_if_eq (tgt := 34) hx hb dX0_changeAndSkip_24 (by decide) (fun c_24 => ?_) (fun c_24 => ?_)
  · refine lv_aload_n hx hb dX0_changeAndSkip_34 rfl (lv_at hl 1 rfl) ?_
    refine lv_iload_n hx hb dX0_changeAndSkip_35 rfl (lv_at hl 2 rfl) ?_
    refine lv_lload hx hb dX0_changeAndSkip_36 (lv_at hl 0 rfl) ?_
    refine lv_lconst (v := 0) hx hb dX0_changeAndSkip_38 (by decide) ?_
    refine ps_goi (As := [.int cd, .long x_21, .long 0]) (rest := [.ref h]) ⟨hx, hb, hml, hown, hts⟩ (kX0_holds l cd x_21 0) (va_cwS 3 hts gX0_changeAndSkip_X0_holds rfl rfl rfl (by decide +kernel) ⟨by decide, by decide⟩) rfl hl.1 rfl (Nat.le_of_ble_eq_true rfl) dX0_changeAndSkip_39 ⟨Nat.zero_le _, Nat.zero_le _⟩ (fun r_39 q_39 => ?_)
    refine w_go (rv := rv_i) (As := [.int r_39]) (rest := []) ⟨hx, hb, hml, hown, hts⟩ (kX0_skipIf l D h a cA (u_12.1, u_12.2.1, u_12.2.2.1, u_12.2.2.2.1, u_12.2.2.2.2) ⟨q_12.1, q_12.2⟩ r_39 ) (cwV 1 hts gX0_changeAndSkip_X0_skipIf rfl rfl rfl (by decide +kernel) ⟨by decide, by decide⟩) hK hP hD hS rfl hl.1 rfl (Nat.le_of_ble_eq_true rfl) dX0_changeAndSkip_42 ⟨Nat.zero_le _, Nat.zero_le _⟩ (fun r_42 u_42 H locs q_42 hP hD hS => ?_)
    refine W.eq (g2 := F0 m 45 ls (.int r_42 :: [])) rfl ?_
    exact mm_iret (mw := wW h a cA) (u1 := (u_42.1, u_42.2.1, u_42.2.2.1, u_42.2.2.2.1, u_42.2.2.2.2)) hx hb hr hlocks hP hK hD hS dX0_changeAndSkip_45 ⟨q_42.1, q_42.2⟩
  · refine lv_aload_n hx hb dX0_changeAndSkip_27 rfl (lv_at hl 1 rfl) ?_
    refine lv_iload_n hx hb dX0_changeAndSkip_28 rfl (lv_at hl 3 rfl) ?_
    refine lv_lload hx hb dX0_changeAndSkip_29 (lv_at hl 0 rfl) ?_
    refine w_go (rv := rv_v) (As := [.int ac, .long x_21]) (rest := []) ⟨hx, hb, hml, hown, hts⟩ (kX0_store l D h a cA (u_12.1, u_12.2.1, u_12.2.2.1, u_12.2.2.2.1, u_12.2.2.2.2) ⟨q_12.1, q_12.2⟩ ac x_21 hac) (cwV 2 hts gX0_changeAndSkip_X0_store rfl rfl rfl (by decide +kernel) ⟨by decide, by decide⟩) hK hP hD hS rfl hl.1 rfl (Nat.le_of_ble_eq_true rfl) dX0_changeAndSkip_31 ⟨Nat.zero_le _, Nat.zero_le _⟩ (fun _ u_31 H locs q_31 hP hD hS => ?_)
    refine W.eq (g2 := F0 m 34 ls []) rfl ?_
    refine lv_aload_n hx hb dX0_changeAndSkip_34 rfl (lv_at hl 1 rfl) ?_
    refine lv_iload_n hx hb dX0_changeAndSkip_35 rfl (lv_at hl 2 rfl) ?_
    refine lv_lload hx hb dX0_changeAndSkip_36 (lv_at hl 0 rfl) ?_
    refine lv_lconst (v := 0) hx hb dX0_changeAndSkip_38 (by decide) ?_
    refine ps_goi (As := [.int cd, .long x_21, .long 0]) (rest := [.ref h]) ⟨hx, hb, hml, hown, hts⟩ (kX0_holds l cd x_21 0) (va_cwS 3 hts gX0_changeAndSkip_X0_holds rfl rfl rfl (by decide +kernel) ⟨by decide, by decide⟩) rfl hl.1 rfl (Nat.le_of_ble_eq_true rfl) dX0_changeAndSkip_39 ⟨Nat.zero_le _, Nat.zero_le _⟩ (fun r_39 q_39 => ?_)
    refine w_go (rv := rv_i) (As := [.int r_39]) (rest := []) ⟨hx, hb, hml, hown, hts⟩ (kX0_skipIf l D h a cA (u_31.1, u_31.2.1, u_31.2.2.1, u_31.2.2.2.1, u_31.2.2.2.2) ⟨q_31.1, q_31.2⟩ r_39 ) (cwV 1 hts gX0_changeAndSkip_X0_skipIf rfl rfl rfl (by decide +kernel) ⟨by decide, by decide⟩) hK hP hD hS rfl hl.1 rfl (Nat.le_of_ble_eq_true rfl) dX0_changeAndSkip_42 ⟨Nat.zero_le _, Nat.zero_le _⟩ (fun r_42 u_42 H locs q_42 hP hD hS => ?_)
    refine W.eq (g2 := F0 m 45 ls (.int r_42 :: [])) rfl ?_
    exact mm_iret (mw := wW h a cA) (u1 := (u_42.1, u_42.2.1, u_42.2.2.1, u_42.2.2.2.1, u_42.2.2.2.2)) hx hb hr hlocks hP hK hD hS dX0_changeAndSkip_45 ⟨q_42.1, q_42.2⟩
theorem iw_X0_test : ∀ w ∈ u_ws RX0 TX0 5, w ∈ wsX0_test := by decide +kernel
set_option maxHeartbeats 4000000 in
set_option maxRecDepth 100000 in
theorem kX0_test (l : Launch) (D : va_G) (h a : Nat) (cA : ClassId) (u : wS) (hI : wI u) (op : Int32) (ac : Int32) (e0 : Int32) (hop : ¬ op < 192 ∧ ¬ 255 < op) (hac : vp_in ac 4096) (he : ¬ e0 < 0) : MM l yX0_test wsX0_test ({ frames := 3, cells := 0, slots := 0, locals := 76 }) D vwCl [(cA, .long)] (wW h a cA) (wA h a) u [.ref h, .int op, .int ac, .int e0] rv_i (fun _ u' => wI u') := by
  refine mm_of (cc := cX0_test) (maxL := 6) (ret := (some .int)) (by decide) rfl (Nat.le_of_ble_eq_true rfl) (wA_in h a cA u) ?_
  intro p e s m below meth c ls C hl hP hK hD hS
  obtain ⟨hx, hb, hr, hml, hown, hts, hlocks⟩ := C
  have hl : lv_has ls 6 [(0, .ref h), (1, .int op), (2, .int ac), (3, .int e0)] := hl
  refine lv_iload_n hx hb dX0_test_0 rfl (lv_at hl 1 rfl) ?_
  refine lv_bipush (v := 8) hx hb dX0_test_1 (by decide) ?_
  refine lv_iand hx hb dX0_test_3 ?_
  refine lv_if_eq (tgt := 11) hx hb dX0_test_4 (by decide) (fun c_4 => ?_) (fun c_4 => ?_)
  · refine lv_iconst (v := 0) hx hb dX0_test_11 (by decide) ?_
    refine lv_istore (lv' := [(4, .int 0), (0, .ref h), (1, .int op), (2, .int ac), (3, .int e0)]) hx hb dX0_test_12 hl (by decide) rfl (fun ls hl => ?_)
    refine lv_iload hx hb dX0_test_14 (lv_at hl 0 rfl) ?_
    refine lv_if_eq (tgt := 28) hx hb dX0_test_16 (by decide) (fun c_16 => ?_) (fun c_16 => ?_)
    · refine lv_iload_n hx hb dX0_test_28 rfl (lv_at hl 2 rfl) ?_
      refine lv_bipush (v := 7) hx hb dX0_test_29 (by decide) ?_
      refine lv_iand hx hb dX0_test_31 ?_
      refine lv_topi (fun x_32 ex_32 => ?_)
      refine lv_istore (lv' := [(5, .int x_32), (4, .int 0), (0, .ref h), (1, .int op), (2, .int ac), (3, .int e0)]) hx hb dX0_test_32 hl (by decide) rfl (fun ls hl => ?_)
      refine lv_iload_n hx hb dX0_test_34 rfl (lv_at hl 3 rfl) ?_
      refine lv_sipush (v := 504) hx hb dX0_test_35 (by decide) ?_
      refine lv_iand hx hb dX0_test_38 ?_
      refine lv_topi (fun x_39 ex_39 => ?_)
      rcases (tst_0 hop.1 hop.2 c_4) with k_39 | k_39 | k_39 | k_39
      · have e_39 : x_39 = 192 := by rw [ex_39]; exact k_39
        clear ex_39
        subst e_39
        refine lv_lookup (tgt := 104) hx hb dX0_test_39 (by decide) rfl (by decide) ?_
        refine lv_aload_n hx hb dX0_test_104 rfl (lv_at hl 2 rfl) ?_
        refine lv_iload hx hb dX0_test_105 (lv_at hl 0 rfl) ?_
        refine lv_aload_n hx hb dX0_test_107 rfl (lv_at hl 2 rfl) ?_
        refine va_get (D := D) (ci := 0) (v := .ref a) (C := RX0) (T := TX0) (N := 5) hx hb hts iw_X0_test hown hK hP 0 rfl rfl 0 (by decide) (hts (.fieldLink RX0 9 "WordMill" "memory" "[J") (by decide +kernel)) (fun _ h9 => h9) rfl dX0_test_108 ?_
        refine lv_iload_n hx hb dX0_test_111 rfl (lv_at hl 4 rfl) ?_
        refine va_lald hx hb hK hP 1 0 rfl rfl hac dX0_test_112 ?_
        refine lv_iload_n hx hb dX0_test_113 rfl (lv_at hl 5 rfl) ?_
        refine lv_i2l hx hb dX0_test_114 rfl ?_
        refine ps_goi (As := [.int x_32, .long (u.1 (ac : Int32).toNatClampNeg), .long ((e0 : Int32).toInt64)]) (rest := [.ref h]) ⟨hx, hb, hml, hown, hts⟩ (kX0_holds l x_32 (u.1 (ac : Int32).toNatClampNeg) ((e0 : Int32).toInt64)) (va_cwS 3 hts gX0_test_X0_holds rfl rfl rfl (by decide +kernel) ⟨by decide, by decide⟩) rfl hl.1 rfl (Nat.le_of_ble_eq_true rfl) dX0_test_115 ⟨Nat.zero_le _, Nat.zero_le _⟩ (fun r_115 q_115 => ?_)
        refine w_go (rv := rv_i) (As := [.int r_115]) (rest := []) ⟨hx, hb, hml, hown, hts⟩ (kX0_skipIf l D h a cA (u.1, u.2.1, u.2.2.1, u.2.2.2.1, u.2.2.2.2) ⟨hI.1, hI.2⟩ r_115 ) (cwV 1 hts gX0_test_X0_skipIf rfl rfl rfl (by decide +kernel) ⟨by decide, by decide⟩) hK hP hD hS rfl hl.1 rfl (Nat.le_of_ble_eq_true rfl) dX0_test_118 ⟨Nat.zero_le _, Nat.zero_le _⟩ (fun r_118 u_118 H locs q_118 hP hD hS => ?_)
        refine W.eq (g2 := F0 m 121 ls (.int r_118 :: [])) rfl ?_
        exact mm_iret (mw := wW h a cA) (u1 := (u_118.1, u_118.2.1, u_118.2.2.1, u_118.2.2.2.1, u_118.2.2.2.2)) hx hb hr hlocks hP hK hD hS dX0_test_121 ⟨q_118.1, q_118.2⟩
      · have e_39 : x_39 = 208 := by rw [ex_39]; exact k_39
        clear ex_39
        subst e_39
        refine lv_lookup (tgt := 144) hx hb dX0_test_39 (by decide) rfl (by decide) ?_
        refine lv_aload_n hx hb dX0_test_144 rfl (lv_at hl 2 rfl) ?_
        refine lv_iload hx hb dX0_test_145 (lv_at hl 0 rfl) ?_
        refine lv_iload_n hx hb dX0_test_147 rfl (lv_at hl 4 rfl) ?_
        refine lv_iload_n hx hb dX0_test_148 rfl (lv_at hl 5 rfl) ?_
        refine lv_iconst (v := 0) hx hb dX0_test_149 (by decide) ?_
        refine w_go (rv := rv_i) (As := [.int x_32, .int ac, .int e0, .int 0]) (rest := []) ⟨hx, hb, hml, hown, hts⟩ (kX0_changeAndJump l D h a cA (u.1, u.2.1, u.2.2.1, u.2.2.2.1, u.2.2.2.2) ⟨hI.1, hI.2⟩ x_32 ac e0 0 hac) (cwV 4 hts gX0_test_X0_changeAndJump rfl rfl rfl (by decide +kernel) ⟨by decide, by decide⟩) hK hP hD hS rfl hl.1 rfl (Nat.le_of_ble_eq_true rfl) dX0_test_150 ⟨Nat.zero_le _, Nat.zero_le _⟩ (fun r_150 u_150 H locs q_150 hP hD hS => ?_)
        refine W.eq (g2 := F0 m 153 ls (.int r_150 :: [])) rfl ?_
        exact mm_iret (mw := wW h a cA) (u1 := (u_150.1, u_150.2.1, u_150.2.2.1, u_150.2.2.2.1, u_150.2.2.2.2)) hx hb hr hlocks hP hK hD hS dX0_test_153 ⟨q_150.1, q_150.2⟩
      · have e_39 : x_39 = 224 := by rw [ex_39]; exact k_39
        clear ex_39
        subst e_39
        refine lv_lookup (tgt := 164) hx hb dX0_test_39 (by decide) rfl (by decide) ?_
        refine lv_aload_n hx hb dX0_test_164 rfl (lv_at hl 2 rfl) ?_
        refine lv_iload hx hb dX0_test_165 (lv_at hl 0 rfl) ?_
        refine lv_iload_n hx hb dX0_test_167 rfl (lv_at hl 4 rfl) ?_
        refine lv_iload_n hx hb dX0_test_168 rfl (lv_at hl 5 rfl) ?_
        refine lv_iconst (v := 1) hx hb dX0_test_169 (by decide) ?_
        refine w_go (rv := rv_i) (As := [.int x_32, .int ac, .int e0, .int 1]) (rest := []) ⟨hx, hb, hml, hown, hts⟩ (kX0_changeAndJump l D h a cA (u.1, u.2.1, u.2.2.1, u.2.2.2.1, u.2.2.2.2) ⟨hI.1, hI.2⟩ x_32 ac e0 1 hac) (cwV 4 hts gX0_test_X0_changeAndJump rfl rfl rfl (by decide +kernel) ⟨by decide, by decide⟩) hK hP hD hS rfl hl.1 rfl (Nat.le_of_ble_eq_true rfl) dX0_test_170 ⟨Nat.zero_le _, Nat.zero_le _⟩ (fun r_170 u_170 H locs q_170 hP hD hS => ?_)
        refine W.eq (g2 := F0 m 173 ls (.int r_170 :: [])) rfl ?_
        exact mm_iret (mw := wW h a cA) (u1 := (u_170.1, u_170.2.1, u_170.2.2.1, u_170.2.2.2.1, u_170.2.2.2.2)) hx hb hr hlocks hP hK hD hS dX0_test_173 ⟨q_170.1, q_170.2⟩
      · have e_39 : x_39 = 240 := by rw [ex_39]; exact k_39
        clear ex_39
        subst e_39
        refine lv_lookup (tgt := 184) hx hb dX0_test_39 (by decide) rfl (by decide) ?_
        refine lv_aload_n hx hb dX0_test_184 rfl (lv_at hl 2 rfl) ?_
        refine lv_iload hx hb dX0_test_185 (lv_at hl 0 rfl) ?_
        refine lv_iload_n hx hb dX0_test_187 rfl (lv_at hl 4 rfl) ?_
        refine lv_iload_n hx hb dX0_test_188 rfl (lv_at hl 5 rfl) ?_
        refine lv_iconst (v := -1) hx hb dX0_test_189 (by decide) ?_
        refine w_go (rv := rv_i) (As := [.int x_32, .int ac, .int e0, .int (-1)]) (rest := []) ⟨hx, hb, hml, hown, hts⟩ (kX0_changeAndJump l D h a cA (u.1, u.2.1, u.2.2.1, u.2.2.2.1, u.2.2.2.2) ⟨hI.1, hI.2⟩ x_32 ac e0 (-1) hac) (cwV 4 hts gX0_test_X0_changeAndJump rfl rfl rfl (by decide +kernel) ⟨by decide, by decide⟩) hK hP hD hS rfl hl.1 rfl (Nat.le_of_ble_eq_true rfl) dX0_test_190 ⟨Nat.zero_le _, Nat.zero_le _⟩ (fun r_190 u_190 H locs q_190 hP hD hS => ?_)
        refine W.eq (g2 := F0 m 193 ls (.int r_190 :: [])) rfl ?_
        exact mm_iret (mw := wW h a cA) (u1 := (u_190.1, u_190.2.1, u_190.2.2.1, u_190.2.2.2.1, u_190.2.2.2.2)) hx hb hr hlocks hP hK hD hS dX0_test_193 ⟨q_190.1, q_190.2⟩
    · exact absurd (by decide) c_16
  · refine lv_iconst (v := 1) hx hb dX0_test_7 (by decide) ?_
    refine lv_goto (tgt := 12) hx hb dX0_test_8 (by decide) ?_
    refine lv_istore (lv' := [(4, .int 1), (0, .ref h), (1, .int op), (2, .int ac), (3, .int e0)]) hx hb dX0_test_12 hl (by decide) rfl (fun ls hl => ?_)
    refine lv_iload hx hb dX0_test_14 (lv_at hl 0 rfl) ?_
    refine lv_if_eq (tgt := 28) hx hb dX0_test_16 (by decide) (fun c_16 => ?_) (fun c_16 => ?_)
    · exact absurd c_16 (by decide)
    · refine lv_iload_n hx hb dX0_test_19 rfl (lv_at hl 4 rfl) ?_
      refine lv_sipush (v := 4096) hx hb dX0_test_20 (by decide) ?_
      refine lv_icmp_lt (tgt := 28) hx hb dX0_test_23 (by decide) (fun c_23 => ?_) (fun c_23 => ?_)
      · refine lv_iload_n hx hb dX0_test_28 rfl (lv_at hl 2 rfl) ?_
        refine lv_bipush (v := 7) hx hb dX0_test_29 (by decide) ?_
        refine lv_iand hx hb dX0_test_31 ?_
        refine lv_topi (fun x_32 ex_32 => ?_)
        refine lv_istore (lv' := [(5, .int x_32), (4, .int 1), (0, .ref h), (1, .int op), (2, .int ac), (3, .int e0)]) hx hb dX0_test_32 hl (by decide) rfl (fun ls hl => ?_)
        refine lv_iload_n hx hb dX0_test_34 rfl (lv_at hl 3 rfl) ?_
        refine lv_sipush (v := 504) hx hb dX0_test_35 (by decide) ?_
        refine lv_iand hx hb dX0_test_38 ?_
        refine lv_topi (fun x_39 ex_39 => ?_)
        rcases (tst_1 hop.1 hop.2 c_4) with k_39 | k_39 | k_39 | k_39
        · have e_39 : x_39 = 200 := by rw [ex_39]; exact k_39
          clear ex_39
          subst e_39
          refine lv_lookup (tgt := 122) hx hb dX0_test_39 (by decide) rfl (by decide) ?_
          refine lv_aload_n hx hb dX0_test_122 rfl (lv_at hl 2 rfl) ?_
          refine lv_iload hx hb dX0_test_123 (lv_at hl 0 rfl) ?_
          refine lv_aload_n hx hb dX0_test_125 rfl (lv_at hl 2 rfl) ?_
          refine va_get (D := D) (ci := 0) (v := .ref a) (C := RX0) (T := TX0) (N := 5) hx hb hts iw_X0_test hown hK hP 0 rfl rfl 0 (by decide) (hts (.fieldLink RX0 9 "WordMill" "memory" "[J") (by decide +kernel)) (fun _ h9 => h9) rfl dX0_test_126 ?_
          refine lv_iload_n hx hb dX0_test_129 rfl (lv_at hl 4 rfl) ?_
          refine va_lald hx hb hK hP 1 0 rfl rfl hac dX0_test_130 ?_
          refine lv_aload_n hx hb dX0_test_131 rfl (lv_at hl 2 rfl) ?_
          refine va_get (D := D) (ci := 0) (v := .ref a) (C := RX0) (T := TX0) (N := 5) hx hb hts iw_X0_test hown hK hP 0 rfl rfl 0 (by decide) (hts (.fieldLink RX0 9 "WordMill" "memory" "[J") (by decide +kernel)) (fun _ h9 => h9) rfl dX0_test_132 ?_
          refine lv_iload_n hx hb dX0_test_135 rfl (lv_at hl 5 rfl) ?_
          refine va_lald hx hb hK hP 1 0 rfl rfl (vp_below he c_23 (by decide)) dX0_test_136 ?_
          refine ps_goi (As := [.int x_32, .long (u.1 (ac : Int32).toNatClampNeg), .long (u.1 (e0 : Int32).toNatClampNeg)]) (rest := [.ref h]) ⟨hx, hb, hml, hown, hts⟩ (kX0_holds l x_32 (u.1 (ac : Int32).toNatClampNeg) (u.1 (e0 : Int32).toNatClampNeg)) (va_cwS 3 hts gX0_test_X0_holds rfl rfl rfl (by decide +kernel) ⟨by decide, by decide⟩) rfl hl.1 rfl (Nat.le_of_ble_eq_true rfl) dX0_test_137 ⟨Nat.zero_le _, Nat.zero_le _⟩ (fun r_137 q_137 => ?_)
          refine w_go (rv := rv_i) (As := [.int r_137]) (rest := []) ⟨hx, hb, hml, hown, hts⟩ (kX0_skipIf l D h a cA (u.1, u.2.1, u.2.2.1, u.2.2.2.1, u.2.2.2.2) ⟨hI.1, hI.2⟩ r_137 ) (cwV 1 hts gX0_test_X0_skipIf rfl rfl rfl (by decide +kernel) ⟨by decide, by decide⟩) hK hP hD hS rfl hl.1 rfl (Nat.le_of_ble_eq_true rfl) dX0_test_140 ⟨Nat.zero_le _, Nat.zero_le _⟩ (fun r_140 u_140 H locs q_140 hP hD hS => ?_)
          refine W.eq (g2 := F0 m 143 ls (.int r_140 :: [])) rfl ?_
          exact mm_iret (mw := wW h a cA) (u1 := (u_140.1, u_140.2.1, u_140.2.2.1, u_140.2.2.2.1, u_140.2.2.2.2)) hx hb hr hlocks hP hK hD hS dX0_test_143 ⟨q_140.1, q_140.2⟩
        · have e_39 : x_39 = 216 := by rw [ex_39]; exact k_39
          clear ex_39
          subst e_39
          refine lv_lookup (tgt := 154) hx hb dX0_test_39 (by decide) rfl (by decide) ?_
          refine lv_aload_n hx hb dX0_test_154 rfl (lv_at hl 2 rfl) ?_
          refine lv_iload hx hb dX0_test_155 (lv_at hl 0 rfl) ?_
          refine lv_iload_n hx hb dX0_test_157 rfl (lv_at hl 4 rfl) ?_
          refine lv_iload_n hx hb dX0_test_158 rfl (lv_at hl 5 rfl) ?_
          refine lv_iconst (v := 0) hx hb dX0_test_159 (by decide) ?_
          refine w_go (rv := rv_i) (As := [.int x_32, .int ac, .int e0, .int 0]) (rest := []) ⟨hx, hb, hml, hown, hts⟩ (kX0_changeAndSkip l D h a cA (u.1, u.2.1, u.2.2.1, u.2.2.2.1, u.2.2.2.2) ⟨hI.1, hI.2⟩ x_32 ac e0 0 hac (vp_below he c_23 (by decide))) (cwV 4 hts gX0_test_X0_changeAndSkip rfl rfl rfl (by decide +kernel) ⟨by decide, by decide⟩) hK hP hD hS rfl hl.1 rfl (Nat.le_of_ble_eq_true rfl) dX0_test_160 ⟨Nat.zero_le _, Nat.zero_le _⟩ (fun r_160 u_160 H locs q_160 hP hD hS => ?_)
          refine W.eq (g2 := F0 m 163 ls (.int r_160 :: [])) rfl ?_
          exact mm_iret (mw := wW h a cA) (u1 := (u_160.1, u_160.2.1, u_160.2.2.1, u_160.2.2.2.1, u_160.2.2.2.2)) hx hb hr hlocks hP hK hD hS dX0_test_163 ⟨q_160.1, q_160.2⟩
        · have e_39 : x_39 = 232 := by rw [ex_39]; exact k_39
          clear ex_39
          subst e_39
          refine lv_lookup (tgt := 174) hx hb dX0_test_39 (by decide) rfl (by decide) ?_
          refine lv_aload_n hx hb dX0_test_174 rfl (lv_at hl 2 rfl) ?_
          refine lv_iload hx hb dX0_test_175 (lv_at hl 0 rfl) ?_
          refine lv_iload_n hx hb dX0_test_177 rfl (lv_at hl 4 rfl) ?_
          refine lv_iload_n hx hb dX0_test_178 rfl (lv_at hl 5 rfl) ?_
          refine lv_iconst (v := 1) hx hb dX0_test_179 (by decide) ?_
          refine w_go (rv := rv_i) (As := [.int x_32, .int ac, .int e0, .int 1]) (rest := []) ⟨hx, hb, hml, hown, hts⟩ (kX0_changeAndSkip l D h a cA (u.1, u.2.1, u.2.2.1, u.2.2.2.1, u.2.2.2.2) ⟨hI.1, hI.2⟩ x_32 ac e0 1 hac (vp_below he c_23 (by decide))) (cwV 4 hts gX0_test_X0_changeAndSkip rfl rfl rfl (by decide +kernel) ⟨by decide, by decide⟩) hK hP hD hS rfl hl.1 rfl (Nat.le_of_ble_eq_true rfl) dX0_test_180 ⟨Nat.zero_le _, Nat.zero_le _⟩ (fun r_180 u_180 H locs q_180 hP hD hS => ?_)
          refine W.eq (g2 := F0 m 183 ls (.int r_180 :: [])) rfl ?_
          exact mm_iret (mw := wW h a cA) (u1 := (u_180.1, u_180.2.1, u_180.2.2.1, u_180.2.2.2.1, u_180.2.2.2.2)) hx hb hr hlocks hP hK hD hS dX0_test_183 ⟨q_180.1, q_180.2⟩
        · have e_39 : x_39 = 248 := by rw [ex_39]; exact k_39
          clear ex_39
          subst e_39
          refine lv_lookup (tgt := 194) hx hb dX0_test_39 (by decide) rfl (by decide) ?_
          refine lv_aload_n hx hb dX0_test_194 rfl (lv_at hl 2 rfl) ?_
          refine lv_iload hx hb dX0_test_195 (lv_at hl 0 rfl) ?_
          refine lv_iload_n hx hb dX0_test_197 rfl (lv_at hl 4 rfl) ?_
          refine lv_iload_n hx hb dX0_test_198 rfl (lv_at hl 5 rfl) ?_
          refine lv_iconst (v := -1) hx hb dX0_test_199 (by decide) ?_
          refine w_go (rv := rv_i) (As := [.int x_32, .int ac, .int e0, .int (-1)]) (rest := []) ⟨hx, hb, hml, hown, hts⟩ (kX0_changeAndSkip l D h a cA (u.1, u.2.1, u.2.2.1, u.2.2.2.1, u.2.2.2.2) ⟨hI.1, hI.2⟩ x_32 ac e0 (-1) hac (vp_below he c_23 (by decide))) (cwV 4 hts gX0_test_X0_changeAndSkip rfl rfl rfl (by decide +kernel) ⟨by decide, by decide⟩) hK hP hD hS rfl hl.1 rfl (Nat.le_of_ble_eq_true rfl) dX0_test_200 ⟨Nat.zero_le _, Nat.zero_le _⟩ (fun r_200 u_200 H locs q_200 hP hD hS => ?_)
          refine W.eq (g2 := F0 m 203 ls (.int r_200 :: [])) rfl ?_
          exact mm_iret (mw := wW h a cA) (u1 := (u_200.1, u_200.2.1, u_200.2.2.1, u_200.2.2.2.1, u_200.2.2.2.2)) hx hb hr hlocks hP hK hD hS dX0_test_203 ⟨q_200.1, q_200.2⟩
      · refine lv_iconst (v := 2) hx hb dX0_test_26 (by decide) ?_
        exact mm_iret (mw := wW h a cA) (u1 := (u.1, u.2.1, u.2.2.1, u.2.2.2.1, u.2.2.2.2)) hx hb hr hlocks hP hK hD hS dX0_test_27 ⟨hI.1, hI.2⟩
theorem iw_X0_perform : ∀ w ∈ u_ws RX0 TX0 5, w ∈ wsX0_perform := by decide +kernel
set_option maxHeartbeats 4000000 in
set_option maxRecDepth 100000 in
theorem kX0_perform (l : Launch) (D : va_G) (h a : Nat) (cA : ClassId) (u : wS) (hI : wI u) (op : Int32) (ac : Int32) (e0 : Int32) (hac : vp_in ac 4096) (he : ¬ e0 < 0) : MM l yX0_perform wsX0_perform ({ frames := 4, cells := 0, slots := 0, locals := 101 }) D vwCl [(cA, .long)] (wW h a cA) (wA h a) u [.ref h, .int op, .int ac, .int e0] rv_i (fun _ u' => wI u') := by
  refine mm_of (cc := cX0_perform) (maxL := 4) (ret := (some .int)) (by decide) rfl (Nat.le_of_ble_eq_true rfl) (wA_in h a cA u) ?_
  intro p e s m below meth c ls C hl hP hK hD hS
  obtain ⟨hx, hb, hr, hml, hown, hts, hlocks⟩ := C
  have hl : lv_has ls 4 [(0, .ref h), (1, .int op), (2, .int ac), (3, .int e0)] := hl
  refine lv_iload_n hx hb dX0_perform_0 rfl (lv_at hl 1 rfl) ?_
  by_cases k_0 : op = 0
  · subst k_0
    refine lv_lookup (tgt := 316) hx hb dX0_perform_1 (by decide) rfl (by decide) ?_
    refine lv_iconst (v := -1) hx hb dX0_perform_316 (by decide) ?_
    exact mm_iret (mw := wW h a cA) (u1 := (u.1, u.2.1, u.2.2.1, u.2.2.2.1, u.2.2.2.2)) hx hb hr hlocks hP hK hD hS dX0_perform_317 ⟨hI.1, hI.2⟩
  by_cases k_128 : op = 128
  · subst k_128
    refine lv_lookup (tgt := 354) hx hb dX0_perform_1 (by decide) rfl (by decide) ?_
    refine lv_iload_n hx hb dX0_perform_354 rfl (lv_at hl 3 rfl) ?_
    refine lv_sipush (v := 4096) hx hb dX0_perform_355 (by decide) ?_
    refine lv_icmp_lt (tgt := 365) hx hb dX0_perform_358 (by decide) (fun c_358 => ?_) (fun c_358 => ?_)
    · refine lv_aload_n hx hb dX0_perform_365 rfl (lv_at hl 0 rfl) ?_
      refine lv_iload_n hx hb dX0_perform_366 rfl (lv_at hl 1 rfl) ?_
      refine lv_iload_n hx hb dX0_perform_367 rfl (lv_at hl 2 rfl) ?_
      refine lv_iload_n hx hb dX0_perform_368 rfl (lv_at hl 3 rfl) ?_
      refine w_go (rv := rv_i) (As := [.int 128, .int ac, .int e0]) (rest := []) ⟨hx, hb, hml, hown, hts⟩ (kX0_performOnMemory l D h a cA (u.1, u.2.1, u.2.2.1, u.2.2.2.1, u.2.2.2.2) ⟨hI.1, hI.2⟩ 128 ac e0 hac (vp_below he c_358 (by decide))) (cwV 3 hts gX0_perform_X0_performOnMemory rfl rfl rfl (by decide +kernel) ⟨by decide, by decide⟩) hK hP hD hS rfl hl.1 rfl (Nat.le_of_ble_eq_true rfl) dX0_perform_369 ⟨Nat.zero_le _, Nat.zero_le _⟩ (fun r_369 u_369 H locs q_369 hP hD hS => ?_)
      refine W.eq (g2 := F0 m 372 ls (.int r_369 :: [])) rfl ?_
      exact mm_iret (mw := wW h a cA) (u1 := (u_369.1, u_369.2.1, u_369.2.2.1, u_369.2.2.2.1, u_369.2.2.2.2)) hx hb hr hlocks hP hK hD hS dX0_perform_372 ⟨q_369.1, q_369.2⟩
    · refine lv_iconst (v := 2) hx hb dX0_perform_361 (by decide) ?_
      refine lv_goto (tgt := 372) hx hb dX0_perform_362 (by decide) ?_
      exact mm_iret (mw := wW h a cA) (u1 := (u.1, u.2.1, u.2.2.1, u.2.2.2.1, u.2.2.2.2)) hx hb hr hlocks hP hK hD hS dX0_perform_372 ⟨hI.1, hI.2⟩
  by_cases k_129 : op = 129
  · subst k_129
    refine lv_lookup (tgt := 318) hx hb dX0_perform_1 (by decide) rfl (by decide) ?_
    refine lv_aload_n hx hb dX0_perform_318 rfl (lv_at hl 0 rfl) ?_
    refine lv_iload_n hx hb dX0_perform_319 rfl (lv_at hl 1 rfl) ?_
    refine lv_iload_n hx hb dX0_perform_320 rfl (lv_at hl 2 rfl) ?_
    refine lv_iload_n hx hb dX0_perform_321 rfl (lv_at hl 3 rfl) ?_
    refine lv_i2l hx hb dX0_perform_322 rfl ?_
    refine w_go (rv := rv_i) (As := [.int 129, .int ac, .long ((e0 : Int32).toInt64)]) (rest := []) ⟨hx, hb, hml, hown, hts⟩ (kX0_combine l D h a cA (u.1, u.2.1, u.2.2.1, u.2.2.2.1, u.2.2.2.2) ⟨hI.1, hI.2⟩ 129 ac ((e0 : Int32).toInt64) hac) (cwV 3 hts gX0_perform_X0_combine rfl rfl rfl (by decide +kernel) ⟨by decide, by decide⟩) hK hP hD hS rfl hl.1 rfl (Nat.le_of_ble_eq_true rfl) dX0_perform_323 ⟨Nat.zero_le _, Nat.zero_le _⟩ (fun r_323 u_323 H locs q_323 hP hD hS => ?_)
    refine W.eq (g2 := F0 m 326 ls (.int r_323 :: [])) rfl ?_
    exact mm_iret (mw := wW h a cA) (u1 := (u_323.1, u_323.2.1, u_323.2.2.1, u_323.2.2.2.1, u_323.2.2.2.2)) hx hb hr hlocks hP hK hD hS dX0_perform_326 ⟨q_323.1, q_323.2⟩
  by_cases k_130 : op = 130
  · subst k_130
    refine lv_lookup (tgt := 354) hx hb dX0_perform_1 (by decide) rfl (by decide) ?_
    refine lv_iload_n hx hb dX0_perform_354 rfl (lv_at hl 3 rfl) ?_
    refine lv_sipush (v := 4096) hx hb dX0_perform_355 (by decide) ?_
    refine lv_icmp_lt (tgt := 365) hx hb dX0_perform_358 (by decide) (fun c_358 => ?_) (fun c_358 => ?_)
    · refine lv_aload_n hx hb dX0_perform_365 rfl (lv_at hl 0 rfl) ?_
      refine lv_iload_n hx hb dX0_perform_366 rfl (lv_at hl 1 rfl) ?_
      refine lv_iload_n hx hb dX0_perform_367 rfl (lv_at hl 2 rfl) ?_
      refine lv_iload_n hx hb dX0_perform_368 rfl (lv_at hl 3 rfl) ?_
      refine w_go (rv := rv_i) (As := [.int 130, .int ac, .int e0]) (rest := []) ⟨hx, hb, hml, hown, hts⟩ (kX0_performOnMemory l D h a cA (u.1, u.2.1, u.2.2.1, u.2.2.2.1, u.2.2.2.2) ⟨hI.1, hI.2⟩ 130 ac e0 hac (vp_below he c_358 (by decide))) (cwV 3 hts gX0_perform_X0_performOnMemory rfl rfl rfl (by decide +kernel) ⟨by decide, by decide⟩) hK hP hD hS rfl hl.1 rfl (Nat.le_of_ble_eq_true rfl) dX0_perform_369 ⟨Nat.zero_le _, Nat.zero_le _⟩ (fun r_369 u_369 H locs q_369 hP hD hS => ?_)
      refine W.eq (g2 := F0 m 372 ls (.int r_369 :: [])) rfl ?_
      exact mm_iret (mw := wW h a cA) (u1 := (u_369.1, u_369.2.1, u_369.2.2.1, u_369.2.2.2.1, u_369.2.2.2.2)) hx hb hr hlocks hP hK hD hS dX0_perform_372 ⟨q_369.1, q_369.2⟩
    · refine lv_iconst (v := 2) hx hb dX0_perform_361 (by decide) ?_
      refine lv_goto (tgt := 372) hx hb dX0_perform_362 (by decide) ?_
      exact mm_iret (mw := wW h a cA) (u1 := (u.1, u.2.1, u.2.2.1, u.2.2.2.1, u.2.2.2.2)) hx hb hr hlocks hP hK hD hS dX0_perform_372 ⟨hI.1, hI.2⟩
  by_cases k_132 : op = 132
  · subst k_132
    refine lv_lookup (tgt := 354) hx hb dX0_perform_1 (by decide) rfl (by decide) ?_
    refine lv_iload_n hx hb dX0_perform_354 rfl (lv_at hl 3 rfl) ?_
    refine lv_sipush (v := 4096) hx hb dX0_perform_355 (by decide) ?_
    refine lv_icmp_lt (tgt := 365) hx hb dX0_perform_358 (by decide) (fun c_358 => ?_) (fun c_358 => ?_)
    · refine lv_aload_n hx hb dX0_perform_365 rfl (lv_at hl 0 rfl) ?_
      refine lv_iload_n hx hb dX0_perform_366 rfl (lv_at hl 1 rfl) ?_
      refine lv_iload_n hx hb dX0_perform_367 rfl (lv_at hl 2 rfl) ?_
      refine lv_iload_n hx hb dX0_perform_368 rfl (lv_at hl 3 rfl) ?_
      refine w_go (rv := rv_i) (As := [.int 132, .int ac, .int e0]) (rest := []) ⟨hx, hb, hml, hown, hts⟩ (kX0_performOnMemory l D h a cA (u.1, u.2.1, u.2.2.1, u.2.2.2.1, u.2.2.2.2) ⟨hI.1, hI.2⟩ 132 ac e0 hac (vp_below he c_358 (by decide))) (cwV 3 hts gX0_perform_X0_performOnMemory rfl rfl rfl (by decide +kernel) ⟨by decide, by decide⟩) hK hP hD hS rfl hl.1 rfl (Nat.le_of_ble_eq_true rfl) dX0_perform_369 ⟨Nat.zero_le _, Nat.zero_le _⟩ (fun r_369 u_369 H locs q_369 hP hD hS => ?_)
      refine W.eq (g2 := F0 m 372 ls (.int r_369 :: [])) rfl ?_
      exact mm_iret (mw := wW h a cA) (u1 := (u_369.1, u_369.2.1, u_369.2.2.1, u_369.2.2.2.1, u_369.2.2.2.2)) hx hb hr hlocks hP hK hD hS dX0_perform_372 ⟨q_369.1, q_369.2⟩
    · refine lv_iconst (v := 2) hx hb dX0_perform_361 (by decide) ?_
      refine lv_goto (tgt := 372) hx hb dX0_perform_362 (by decide) ?_
      exact mm_iret (mw := wW h a cA) (u1 := (u.1, u.2.1, u.2.2.1, u.2.2.2.1, u.2.2.2.2)) hx hb hr hlocks hP hK hD hS dX0_perform_372 ⟨hI.1, hI.2⟩
  by_cases k_136 : op = 136
  · subst k_136
    refine lv_lookup (tgt := 354) hx hb dX0_perform_1 (by decide) rfl (by decide) ?_
    refine lv_iload_n hx hb dX0_perform_354 rfl (lv_at hl 3 rfl) ?_
    refine lv_sipush (v := 4096) hx hb dX0_perform_355 (by decide) ?_
    refine lv_icmp_lt (tgt := 365) hx hb dX0_perform_358 (by decide) (fun c_358 => ?_) (fun c_358 => ?_)
    · refine lv_aload_n hx hb dX0_perform_365 rfl (lv_at hl 0 rfl) ?_
      refine lv_iload_n hx hb dX0_perform_366 rfl (lv_at hl 1 rfl) ?_
      refine lv_iload_n hx hb dX0_perform_367 rfl (lv_at hl 2 rfl) ?_
      refine lv_iload_n hx hb dX0_perform_368 rfl (lv_at hl 3 rfl) ?_
      refine w_go (rv := rv_i) (As := [.int 136, .int ac, .int e0]) (rest := []) ⟨hx, hb, hml, hown, hts⟩ (kX0_performOnMemory l D h a cA (u.1, u.2.1, u.2.2.1, u.2.2.2.1, u.2.2.2.2) ⟨hI.1, hI.2⟩ 136 ac e0 hac (vp_below he c_358 (by decide))) (cwV 3 hts gX0_perform_X0_performOnMemory rfl rfl rfl (by decide +kernel) ⟨by decide, by decide⟩) hK hP hD hS rfl hl.1 rfl (Nat.le_of_ble_eq_true rfl) dX0_perform_369 ⟨Nat.zero_le _, Nat.zero_le _⟩ (fun r_369 u_369 H locs q_369 hP hD hS => ?_)
      refine W.eq (g2 := F0 m 372 ls (.int r_369 :: [])) rfl ?_
      exact mm_iret (mw := wW h a cA) (u1 := (u_369.1, u_369.2.1, u_369.2.2.1, u_369.2.2.2.1, u_369.2.2.2.2)) hx hb hr hlocks hP hK hD hS dX0_perform_372 ⟨q_369.1, q_369.2⟩
    · refine lv_iconst (v := 2) hx hb dX0_perform_361 (by decide) ?_
      refine lv_goto (tgt := 372) hx hb dX0_perform_362 (by decide) ?_
      exact mm_iret (mw := wW h a cA) (u1 := (u.1, u.2.1, u.2.2.1, u.2.2.2.1, u.2.2.2.2)) hx hb hr hlocks hP hK hD hS dX0_perform_372 ⟨hI.1, hI.2⟩
  by_cases k_140 : op = 140
  · subst k_140
    refine lv_lookup (tgt := 354) hx hb dX0_perform_1 (by decide) rfl (by decide) ?_
    refine lv_iload_n hx hb dX0_perform_354 rfl (lv_at hl 3 rfl) ?_
    refine lv_sipush (v := 4096) hx hb dX0_perform_355 (by decide) ?_
    refine lv_icmp_lt (tgt := 365) hx hb dX0_perform_358 (by decide) (fun c_358 => ?_) (fun c_358 => ?_)
    · refine lv_aload_n hx hb dX0_perform_365 rfl (lv_at hl 0 rfl) ?_
      refine lv_iload_n hx hb dX0_perform_366 rfl (lv_at hl 1 rfl) ?_
      refine lv_iload_n hx hb dX0_perform_367 rfl (lv_at hl 2 rfl) ?_
      refine lv_iload_n hx hb dX0_perform_368 rfl (lv_at hl 3 rfl) ?_
      refine w_go (rv := rv_i) (As := [.int 140, .int ac, .int e0]) (rest := []) ⟨hx, hb, hml, hown, hts⟩ (kX0_performOnMemory l D h a cA (u.1, u.2.1, u.2.2.1, u.2.2.2.1, u.2.2.2.2) ⟨hI.1, hI.2⟩ 140 ac e0 hac (vp_below he c_358 (by decide))) (cwV 3 hts gX0_perform_X0_performOnMemory rfl rfl rfl (by decide +kernel) ⟨by decide, by decide⟩) hK hP hD hS rfl hl.1 rfl (Nat.le_of_ble_eq_true rfl) dX0_perform_369 ⟨Nat.zero_le _, Nat.zero_le _⟩ (fun r_369 u_369 H locs q_369 hP hD hS => ?_)
      refine W.eq (g2 := F0 m 372 ls (.int r_369 :: [])) rfl ?_
      exact mm_iret (mw := wW h a cA) (u1 := (u_369.1, u_369.2.1, u_369.2.2.1, u_369.2.2.2.1, u_369.2.2.2.2)) hx hb hr hlocks hP hK hD hS dX0_perform_372 ⟨q_369.1, q_369.2⟩
    · refine lv_iconst (v := 2) hx hb dX0_perform_361 (by decide) ?_
      refine lv_goto (tgt := 372) hx hb dX0_perform_362 (by decide) ?_
      exact mm_iret (mw := wW h a cA) (u1 := (u.1, u.2.1, u.2.2.1, u.2.2.2.1, u.2.2.2.2)) hx hb hr hlocks hP hK hD hS dX0_perform_372 ⟨hI.1, hI.2⟩
  by_cases k_144 : op = 144
  · subst k_144
    refine lv_lookup (tgt := 354) hx hb dX0_perform_1 (by decide) rfl (by decide) ?_
    refine lv_iload_n hx hb dX0_perform_354 rfl (lv_at hl 3 rfl) ?_
    refine lv_sipush (v := 4096) hx hb dX0_perform_355 (by decide) ?_
    refine lv_icmp_lt (tgt := 365) hx hb dX0_perform_358 (by decide) (fun c_358 => ?_) (fun c_358 => ?_)
    · refine lv_aload_n hx hb dX0_perform_365 rfl (lv_at hl 0 rfl) ?_
      refine lv_iload_n hx hb dX0_perform_366 rfl (lv_at hl 1 rfl) ?_
      refine lv_iload_n hx hb dX0_perform_367 rfl (lv_at hl 2 rfl) ?_
      refine lv_iload_n hx hb dX0_perform_368 rfl (lv_at hl 3 rfl) ?_
      refine w_go (rv := rv_i) (As := [.int 144, .int ac, .int e0]) (rest := []) ⟨hx, hb, hml, hown, hts⟩ (kX0_performOnMemory l D h a cA (u.1, u.2.1, u.2.2.1, u.2.2.2.1, u.2.2.2.2) ⟨hI.1, hI.2⟩ 144 ac e0 hac (vp_below he c_358 (by decide))) (cwV 3 hts gX0_perform_X0_performOnMemory rfl rfl rfl (by decide +kernel) ⟨by decide, by decide⟩) hK hP hD hS rfl hl.1 rfl (Nat.le_of_ble_eq_true rfl) dX0_perform_369 ⟨Nat.zero_le _, Nat.zero_le _⟩ (fun r_369 u_369 H locs q_369 hP hD hS => ?_)
      refine W.eq (g2 := F0 m 372 ls (.int r_369 :: [])) rfl ?_
      exact mm_iret (mw := wW h a cA) (u1 := (u_369.1, u_369.2.1, u_369.2.2.1, u_369.2.2.2.1, u_369.2.2.2.2)) hx hb hr hlocks hP hK hD hS dX0_perform_372 ⟨q_369.1, q_369.2⟩
    · refine lv_iconst (v := 2) hx hb dX0_perform_361 (by decide) ?_
      refine lv_goto (tgt := 372) hx hb dX0_perform_362 (by decide) ?_
      exact mm_iret (mw := wW h a cA) (u1 := (u.1, u.2.1, u.2.2.1, u.2.2.2.1, u.2.2.2.2)) hx hb hr hlocks hP hK hD hS dX0_perform_372 ⟨hI.1, hI.2⟩
  by_cases k_145 : op = 145
  · subst k_145
    refine lv_lookup (tgt := 318) hx hb dX0_perform_1 (by decide) rfl (by decide) ?_
    refine lv_aload_n hx hb dX0_perform_318 rfl (lv_at hl 0 rfl) ?_
    refine lv_iload_n hx hb dX0_perform_319 rfl (lv_at hl 1 rfl) ?_
    refine lv_iload_n hx hb dX0_perform_320 rfl (lv_at hl 2 rfl) ?_
    refine lv_iload_n hx hb dX0_perform_321 rfl (lv_at hl 3 rfl) ?_
    refine lv_i2l hx hb dX0_perform_322 rfl ?_
    refine w_go (rv := rv_i) (As := [.int 145, .int ac, .long ((e0 : Int32).toInt64)]) (rest := []) ⟨hx, hb, hml, hown, hts⟩ (kX0_combine l D h a cA (u.1, u.2.1, u.2.2.1, u.2.2.2.1, u.2.2.2.2) ⟨hI.1, hI.2⟩ 145 ac ((e0 : Int32).toInt64) hac) (cwV 3 hts gX0_perform_X0_combine rfl rfl rfl (by decide +kernel) ⟨by decide, by decide⟩) hK hP hD hS rfl hl.1 rfl (Nat.le_of_ble_eq_true rfl) dX0_perform_323 ⟨Nat.zero_le _, Nat.zero_le _⟩ (fun r_323 u_323 H locs q_323 hP hD hS => ?_)
    refine W.eq (g2 := F0 m 326 ls (.int r_323 :: [])) rfl ?_
    exact mm_iret (mw := wW h a cA) (u1 := (u_323.1, u_323.2.1, u_323.2.2.1, u_323.2.2.2.1, u_323.2.2.2.2)) hx hb hr hlocks hP hK hD hS dX0_perform_326 ⟨q_323.1, q_323.2⟩
  by_cases k_152 : op = 152
  · subst k_152
    refine lv_lookup (tgt := 354) hx hb dX0_perform_1 (by decide) rfl (by decide) ?_
    refine lv_iload_n hx hb dX0_perform_354 rfl (lv_at hl 3 rfl) ?_
    refine lv_sipush (v := 4096) hx hb dX0_perform_355 (by decide) ?_
    refine lv_icmp_lt (tgt := 365) hx hb dX0_perform_358 (by decide) (fun c_358 => ?_) (fun c_358 => ?_)
    · refine lv_aload_n hx hb dX0_perform_365 rfl (lv_at hl 0 rfl) ?_
      refine lv_iload_n hx hb dX0_perform_366 rfl (lv_at hl 1 rfl) ?_
      refine lv_iload_n hx hb dX0_perform_367 rfl (lv_at hl 2 rfl) ?_
      refine lv_iload_n hx hb dX0_perform_368 rfl (lv_at hl 3 rfl) ?_
      refine w_go (rv := rv_i) (As := [.int 152, .int ac, .int e0]) (rest := []) ⟨hx, hb, hml, hown, hts⟩ (kX0_performOnMemory l D h a cA (u.1, u.2.1, u.2.2.1, u.2.2.2.1, u.2.2.2.2) ⟨hI.1, hI.2⟩ 152 ac e0 hac (vp_below he c_358 (by decide))) (cwV 3 hts gX0_perform_X0_performOnMemory rfl rfl rfl (by decide +kernel) ⟨by decide, by decide⟩) hK hP hD hS rfl hl.1 rfl (Nat.le_of_ble_eq_true rfl) dX0_perform_369 ⟨Nat.zero_le _, Nat.zero_le _⟩ (fun r_369 u_369 H locs q_369 hP hD hS => ?_)
      refine W.eq (g2 := F0 m 372 ls (.int r_369 :: [])) rfl ?_
      exact mm_iret (mw := wW h a cA) (u1 := (u_369.1, u_369.2.1, u_369.2.2.1, u_369.2.2.2.1, u_369.2.2.2.2)) hx hb hr hlocks hP hK hD hS dX0_perform_372 ⟨q_369.1, q_369.2⟩
    · refine lv_iconst (v := 2) hx hb dX0_perform_361 (by decide) ?_
      refine lv_goto (tgt := 372) hx hb dX0_perform_362 (by decide) ?_
      exact mm_iret (mw := wW h a cA) (u1 := (u.1, u.2.1, u.2.2.1, u.2.2.2.1, u.2.2.2.2)) hx hb hr hlocks hP hK hD hS dX0_perform_372 ⟨hI.1, hI.2⟩
  by_cases k_153 : op = 153
  · subst k_153
    refine lv_lookup (tgt := 327) hx hb dX0_perform_1 (by decide) rfl (by decide) ?_
    refine lv_aload_n hx hb dX0_perform_327 rfl (lv_at hl 0 rfl) ?_
    refine lv_iload_n hx hb dX0_perform_328 rfl (lv_at hl 2 rfl) ?_
    refine lv_iload_n hx hb dX0_perform_329 rfl (lv_at hl 3 rfl) ?_
    refine lv_i2l hx hb dX0_perform_330 rfl ?_
    refine w_go (rv := rv_i) (As := [.int ac, .long ((e0 : Int32).toInt64)]) (rest := []) ⟨hx, hb, hml, hown, hts⟩ (kX0_divide l D h a cA (u.1, u.2.1, u.2.2.1, u.2.2.2.1, u.2.2.2.2) ⟨hI.1, hI.2⟩ ac ((e0 : Int32).toInt64) hac) (cwV 2 hts gX0_perform_X0_divide rfl rfl rfl (by decide +kernel) ⟨by decide, by decide⟩) hK hP hD hS rfl hl.1 rfl (Nat.le_of_ble_eq_true rfl) dX0_perform_331 ⟨Nat.zero_le _, Nat.zero_le _⟩ (fun r_331 u_331 H locs q_331 hP hD hS => ?_)
    refine W.eq (g2 := F0 m 334 ls (.int r_331 :: [])) rfl ?_
    exact mm_iret (mw := wW h a cA) (u1 := (u_331.1, u_331.2.1, u_331.2.2.1, u_331.2.2.2.1, u_331.2.2.2.2)) hx hb hr hlocks hP hK hD hS dX0_perform_334 ⟨q_331.1, q_331.2⟩
  by_cases k_162 : op = 162
  · subst k_162
    refine lv_lookup (tgt := 318) hx hb dX0_perform_1 (by decide) rfl (by decide) ?_
    refine lv_aload_n hx hb dX0_perform_318 rfl (lv_at hl 0 rfl) ?_
    refine lv_iload_n hx hb dX0_perform_319 rfl (lv_at hl 1 rfl) ?_
    refine lv_iload_n hx hb dX0_perform_320 rfl (lv_at hl 2 rfl) ?_
    refine lv_iload_n hx hb dX0_perform_321 rfl (lv_at hl 3 rfl) ?_
    refine lv_i2l hx hb dX0_perform_322 rfl ?_
    refine w_go (rv := rv_i) (As := [.int 162, .int ac, .long ((e0 : Int32).toInt64)]) (rest := []) ⟨hx, hb, hml, hown, hts⟩ (kX0_combine l D h a cA (u.1, u.2.1, u.2.2.1, u.2.2.2.1, u.2.2.2.2) ⟨hI.1, hI.2⟩ 162 ac ((e0 : Int32).toInt64) hac) (cwV 3 hts gX0_perform_X0_combine rfl rfl rfl (by decide +kernel) ⟨by decide, by decide⟩) hK hP hD hS rfl hl.1 rfl (Nat.le_of_ble_eq_true rfl) dX0_perform_323 ⟨Nat.zero_le _, Nat.zero_le _⟩ (fun r_323 u_323 H locs q_323 hP hD hS => ?_)
    refine W.eq (g2 := F0 m 326 ls (.int r_323 :: [])) rfl ?_
    exact mm_iret (mw := wW h a cA) (u1 := (u_323.1, u_323.2.1, u_323.2.2.1, u_323.2.2.2.1, u_323.2.2.2.2)) hx hb hr hlocks hP hK hD hS dX0_perform_326 ⟨q_323.1, q_323.2⟩
  by_cases k_168 : op = 168
  · subst k_168
    refine lv_lookup (tgt := 354) hx hb dX0_perform_1 (by decide) rfl (by decide) ?_
    refine lv_iload_n hx hb dX0_perform_354 rfl (lv_at hl 3 rfl) ?_
    refine lv_sipush (v := 4096) hx hb dX0_perform_355 (by decide) ?_
    refine lv_icmp_lt (tgt := 365) hx hb dX0_perform_358 (by decide) (fun c_358 => ?_) (fun c_358 => ?_)
    · refine lv_aload_n hx hb dX0_perform_365 rfl (lv_at hl 0 rfl) ?_
      refine lv_iload_n hx hb dX0_perform_366 rfl (lv_at hl 1 rfl) ?_
      refine lv_iload_n hx hb dX0_perform_367 rfl (lv_at hl 2 rfl) ?_
      refine lv_iload_n hx hb dX0_perform_368 rfl (lv_at hl 3 rfl) ?_
      refine w_go (rv := rv_i) (As := [.int 168, .int ac, .int e0]) (rest := []) ⟨hx, hb, hml, hown, hts⟩ (kX0_performOnMemory l D h a cA (u.1, u.2.1, u.2.2.1, u.2.2.2.1, u.2.2.2.2) ⟨hI.1, hI.2⟩ 168 ac e0 hac (vp_below he c_358 (by decide))) (cwV 3 hts gX0_perform_X0_performOnMemory rfl rfl rfl (by decide +kernel) ⟨by decide, by decide⟩) hK hP hD hS rfl hl.1 rfl (Nat.le_of_ble_eq_true rfl) dX0_perform_369 ⟨Nat.zero_le _, Nat.zero_le _⟩ (fun r_369 u_369 H locs q_369 hP hD hS => ?_)
      refine W.eq (g2 := F0 m 372 ls (.int r_369 :: [])) rfl ?_
      exact mm_iret (mw := wW h a cA) (u1 := (u_369.1, u_369.2.1, u_369.2.2.1, u_369.2.2.2.1, u_369.2.2.2.2)) hx hb hr hlocks hP hK hD hS dX0_perform_372 ⟨q_369.1, q_369.2⟩
    · refine lv_iconst (v := 2) hx hb dX0_perform_361 (by decide) ?_
      refine lv_goto (tgt := 372) hx hb dX0_perform_362 (by decide) ?_
      exact mm_iret (mw := wW h a cA) (u1 := (u.1, u.2.1, u.2.2.1, u.2.2.2.1, u.2.2.2.2)) hx hb hr hlocks hP hK hD hS dX0_perform_372 ⟨hI.1, hI.2⟩
  by_cases k_172 : op = 172
  · subst k_172
    refine lv_lookup (tgt := 335) hx hb dX0_perform_1 (by decide) rfl (by decide) ?_
    refine lv_aload_n hx hb dX0_perform_335 rfl (lv_at hl 0 rfl) ?_
    refine lv_iload_n hx hb dX0_perform_336 rfl (lv_at hl 3 rfl) ?_
    refine w_go (rv := rv_i) (As := [.int e0]) (rest := []) ⟨hx, hb, hml, hown, hts⟩ (kX0_jump l D h a cA (u.1, u.2.1, u.2.2.1, u.2.2.2.1, u.2.2.2.2) ⟨hI.1, hI.2⟩ e0 ) (cwV 1 hts gX0_perform_X0_jump rfl rfl rfl (by decide +kernel) ⟨by decide, by decide⟩) hK hP hD hS rfl hl.1 rfl (Nat.le_of_ble_eq_true rfl) dX0_perform_337 ⟨Nat.zero_le _, Nat.zero_le _⟩ (fun r_337 u_337 H locs q_337 hP hD hS => ?_)
    refine W.eq (g2 := F0 m 340 ls (.int r_337 :: [])) rfl ?_
    exact mm_iret (mw := wW h a cA) (u1 := (u_337.1, u_337.2.1, u_337.2.2.1, u_337.2.2.2.1, u_337.2.2.2.2)) hx hb hr hlocks hP hK hD hS dX0_perform_340 ⟨q_337.1, q_337.2⟩
  by_cases k_176 : op = 176
  · subst k_176
    refine lv_lookup (tgt := 341) hx hb dX0_perform_1 (by decide) rfl (by decide) ?_
    refine lv_aload_n hx hb dX0_perform_341 rfl (lv_at hl 0 rfl) ?_
    refine lv_iload_n hx hb dX0_perform_342 rfl (lv_at hl 2 rfl) ?_
    refine lv_iload_n hx hb dX0_perform_343 rfl (lv_at hl 3 rfl) ?_
    refine w_go (rv := rv_i) (As := [.int ac, .int e0]) (rest := []) ⟨hx, hb, hml, hown, hts⟩ (kX0_pushNextPlace l D h a cA (u.1, u.2.1, u.2.2.1, u.2.2.2.1, u.2.2.2.2) ⟨hI.1, hI.2⟩ ac e0 hac) (cwV 2 hts gX0_perform_X0_pushNextPlace rfl rfl rfl (by decide +kernel) ⟨by decide, by decide⟩) hK hP hD hS rfl hl.1 rfl (Nat.le_of_ble_eq_true rfl) dX0_perform_344 ⟨Nat.zero_le _, Nat.zero_le _⟩ (fun r_344 u_344 H locs q_344 hP hD hS => ?_)
    refine W.eq (g2 := F0 m 347 ls (.int r_344 :: [])) rfl ?_
    exact mm_iret (mw := wW h a cA) (u1 := (u_344.1, u_344.2.1, u_344.2.2.1, u_344.2.2.2.1, u_344.2.2.2.2)) hx hb hr hlocks hP hK hD hS dX0_perform_347 ⟨q_344.1, q_344.2⟩
  by_cases k_177 : op = 177
  · subst k_177
    refine lv_lookup (tgt := 354) hx hb dX0_perform_1 (by decide) rfl (by decide) ?_
    refine lv_iload_n hx hb dX0_perform_354 rfl (lv_at hl 3 rfl) ?_
    refine lv_sipush (v := 4096) hx hb dX0_perform_355 (by decide) ?_
    refine lv_icmp_lt (tgt := 365) hx hb dX0_perform_358 (by decide) (fun c_358 => ?_) (fun c_358 => ?_)
    · refine lv_aload_n hx hb dX0_perform_365 rfl (lv_at hl 0 rfl) ?_
      refine lv_iload_n hx hb dX0_perform_366 rfl (lv_at hl 1 rfl) ?_
      refine lv_iload_n hx hb dX0_perform_367 rfl (lv_at hl 2 rfl) ?_
      refine lv_iload_n hx hb dX0_perform_368 rfl (lv_at hl 3 rfl) ?_
      refine w_go (rv := rv_i) (As := [.int 177, .int ac, .int e0]) (rest := []) ⟨hx, hb, hml, hown, hts⟩ (kX0_performOnMemory l D h a cA (u.1, u.2.1, u.2.2.1, u.2.2.2.1, u.2.2.2.2) ⟨hI.1, hI.2⟩ 177 ac e0 hac (vp_below he c_358 (by decide))) (cwV 3 hts gX0_perform_X0_performOnMemory rfl rfl rfl (by decide +kernel) ⟨by decide, by decide⟩) hK hP hD hS rfl hl.1 rfl (Nat.le_of_ble_eq_true rfl) dX0_perform_369 ⟨Nat.zero_le _, Nat.zero_le _⟩ (fun r_369 u_369 H locs q_369 hP hD hS => ?_)
      refine W.eq (g2 := F0 m 372 ls (.int r_369 :: [])) rfl ?_
      exact mm_iret (mw := wW h a cA) (u1 := (u_369.1, u_369.2.1, u_369.2.2.1, u_369.2.2.2.1, u_369.2.2.2.2)) hx hb hr hlocks hP hK hD hS dX0_perform_372 ⟨q_369.1, q_369.2⟩
    · refine lv_iconst (v := 2) hx hb dX0_perform_361 (by decide) ?_
      refine lv_goto (tgt := 372) hx hb dX0_perform_362 (by decide) ?_
      exact mm_iret (mw := wW h a cA) (u1 := (u.1, u.2.1, u.2.2.1, u.2.2.2.1, u.2.2.2.2)) hx hb hr hlocks hP hK hD hS dX0_perform_372 ⟨hI.1, hI.2⟩
  by_cases k_178 : op = 178
  · subst k_178
    refine lv_lookup (tgt := 354) hx hb dX0_perform_1 (by decide) rfl (by decide) ?_
    refine lv_iload_n hx hb dX0_perform_354 rfl (lv_at hl 3 rfl) ?_
    refine lv_sipush (v := 4096) hx hb dX0_perform_355 (by decide) ?_
    refine lv_icmp_lt (tgt := 365) hx hb dX0_perform_358 (by decide) (fun c_358 => ?_) (fun c_358 => ?_)
    · refine lv_aload_n hx hb dX0_perform_365 rfl (lv_at hl 0 rfl) ?_
      refine lv_iload_n hx hb dX0_perform_366 rfl (lv_at hl 1 rfl) ?_
      refine lv_iload_n hx hb dX0_perform_367 rfl (lv_at hl 2 rfl) ?_
      refine lv_iload_n hx hb dX0_perform_368 rfl (lv_at hl 3 rfl) ?_
      refine w_go (rv := rv_i) (As := [.int 178, .int ac, .int e0]) (rest := []) ⟨hx, hb, hml, hown, hts⟩ (kX0_performOnMemory l D h a cA (u.1, u.2.1, u.2.2.1, u.2.2.2.1, u.2.2.2.2) ⟨hI.1, hI.2⟩ 178 ac e0 hac (vp_below he c_358 (by decide))) (cwV 3 hts gX0_perform_X0_performOnMemory rfl rfl rfl (by decide +kernel) ⟨by decide, by decide⟩) hK hP hD hS rfl hl.1 rfl (Nat.le_of_ble_eq_true rfl) dX0_perform_369 ⟨Nat.zero_le _, Nat.zero_le _⟩ (fun r_369 u_369 H locs q_369 hP hD hS => ?_)
      refine W.eq (g2 := F0 m 372 ls (.int r_369 :: [])) rfl ?_
      exact mm_iret (mw := wW h a cA) (u1 := (u_369.1, u_369.2.1, u_369.2.2.1, u_369.2.2.2.1, u_369.2.2.2.2)) hx hb hr hlocks hP hK hD hS dX0_perform_372 ⟨q_369.1, q_369.2⟩
    · refine lv_iconst (v := 2) hx hb dX0_perform_361 (by decide) ?_
      refine lv_goto (tgt := 372) hx hb dX0_perform_362 (by decide) ?_
      exact mm_iret (mw := wW h a cA) (u1 := (u.1, u.2.1, u.2.2.1, u.2.2.2.1, u.2.2.2.2)) hx hb hr hlocks hP hK hD hS dX0_perform_372 ⟨hI.1, hI.2⟩
  by_cases k_179 : op = 179
  · subst k_179
    refine lv_lookup (tgt := 348) hx hb dX0_perform_1 (by decide) rfl (by decide) ?_
    refine lv_aload_n hx hb dX0_perform_348 rfl (lv_at hl 0 rfl) ?_
    refine lv_iload_n hx hb dX0_perform_349 rfl (lv_at hl 2 rfl) ?_
    refine w_go (rv := rv_i) (As := [.int ac]) (rest := []) ⟨hx, hb, hml, hown, hts⟩ (kX0_popToPc l D h a cA (u.1, u.2.1, u.2.2.1, u.2.2.2.1, u.2.2.2.2) ⟨hI.1, hI.2⟩ ac hac) (cwV 1 hts gX0_perform_X0_popToPc rfl rfl rfl (by decide +kernel) ⟨by decide, by decide⟩) hK hP hD hS rfl hl.1 rfl (Nat.le_of_ble_eq_true rfl) dX0_perform_350 ⟨Nat.zero_le _, Nat.zero_le _⟩ (fun r_350 u_350 H locs q_350 hP hD hS => ?_)
    refine W.eq (g2 := F0 m 353 ls (.int r_350 :: [])) rfl ?_
    exact mm_iret (mw := wW h a cA) (u1 := (u_350.1, u_350.2.1, u_350.2.2.1, u_350.2.2.2.1, u_350.2.2.2.2)) hx hb hr hlocks hP hK hD hS dX0_perform_353 ⟨q_350.1, q_350.2⟩
  by_cases k_180 : op = 180
  · subst k_180
    refine lv_lookup (tgt := 354) hx hb dX0_perform_1 (by decide) rfl (by decide) ?_
    refine lv_iload_n hx hb dX0_perform_354 rfl (lv_at hl 3 rfl) ?_
    refine lv_sipush (v := 4096) hx hb dX0_perform_355 (by decide) ?_
    refine lv_icmp_lt (tgt := 365) hx hb dX0_perform_358 (by decide) (fun c_358 => ?_) (fun c_358 => ?_)
    · refine lv_aload_n hx hb dX0_perform_365 rfl (lv_at hl 0 rfl) ?_
      refine lv_iload_n hx hb dX0_perform_366 rfl (lv_at hl 1 rfl) ?_
      refine lv_iload_n hx hb dX0_perform_367 rfl (lv_at hl 2 rfl) ?_
      refine lv_iload_n hx hb dX0_perform_368 rfl (lv_at hl 3 rfl) ?_
      refine w_go (rv := rv_i) (As := [.int 180, .int ac, .int e0]) (rest := []) ⟨hx, hb, hml, hown, hts⟩ (kX0_performOnMemory l D h a cA (u.1, u.2.1, u.2.2.1, u.2.2.2.1, u.2.2.2.2) ⟨hI.1, hI.2⟩ 180 ac e0 hac (vp_below he c_358 (by decide))) (cwV 3 hts gX0_perform_X0_performOnMemory rfl rfl rfl (by decide +kernel) ⟨by decide, by decide⟩) hK hP hD hS rfl hl.1 rfl (Nat.le_of_ble_eq_true rfl) dX0_perform_369 ⟨Nat.zero_le _, Nat.zero_le _⟩ (fun r_369 u_369 H locs q_369 hP hD hS => ?_)
      refine W.eq (g2 := F0 m 372 ls (.int r_369 :: [])) rfl ?_
      exact mm_iret (mw := wW h a cA) (u1 := (u_369.1, u_369.2.1, u_369.2.2.1, u_369.2.2.2.1, u_369.2.2.2.2)) hx hb hr hlocks hP hK hD hS dX0_perform_372 ⟨q_369.1, q_369.2⟩
    · refine lv_iconst (v := 2) hx hb dX0_perform_361 (by decide) ?_
      refine lv_goto (tgt := 372) hx hb dX0_perform_362 (by decide) ?_
      exact mm_iret (mw := wW h a cA) (u1 := (u.1, u.2.1, u.2.2.1, u.2.2.2.1, u.2.2.2.2)) hx hb hr hlocks hP hK hD hS dX0_perform_372 ⟨hI.1, hI.2⟩
  by_cases k_184 : op = 184
  · subst k_184
    refine lv_lookup (tgt := 354) hx hb dX0_perform_1 (by decide) rfl (by decide) ?_
    refine lv_iload_n hx hb dX0_perform_354 rfl (lv_at hl 3 rfl) ?_
    refine lv_sipush (v := 4096) hx hb dX0_perform_355 (by decide) ?_
    refine lv_icmp_lt (tgt := 365) hx hb dX0_perform_358 (by decide) (fun c_358 => ?_) (fun c_358 => ?_)
    · refine lv_aload_n hx hb dX0_perform_365 rfl (lv_at hl 0 rfl) ?_
      refine lv_iload_n hx hb dX0_perform_366 rfl (lv_at hl 1 rfl) ?_
      refine lv_iload_n hx hb dX0_perform_367 rfl (lv_at hl 2 rfl) ?_
      refine lv_iload_n hx hb dX0_perform_368 rfl (lv_at hl 3 rfl) ?_
      refine w_go (rv := rv_i) (As := [.int 184, .int ac, .int e0]) (rest := []) ⟨hx, hb, hml, hown, hts⟩ (kX0_performOnMemory l D h a cA (u.1, u.2.1, u.2.2.1, u.2.2.2.1, u.2.2.2.2) ⟨hI.1, hI.2⟩ 184 ac e0 hac (vp_below he c_358 (by decide))) (cwV 3 hts gX0_perform_X0_performOnMemory rfl rfl rfl (by decide +kernel) ⟨by decide, by decide⟩) hK hP hD hS rfl hl.1 rfl (Nat.le_of_ble_eq_true rfl) dX0_perform_369 ⟨Nat.zero_le _, Nat.zero_le _⟩ (fun r_369 u_369 H locs q_369 hP hD hS => ?_)
      refine W.eq (g2 := F0 m 372 ls (.int r_369 :: [])) rfl ?_
      exact mm_iret (mw := wW h a cA) (u1 := (u_369.1, u_369.2.1, u_369.2.2.1, u_369.2.2.2.1, u_369.2.2.2.2)) hx hb hr hlocks hP hK hD hS dX0_perform_372 ⟨q_369.1, q_369.2⟩
    · refine lv_iconst (v := 2) hx hb dX0_perform_361 (by decide) ?_
      refine lv_goto (tgt := 372) hx hb dX0_perform_362 (by decide) ?_
      exact mm_iret (mw := wW h a cA) (u1 := (u.1, u.2.1, u.2.2.1, u.2.2.2.1, u.2.2.2.2)) hx hb hr hlocks hP hK hD hS dX0_perform_372 ⟨hI.1, hI.2⟩
  by_cases k_185 : op = 185
  · subst k_185
    refine lv_lookup (tgt := 318) hx hb dX0_perform_1 (by decide) rfl (by decide) ?_
    refine lv_aload_n hx hb dX0_perform_318 rfl (lv_at hl 0 rfl) ?_
    refine lv_iload_n hx hb dX0_perform_319 rfl (lv_at hl 1 rfl) ?_
    refine lv_iload_n hx hb dX0_perform_320 rfl (lv_at hl 2 rfl) ?_
    refine lv_iload_n hx hb dX0_perform_321 rfl (lv_at hl 3 rfl) ?_
    refine lv_i2l hx hb dX0_perform_322 rfl ?_
    refine w_go (rv := rv_i) (As := [.int 185, .int ac, .long ((e0 : Int32).toInt64)]) (rest := []) ⟨hx, hb, hml, hown, hts⟩ (kX0_combine l D h a cA (u.1, u.2.1, u.2.2.1, u.2.2.2.1, u.2.2.2.2) ⟨hI.1, hI.2⟩ 185 ac ((e0 : Int32).toInt64) hac) (cwV 3 hts gX0_perform_X0_combine rfl rfl rfl (by decide +kernel) ⟨by decide, by decide⟩) hK hP hD hS rfl hl.1 rfl (Nat.le_of_ble_eq_true rfl) dX0_perform_323 ⟨Nat.zero_le _, Nat.zero_le _⟩ (fun r_323 u_323 H locs q_323 hP hD hS => ?_)
    refine W.eq (g2 := F0 m 326 ls (.int r_323 :: [])) rfl ?_
    exact mm_iret (mw := wW h a cA) (u1 := (u_323.1, u_323.2.1, u_323.2.2.1, u_323.2.2.2.1, u_323.2.2.2.2)) hx hb hr hlocks hP hK hD hS dX0_perform_326 ⟨q_323.1, q_323.2⟩
  by_cases k_188 : op = 188
  · subst k_188
    refine lv_lookup (tgt := 354) hx hb dX0_perform_1 (by decide) rfl (by decide) ?_
    refine lv_iload_n hx hb dX0_perform_354 rfl (lv_at hl 3 rfl) ?_
    refine lv_sipush (v := 4096) hx hb dX0_perform_355 (by decide) ?_
    refine lv_icmp_lt (tgt := 365) hx hb dX0_perform_358 (by decide) (fun c_358 => ?_) (fun c_358 => ?_)
    · refine lv_aload_n hx hb dX0_perform_365 rfl (lv_at hl 0 rfl) ?_
      refine lv_iload_n hx hb dX0_perform_366 rfl (lv_at hl 1 rfl) ?_
      refine lv_iload_n hx hb dX0_perform_367 rfl (lv_at hl 2 rfl) ?_
      refine lv_iload_n hx hb dX0_perform_368 rfl (lv_at hl 3 rfl) ?_
      refine w_go (rv := rv_i) (As := [.int 188, .int ac, .int e0]) (rest := []) ⟨hx, hb, hml, hown, hts⟩ (kX0_performOnMemory l D h a cA (u.1, u.2.1, u.2.2.1, u.2.2.2.1, u.2.2.2.2) ⟨hI.1, hI.2⟩ 188 ac e0 hac (vp_below he c_358 (by decide))) (cwV 3 hts gX0_perform_X0_performOnMemory rfl rfl rfl (by decide +kernel) ⟨by decide, by decide⟩) hK hP hD hS rfl hl.1 rfl (Nat.le_of_ble_eq_true rfl) dX0_perform_369 ⟨Nat.zero_le _, Nat.zero_le _⟩ (fun r_369 u_369 H locs q_369 hP hD hS => ?_)
      refine W.eq (g2 := F0 m 372 ls (.int r_369 :: [])) rfl ?_
      exact mm_iret (mw := wW h a cA) (u1 := (u_369.1, u_369.2.1, u_369.2.2.1, u_369.2.2.2.1, u_369.2.2.2.2)) hx hb hr hlocks hP hK hD hS dX0_perform_372 ⟨q_369.1, q_369.2⟩
    · refine lv_iconst (v := 2) hx hb dX0_perform_361 (by decide) ?_
      refine lv_goto (tgt := 372) hx hb dX0_perform_362 (by decide) ?_
      exact mm_iret (mw := wW h a cA) (u1 := (u.1, u.2.1, u.2.2.1, u.2.2.2.1, u.2.2.2.2)) hx hb hr hlocks hP hK hD hS dX0_perform_372 ⟨hI.1, hI.2⟩
  by_cases k_189 : op = 189
  · subst k_189
    refine lv_lookup (tgt := 318) hx hb dX0_perform_1 (by decide) rfl (by decide) ?_
    refine lv_aload_n hx hb dX0_perform_318 rfl (lv_at hl 0 rfl) ?_
    refine lv_iload_n hx hb dX0_perform_319 rfl (lv_at hl 1 rfl) ?_
    refine lv_iload_n hx hb dX0_perform_320 rfl (lv_at hl 2 rfl) ?_
    refine lv_iload_n hx hb dX0_perform_321 rfl (lv_at hl 3 rfl) ?_
    refine lv_i2l hx hb dX0_perform_322 rfl ?_
    refine w_go (rv := rv_i) (As := [.int 189, .int ac, .long ((e0 : Int32).toInt64)]) (rest := []) ⟨hx, hb, hml, hown, hts⟩ (kX0_combine l D h a cA (u.1, u.2.1, u.2.2.1, u.2.2.2.1, u.2.2.2.2) ⟨hI.1, hI.2⟩ 189 ac ((e0 : Int32).toInt64) hac) (cwV 3 hts gX0_perform_X0_combine rfl rfl rfl (by decide +kernel) ⟨by decide, by decide⟩) hK hP hD hS rfl hl.1 rfl (Nat.le_of_ble_eq_true rfl) dX0_perform_323 ⟨Nat.zero_le _, Nat.zero_le _⟩ (fun r_323 u_323 H locs q_323 hP hD hS => ?_)
    refine W.eq (g2 := F0 m 326 ls (.int r_323 :: [])) rfl ?_
    exact mm_iret (mw := wW h a cA) (u1 := (u_323.1, u_323.2.1, u_323.2.2.1, u_323.2.2.2.1, u_323.2.2.2.2)) hx hb hr hlocks hP hK hD hS dX0_perform_326 ⟨q_323.1, q_323.2⟩
  by_cases k_256 : op = 256
  · subst k_256
    refine lv_lookup (tgt := 318) hx hb dX0_perform_1 (by decide) rfl (by decide) ?_
    refine lv_aload_n hx hb dX0_perform_318 rfl (lv_at hl 0 rfl) ?_
    refine lv_iload_n hx hb dX0_perform_319 rfl (lv_at hl 1 rfl) ?_
    refine lv_iload_n hx hb dX0_perform_320 rfl (lv_at hl 2 rfl) ?_
    refine lv_iload_n hx hb dX0_perform_321 rfl (lv_at hl 3 rfl) ?_
    refine lv_i2l hx hb dX0_perform_322 rfl ?_
    refine w_go (rv := rv_i) (As := [.int 256, .int ac, .long ((e0 : Int32).toInt64)]) (rest := []) ⟨hx, hb, hml, hown, hts⟩ (kX0_combine l D h a cA (u.1, u.2.1, u.2.2.1, u.2.2.2.1, u.2.2.2.2) ⟨hI.1, hI.2⟩ 256 ac ((e0 : Int32).toInt64) hac) (cwV 3 hts gX0_perform_X0_combine rfl rfl rfl (by decide +kernel) ⟨by decide, by decide⟩) hK hP hD hS rfl hl.1 rfl (Nat.le_of_ble_eq_true rfl) dX0_perform_323 ⟨Nat.zero_le _, Nat.zero_le _⟩ (fun r_323 u_323 H locs q_323 hP hD hS => ?_)
    refine W.eq (g2 := F0 m 326 ls (.int r_323 :: [])) rfl ?_
    exact mm_iret (mw := wW h a cA) (u1 := (u_323.1, u_323.2.1, u_323.2.2.1, u_323.2.2.2.1, u_323.2.2.2.2)) hx hb hr hlocks hP hK hD hS dX0_perform_326 ⟨q_323.1, q_323.2⟩
  by_cases k_258 : op = 258
  · subst k_258
    refine lv_lookup (tgt := 354) hx hb dX0_perform_1 (by decide) rfl (by decide) ?_
    refine lv_iload_n hx hb dX0_perform_354 rfl (lv_at hl 3 rfl) ?_
    refine lv_sipush (v := 4096) hx hb dX0_perform_355 (by decide) ?_
    refine lv_icmp_lt (tgt := 365) hx hb dX0_perform_358 (by decide) (fun c_358 => ?_) (fun c_358 => ?_)
    · refine lv_aload_n hx hb dX0_perform_365 rfl (lv_at hl 0 rfl) ?_
      refine lv_iload_n hx hb dX0_perform_366 rfl (lv_at hl 1 rfl) ?_
      refine lv_iload_n hx hb dX0_perform_367 rfl (lv_at hl 2 rfl) ?_
      refine lv_iload_n hx hb dX0_perform_368 rfl (lv_at hl 3 rfl) ?_
      refine w_go (rv := rv_i) (As := [.int 258, .int ac, .int e0]) (rest := []) ⟨hx, hb, hml, hown, hts⟩ (kX0_performOnMemory l D h a cA (u.1, u.2.1, u.2.2.1, u.2.2.2.1, u.2.2.2.2) ⟨hI.1, hI.2⟩ 258 ac e0 hac (vp_below he c_358 (by decide))) (cwV 3 hts gX0_perform_X0_performOnMemory rfl rfl rfl (by decide +kernel) ⟨by decide, by decide⟩) hK hP hD hS rfl hl.1 rfl (Nat.le_of_ble_eq_true rfl) dX0_perform_369 ⟨Nat.zero_le _, Nat.zero_le _⟩ (fun r_369 u_369 H locs q_369 hP hD hS => ?_)
      refine W.eq (g2 := F0 m 372 ls (.int r_369 :: [])) rfl ?_
      exact mm_iret (mw := wW h a cA) (u1 := (u_369.1, u_369.2.1, u_369.2.2.1, u_369.2.2.2.1, u_369.2.2.2.2)) hx hb hr hlocks hP hK hD hS dX0_perform_372 ⟨q_369.1, q_369.2⟩
    · refine lv_iconst (v := 2) hx hb dX0_perform_361 (by decide) ?_
      refine lv_goto (tgt := 372) hx hb dX0_perform_362 (by decide) ?_
      exact mm_iret (mw := wW h a cA) (u1 := (u.1, u.2.1, u.2.2.1, u.2.2.2.1, u.2.2.2.2)) hx hb hr hlocks hP hK hD hS dX0_perform_372 ⟨hI.1, hI.2⟩
  by_cases k_260 : op = 260
  · subst k_260
    refine lv_lookup (tgt := 354) hx hb dX0_perform_1 (by decide) rfl (by decide) ?_
    refine lv_iload_n hx hb dX0_perform_354 rfl (lv_at hl 3 rfl) ?_
    refine lv_sipush (v := 4096) hx hb dX0_perform_355 (by decide) ?_
    refine lv_icmp_lt (tgt := 365) hx hb dX0_perform_358 (by decide) (fun c_358 => ?_) (fun c_358 => ?_)
    · refine lv_aload_n hx hb dX0_perform_365 rfl (lv_at hl 0 rfl) ?_
      refine lv_iload_n hx hb dX0_perform_366 rfl (lv_at hl 1 rfl) ?_
      refine lv_iload_n hx hb dX0_perform_367 rfl (lv_at hl 2 rfl) ?_
      refine lv_iload_n hx hb dX0_perform_368 rfl (lv_at hl 3 rfl) ?_
      refine w_go (rv := rv_i) (As := [.int 260, .int ac, .int e0]) (rest := []) ⟨hx, hb, hml, hown, hts⟩ (kX0_performOnMemory l D h a cA (u.1, u.2.1, u.2.2.1, u.2.2.2.1, u.2.2.2.2) ⟨hI.1, hI.2⟩ 260 ac e0 hac (vp_below he c_358 (by decide))) (cwV 3 hts gX0_perform_X0_performOnMemory rfl rfl rfl (by decide +kernel) ⟨by decide, by decide⟩) hK hP hD hS rfl hl.1 rfl (Nat.le_of_ble_eq_true rfl) dX0_perform_369 ⟨Nat.zero_le _, Nat.zero_le _⟩ (fun r_369 u_369 H locs q_369 hP hD hS => ?_)
      refine W.eq (g2 := F0 m 372 ls (.int r_369 :: [])) rfl ?_
      exact mm_iret (mw := wW h a cA) (u1 := (u_369.1, u_369.2.1, u_369.2.2.1, u_369.2.2.2.1, u_369.2.2.2.2)) hx hb hr hlocks hP hK hD hS dX0_perform_372 ⟨q_369.1, q_369.2⟩
    · refine lv_iconst (v := 2) hx hb dX0_perform_361 (by decide) ?_
      refine lv_goto (tgt := 372) hx hb dX0_perform_362 (by decide) ?_
      exact mm_iret (mw := wW h a cA) (u1 := (u.1, u.2.1, u.2.2.1, u.2.2.2.1, u.2.2.2.2)) hx hb hr hlocks hP hK hD hS dX0_perform_372 ⟨hI.1, hI.2⟩
  by_cases k_261 : op = 261
  · subst k_261
    refine lv_lookup (tgt := 318) hx hb dX0_perform_1 (by decide) rfl (by decide) ?_
    refine lv_aload_n hx hb dX0_perform_318 rfl (lv_at hl 0 rfl) ?_
    refine lv_iload_n hx hb dX0_perform_319 rfl (lv_at hl 1 rfl) ?_
    refine lv_iload_n hx hb dX0_perform_320 rfl (lv_at hl 2 rfl) ?_
    refine lv_iload_n hx hb dX0_perform_321 rfl (lv_at hl 3 rfl) ?_
    refine lv_i2l hx hb dX0_perform_322 rfl ?_
    refine w_go (rv := rv_i) (As := [.int 261, .int ac, .long ((e0 : Int32).toInt64)]) (rest := []) ⟨hx, hb, hml, hown, hts⟩ (kX0_combine l D h a cA (u.1, u.2.1, u.2.2.1, u.2.2.2.1, u.2.2.2.2) ⟨hI.1, hI.2⟩ 261 ac ((e0 : Int32).toInt64) hac) (cwV 3 hts gX0_perform_X0_combine rfl rfl rfl (by decide +kernel) ⟨by decide, by decide⟩) hK hP hD hS rfl hl.1 rfl (Nat.le_of_ble_eq_true rfl) dX0_perform_323 ⟨Nat.zero_le _, Nat.zero_le _⟩ (fun r_323 u_323 H locs q_323 hP hD hS => ?_)
    refine W.eq (g2 := F0 m 326 ls (.int r_323 :: [])) rfl ?_
    exact mm_iret (mw := wW h a cA) (u1 := (u_323.1, u_323.2.1, u_323.2.2.1, u_323.2.2.2.1, u_323.2.2.2.2)) hx hb hr hlocks hP hK hD hS dX0_perform_326 ⟨q_323.1, q_323.2⟩
  by_cases k_280 : op = 280
  · subst k_280
    refine lv_lookup (tgt := 354) hx hb dX0_perform_1 (by decide) rfl (by decide) ?_
    refine lv_iload_n hx hb dX0_perform_354 rfl (lv_at hl 3 rfl) ?_
    refine lv_sipush (v := 4096) hx hb dX0_perform_355 (by decide) ?_
    refine lv_icmp_lt (tgt := 365) hx hb dX0_perform_358 (by decide) (fun c_358 => ?_) (fun c_358 => ?_)
    · refine lv_aload_n hx hb dX0_perform_365 rfl (lv_at hl 0 rfl) ?_
      refine lv_iload_n hx hb dX0_perform_366 rfl (lv_at hl 1 rfl) ?_
      refine lv_iload_n hx hb dX0_perform_367 rfl (lv_at hl 2 rfl) ?_
      refine lv_iload_n hx hb dX0_perform_368 rfl (lv_at hl 3 rfl) ?_
      refine w_go (rv := rv_i) (As := [.int 280, .int ac, .int e0]) (rest := []) ⟨hx, hb, hml, hown, hts⟩ (kX0_performOnMemory l D h a cA (u.1, u.2.1, u.2.2.1, u.2.2.2.1, u.2.2.2.2) ⟨hI.1, hI.2⟩ 280 ac e0 hac (vp_below he c_358 (by decide))) (cwV 3 hts gX0_perform_X0_performOnMemory rfl rfl rfl (by decide +kernel) ⟨by decide, by decide⟩) hK hP hD hS rfl hl.1 rfl (Nat.le_of_ble_eq_true rfl) dX0_perform_369 ⟨Nat.zero_le _, Nat.zero_le _⟩ (fun r_369 u_369 H locs q_369 hP hD hS => ?_)
      refine W.eq (g2 := F0 m 372 ls (.int r_369 :: [])) rfl ?_
      exact mm_iret (mw := wW h a cA) (u1 := (u_369.1, u_369.2.1, u_369.2.2.1, u_369.2.2.2.1, u_369.2.2.2.2)) hx hb hr hlocks hP hK hD hS dX0_perform_372 ⟨q_369.1, q_369.2⟩
    · refine lv_iconst (v := 2) hx hb dX0_perform_361 (by decide) ?_
      refine lv_goto (tgt := 372) hx hb dX0_perform_362 (by decide) ?_
      exact mm_iret (mw := wW h a cA) (u1 := (u.1, u.2.1, u.2.2.1, u.2.2.2.1, u.2.2.2.2)) hx hb hr hlocks hP hK hD hS dX0_perform_372 ⟨hI.1, hI.2⟩
  by_cases k_281 : op = 281
  · subst k_281
    refine lv_lookup (tgt := 318) hx hb dX0_perform_1 (by decide) rfl (by decide) ?_
    refine lv_aload_n hx hb dX0_perform_318 rfl (lv_at hl 0 rfl) ?_
    refine lv_iload_n hx hb dX0_perform_319 rfl (lv_at hl 1 rfl) ?_
    refine lv_iload_n hx hb dX0_perform_320 rfl (lv_at hl 2 rfl) ?_
    refine lv_iload_n hx hb dX0_perform_321 rfl (lv_at hl 3 rfl) ?_
    refine lv_i2l hx hb dX0_perform_322 rfl ?_
    refine w_go (rv := rv_i) (As := [.int 281, .int ac, .long ((e0 : Int32).toInt64)]) (rest := []) ⟨hx, hb, hml, hown, hts⟩ (kX0_combine l D h a cA (u.1, u.2.1, u.2.2.1, u.2.2.2.1, u.2.2.2.2) ⟨hI.1, hI.2⟩ 281 ac ((e0 : Int32).toInt64) hac) (cwV 3 hts gX0_perform_X0_combine rfl rfl rfl (by decide +kernel) ⟨by decide, by decide⟩) hK hP hD hS rfl hl.1 rfl (Nat.le_of_ble_eq_true rfl) dX0_perform_323 ⟨Nat.zero_le _, Nat.zero_le _⟩ (fun r_323 u_323 H locs q_323 hP hD hS => ?_)
    refine W.eq (g2 := F0 m 326 ls (.int r_323 :: [])) rfl ?_
    exact mm_iret (mw := wW h a cA) (u1 := (u_323.1, u_323.2.1, u_323.2.2.1, u_323.2.2.2.1, u_323.2.2.2.2)) hx hb hr hlocks hP hK hD hS dX0_perform_326 ⟨q_323.1, q_323.2⟩
  by_cases k_284 : op = 284
  · subst k_284
    refine lv_lookup (tgt := 354) hx hb dX0_perform_1 (by decide) rfl (by decide) ?_
    refine lv_iload_n hx hb dX0_perform_354 rfl (lv_at hl 3 rfl) ?_
    refine lv_sipush (v := 4096) hx hb dX0_perform_355 (by decide) ?_
    refine lv_icmp_lt (tgt := 365) hx hb dX0_perform_358 (by decide) (fun c_358 => ?_) (fun c_358 => ?_)
    · refine lv_aload_n hx hb dX0_perform_365 rfl (lv_at hl 0 rfl) ?_
      refine lv_iload_n hx hb dX0_perform_366 rfl (lv_at hl 1 rfl) ?_
      refine lv_iload_n hx hb dX0_perform_367 rfl (lv_at hl 2 rfl) ?_
      refine lv_iload_n hx hb dX0_perform_368 rfl (lv_at hl 3 rfl) ?_
      refine w_go (rv := rv_i) (As := [.int 284, .int ac, .int e0]) (rest := []) ⟨hx, hb, hml, hown, hts⟩ (kX0_performOnMemory l D h a cA (u.1, u.2.1, u.2.2.1, u.2.2.2.1, u.2.2.2.2) ⟨hI.1, hI.2⟩ 284 ac e0 hac (vp_below he c_358 (by decide))) (cwV 3 hts gX0_perform_X0_performOnMemory rfl rfl rfl (by decide +kernel) ⟨by decide, by decide⟩) hK hP hD hS rfl hl.1 rfl (Nat.le_of_ble_eq_true rfl) dX0_perform_369 ⟨Nat.zero_le _, Nat.zero_le _⟩ (fun r_369 u_369 H locs q_369 hP hD hS => ?_)
      refine W.eq (g2 := F0 m 372 ls (.int r_369 :: [])) rfl ?_
      exact mm_iret (mw := wW h a cA) (u1 := (u_369.1, u_369.2.1, u_369.2.2.1, u_369.2.2.2.1, u_369.2.2.2.2)) hx hb hr hlocks hP hK hD hS dX0_perform_372 ⟨q_369.1, q_369.2⟩
    · refine lv_iconst (v := 2) hx hb dX0_perform_361 (by decide) ?_
      refine lv_goto (tgt := 372) hx hb dX0_perform_362 (by decide) ?_
      exact mm_iret (mw := wW h a cA) (u1 := (u.1, u.2.1, u.2.2.1, u.2.2.2.1, u.2.2.2.2)) hx hb hr hlocks hP hK hD hS dX0_perform_372 ⟨hI.1, hI.2⟩
  by_cases k_285 : op = 285
  · subst k_285
    refine lv_lookup (tgt := 318) hx hb dX0_perform_1 (by decide) rfl (by decide) ?_
    refine lv_aload_n hx hb dX0_perform_318 rfl (lv_at hl 0 rfl) ?_
    refine lv_iload_n hx hb dX0_perform_319 rfl (lv_at hl 1 rfl) ?_
    refine lv_iload_n hx hb dX0_perform_320 rfl (lv_at hl 2 rfl) ?_
    refine lv_iload_n hx hb dX0_perform_321 rfl (lv_at hl 3 rfl) ?_
    refine lv_i2l hx hb dX0_perform_322 rfl ?_
    refine w_go (rv := rv_i) (As := [.int 285, .int ac, .long ((e0 : Int32).toInt64)]) (rest := []) ⟨hx, hb, hml, hown, hts⟩ (kX0_combine l D h a cA (u.1, u.2.1, u.2.2.1, u.2.2.2.1, u.2.2.2.2) ⟨hI.1, hI.2⟩ 285 ac ((e0 : Int32).toInt64) hac) (cwV 3 hts gX0_perform_X0_combine rfl rfl rfl (by decide +kernel) ⟨by decide, by decide⟩) hK hP hD hS rfl hl.1 rfl (Nat.le_of_ble_eq_true rfl) dX0_perform_323 ⟨Nat.zero_le _, Nat.zero_le _⟩ (fun r_323 u_323 H locs q_323 hP hD hS => ?_)
    refine W.eq (g2 := F0 m 326 ls (.int r_323 :: [])) rfl ?_
    exact mm_iret (mw := wW h a cA) (u1 := (u_323.1, u_323.2.1, u_323.2.2.1, u_323.2.2.2.1, u_323.2.2.2.2)) hx hb hr hlocks hP hK hD hS dX0_perform_326 ⟨q_323.1, q_323.2⟩
  by_cases k_296 : op = 296
  · subst k_296
    refine lv_lookup (tgt := 318) hx hb dX0_perform_1 (by decide) rfl (by decide) ?_
    refine lv_aload_n hx hb dX0_perform_318 rfl (lv_at hl 0 rfl) ?_
    refine lv_iload_n hx hb dX0_perform_319 rfl (lv_at hl 1 rfl) ?_
    refine lv_iload_n hx hb dX0_perform_320 rfl (lv_at hl 2 rfl) ?_
    refine lv_iload_n hx hb dX0_perform_321 rfl (lv_at hl 3 rfl) ?_
    refine lv_i2l hx hb dX0_perform_322 rfl ?_
    refine w_go (rv := rv_i) (As := [.int 296, .int ac, .long ((e0 : Int32).toInt64)]) (rest := []) ⟨hx, hb, hml, hown, hts⟩ (kX0_combine l D h a cA (u.1, u.2.1, u.2.2.1, u.2.2.2.1, u.2.2.2.2) ⟨hI.1, hI.2⟩ 296 ac ((e0 : Int32).toInt64) hac) (cwV 3 hts gX0_perform_X0_combine rfl rfl rfl (by decide +kernel) ⟨by decide, by decide⟩) hK hP hD hS rfl hl.1 rfl (Nat.le_of_ble_eq_true rfl) dX0_perform_323 ⟨Nat.zero_le _, Nat.zero_le _⟩ (fun r_323 u_323 H locs q_323 hP hD hS => ?_)
    refine W.eq (g2 := F0 m 326 ls (.int r_323 :: [])) rfl ?_
    exact mm_iret (mw := wW h a cA) (u1 := (u_323.1, u_323.2.1, u_323.2.2.1, u_323.2.2.2.1, u_323.2.2.2.2)) hx hb hr hlocks hP hK hD hS dX0_perform_326 ⟨q_323.1, q_323.2⟩
  by_cases k_320 : op = 320
  · subst k_320
    refine lv_lookup (tgt := 354) hx hb dX0_perform_1 (by decide) rfl (by decide) ?_
    refine lv_iload_n hx hb dX0_perform_354 rfl (lv_at hl 3 rfl) ?_
    refine lv_sipush (v := 4096) hx hb dX0_perform_355 (by decide) ?_
    refine lv_icmp_lt (tgt := 365) hx hb dX0_perform_358 (by decide) (fun c_358 => ?_) (fun c_358 => ?_)
    · refine lv_aload_n hx hb dX0_perform_365 rfl (lv_at hl 0 rfl) ?_
      refine lv_iload_n hx hb dX0_perform_366 rfl (lv_at hl 1 rfl) ?_
      refine lv_iload_n hx hb dX0_perform_367 rfl (lv_at hl 2 rfl) ?_
      refine lv_iload_n hx hb dX0_perform_368 rfl (lv_at hl 3 rfl) ?_
      refine w_go (rv := rv_i) (As := [.int 320, .int ac, .int e0]) (rest := []) ⟨hx, hb, hml, hown, hts⟩ (kX0_performOnMemory l D h a cA (u.1, u.2.1, u.2.2.1, u.2.2.2.1, u.2.2.2.2) ⟨hI.1, hI.2⟩ 320 ac e0 hac (vp_below he c_358 (by decide))) (cwV 3 hts gX0_perform_X0_performOnMemory rfl rfl rfl (by decide +kernel) ⟨by decide, by decide⟩) hK hP hD hS rfl hl.1 rfl (Nat.le_of_ble_eq_true rfl) dX0_perform_369 ⟨Nat.zero_le _, Nat.zero_le _⟩ (fun r_369 u_369 H locs q_369 hP hD hS => ?_)
      refine W.eq (g2 := F0 m 372 ls (.int r_369 :: [])) rfl ?_
      exact mm_iret (mw := wW h a cA) (u1 := (u_369.1, u_369.2.1, u_369.2.2.1, u_369.2.2.2.1, u_369.2.2.2.2)) hx hb hr hlocks hP hK hD hS dX0_perform_372 ⟨q_369.1, q_369.2⟩
    · refine lv_iconst (v := 2) hx hb dX0_perform_361 (by decide) ?_
      refine lv_goto (tgt := 372) hx hb dX0_perform_362 (by decide) ?_
      exact mm_iret (mw := wW h a cA) (u1 := (u.1, u.2.1, u.2.2.1, u.2.2.2.1, u.2.2.2.2)) hx hb hr hlocks hP hK hD hS dX0_perform_372 ⟨hI.1, hI.2⟩
  by_cases k_324 : op = 324
  · subst k_324
    refine lv_lookup (tgt := 354) hx hb dX0_perform_1 (by decide) rfl (by decide) ?_
    refine lv_iload_n hx hb dX0_perform_354 rfl (lv_at hl 3 rfl) ?_
    refine lv_sipush (v := 4096) hx hb dX0_perform_355 (by decide) ?_
    refine lv_icmp_lt (tgt := 365) hx hb dX0_perform_358 (by decide) (fun c_358 => ?_) (fun c_358 => ?_)
    · refine lv_aload_n hx hb dX0_perform_365 rfl (lv_at hl 0 rfl) ?_
      refine lv_iload_n hx hb dX0_perform_366 rfl (lv_at hl 1 rfl) ?_
      refine lv_iload_n hx hb dX0_perform_367 rfl (lv_at hl 2 rfl) ?_
      refine lv_iload_n hx hb dX0_perform_368 rfl (lv_at hl 3 rfl) ?_
      refine w_go (rv := rv_i) (As := [.int 324, .int ac, .int e0]) (rest := []) ⟨hx, hb, hml, hown, hts⟩ (kX0_performOnMemory l D h a cA (u.1, u.2.1, u.2.2.1, u.2.2.2.1, u.2.2.2.2) ⟨hI.1, hI.2⟩ 324 ac e0 hac (vp_below he c_358 (by decide))) (cwV 3 hts gX0_perform_X0_performOnMemory rfl rfl rfl (by decide +kernel) ⟨by decide, by decide⟩) hK hP hD hS rfl hl.1 rfl (Nat.le_of_ble_eq_true rfl) dX0_perform_369 ⟨Nat.zero_le _, Nat.zero_le _⟩ (fun r_369 u_369 H locs q_369 hP hD hS => ?_)
      refine W.eq (g2 := F0 m 372 ls (.int r_369 :: [])) rfl ?_
      exact mm_iret (mw := wW h a cA) (u1 := (u_369.1, u_369.2.1, u_369.2.2.1, u_369.2.2.2.1, u_369.2.2.2.2)) hx hb hr hlocks hP hK hD hS dX0_perform_372 ⟨q_369.1, q_369.2⟩
    · refine lv_iconst (v := 2) hx hb dX0_perform_361 (by decide) ?_
      refine lv_goto (tgt := 372) hx hb dX0_perform_362 (by decide) ?_
      exact mm_iret (mw := wW h a cA) (u1 := (u.1, u.2.1, u.2.2.1, u.2.2.2.1, u.2.2.2.2)) hx hb hr hlocks hP hK hD hS dX0_perform_372 ⟨hI.1, hI.2⟩
  by_cases k_352 : op = 352
  · subst k_352
    refine lv_lookup (tgt := 354) hx hb dX0_perform_1 (by decide) rfl (by decide) ?_
    refine lv_iload_n hx hb dX0_perform_354 rfl (lv_at hl 3 rfl) ?_
    refine lv_sipush (v := 4096) hx hb dX0_perform_355 (by decide) ?_
    refine lv_icmp_lt (tgt := 365) hx hb dX0_perform_358 (by decide) (fun c_358 => ?_) (fun c_358 => ?_)
    · refine lv_aload_n hx hb dX0_perform_365 rfl (lv_at hl 0 rfl) ?_
      refine lv_iload_n hx hb dX0_perform_366 rfl (lv_at hl 1 rfl) ?_
      refine lv_iload_n hx hb dX0_perform_367 rfl (lv_at hl 2 rfl) ?_
      refine lv_iload_n hx hb dX0_perform_368 rfl (lv_at hl 3 rfl) ?_
      refine w_go (rv := rv_i) (As := [.int 352, .int ac, .int e0]) (rest := []) ⟨hx, hb, hml, hown, hts⟩ (kX0_performOnMemory l D h a cA (u.1, u.2.1, u.2.2.1, u.2.2.2.1, u.2.2.2.2) ⟨hI.1, hI.2⟩ 352 ac e0 hac (vp_below he c_358 (by decide))) (cwV 3 hts gX0_perform_X0_performOnMemory rfl rfl rfl (by decide +kernel) ⟨by decide, by decide⟩) hK hP hD hS rfl hl.1 rfl (Nat.le_of_ble_eq_true rfl) dX0_perform_369 ⟨Nat.zero_le _, Nat.zero_le _⟩ (fun r_369 u_369 H locs q_369 hP hD hS => ?_)
      refine W.eq (g2 := F0 m 372 ls (.int r_369 :: [])) rfl ?_
      exact mm_iret (mw := wW h a cA) (u1 := (u_369.1, u_369.2.1, u_369.2.2.1, u_369.2.2.2.1, u_369.2.2.2.2)) hx hb hr hlocks hP hK hD hS dX0_perform_372 ⟨q_369.1, q_369.2⟩
    · refine lv_iconst (v := 2) hx hb dX0_perform_361 (by decide) ?_
      refine lv_goto (tgt := 372) hx hb dX0_perform_362 (by decide) ?_
      exact mm_iret (mw := wW h a cA) (u1 := (u.1, u.2.1, u.2.2.1, u.2.2.2.1, u.2.2.2.2)) hx hb hr hlocks hP hK hD hS dX0_perform_372 ⟨hI.1, hI.2⟩
  by_cases k_356 : op = 356
  · subst k_356
    refine lv_lookup (tgt := 354) hx hb dX0_perform_1 (by decide) rfl (by decide) ?_
    refine lv_iload_n hx hb dX0_perform_354 rfl (lv_at hl 3 rfl) ?_
    refine lv_sipush (v := 4096) hx hb dX0_perform_355 (by decide) ?_
    refine lv_icmp_lt (tgt := 365) hx hb dX0_perform_358 (by decide) (fun c_358 => ?_) (fun c_358 => ?_)
    · refine lv_aload_n hx hb dX0_perform_365 rfl (lv_at hl 0 rfl) ?_
      refine lv_iload_n hx hb dX0_perform_366 rfl (lv_at hl 1 rfl) ?_
      refine lv_iload_n hx hb dX0_perform_367 rfl (lv_at hl 2 rfl) ?_
      refine lv_iload_n hx hb dX0_perform_368 rfl (lv_at hl 3 rfl) ?_
      refine w_go (rv := rv_i) (As := [.int 356, .int ac, .int e0]) (rest := []) ⟨hx, hb, hml, hown, hts⟩ (kX0_performOnMemory l D h a cA (u.1, u.2.1, u.2.2.1, u.2.2.2.1, u.2.2.2.2) ⟨hI.1, hI.2⟩ 356 ac e0 hac (vp_below he c_358 (by decide))) (cwV 3 hts gX0_perform_X0_performOnMemory rfl rfl rfl (by decide +kernel) ⟨by decide, by decide⟩) hK hP hD hS rfl hl.1 rfl (Nat.le_of_ble_eq_true rfl) dX0_perform_369 ⟨Nat.zero_le _, Nat.zero_le _⟩ (fun r_369 u_369 H locs q_369 hP hD hS => ?_)
      refine W.eq (g2 := F0 m 372 ls (.int r_369 :: [])) rfl ?_
      exact mm_iret (mw := wW h a cA) (u1 := (u_369.1, u_369.2.1, u_369.2.2.1, u_369.2.2.2.1, u_369.2.2.2.2)) hx hb hr hlocks hP hK hD hS dX0_perform_372 ⟨q_369.1, q_369.2⟩
    · refine lv_iconst (v := 2) hx hb dX0_perform_361 (by decide) ?_
      refine lv_goto (tgt := 372) hx hb dX0_perform_362 (by decide) ?_
      exact mm_iret (mw := wW h a cA) (u1 := (u.1, u.2.1, u.2.2.1, u.2.2.2.1, u.2.2.2.2)) hx hb hr hlocks hP hK hD hS dX0_perform_372 ⟨hI.1, hI.2⟩
  by_cases k_360 : op = 360
  · subst k_360
    refine lv_lookup (tgt := 354) hx hb dX0_perform_1 (by decide) rfl (by decide) ?_
    refine lv_iload_n hx hb dX0_perform_354 rfl (lv_at hl 3 rfl) ?_
    refine lv_sipush (v := 4096) hx hb dX0_perform_355 (by decide) ?_
    refine lv_icmp_lt (tgt := 365) hx hb dX0_perform_358 (by decide) (fun c_358 => ?_) (fun c_358 => ?_)
    · refine lv_aload_n hx hb dX0_perform_365 rfl (lv_at hl 0 rfl) ?_
      refine lv_iload_n hx hb dX0_perform_366 rfl (lv_at hl 1 rfl) ?_
      refine lv_iload_n hx hb dX0_perform_367 rfl (lv_at hl 2 rfl) ?_
      refine lv_iload_n hx hb dX0_perform_368 rfl (lv_at hl 3 rfl) ?_
      refine w_go (rv := rv_i) (As := [.int 360, .int ac, .int e0]) (rest := []) ⟨hx, hb, hml, hown, hts⟩ (kX0_performOnMemory l D h a cA (u.1, u.2.1, u.2.2.1, u.2.2.2.1, u.2.2.2.2) ⟨hI.1, hI.2⟩ 360 ac e0 hac (vp_below he c_358 (by decide))) (cwV 3 hts gX0_perform_X0_performOnMemory rfl rfl rfl (by decide +kernel) ⟨by decide, by decide⟩) hK hP hD hS rfl hl.1 rfl (Nat.le_of_ble_eq_true rfl) dX0_perform_369 ⟨Nat.zero_le _, Nat.zero_le _⟩ (fun r_369 u_369 H locs q_369 hP hD hS => ?_)
      refine W.eq (g2 := F0 m 372 ls (.int r_369 :: [])) rfl ?_
      exact mm_iret (mw := wW h a cA) (u1 := (u_369.1, u_369.2.1, u_369.2.2.1, u_369.2.2.2.1, u_369.2.2.2.2)) hx hb hr hlocks hP hK hD hS dX0_perform_372 ⟨q_369.1, q_369.2⟩
    · refine lv_iconst (v := 2) hx hb dX0_perform_361 (by decide) ?_
      refine lv_goto (tgt := 372) hx hb dX0_perform_362 (by decide) ?_
      exact mm_iret (mw := wW h a cA) (u1 := (u.1, u.2.1, u.2.2.1, u.2.2.2.1, u.2.2.2.2)) hx hb hr hlocks hP hK hD hS dX0_perform_372 ⟨hI.1, hI.2⟩
  by_cases k_364 : op = 364
  · subst k_364
    refine lv_lookup (tgt := 354) hx hb dX0_perform_1 (by decide) rfl (by decide) ?_
    refine lv_iload_n hx hb dX0_perform_354 rfl (lv_at hl 3 rfl) ?_
    refine lv_sipush (v := 4096) hx hb dX0_perform_355 (by decide) ?_
    refine lv_icmp_lt (tgt := 365) hx hb dX0_perform_358 (by decide) (fun c_358 => ?_) (fun c_358 => ?_)
    · refine lv_aload_n hx hb dX0_perform_365 rfl (lv_at hl 0 rfl) ?_
      refine lv_iload_n hx hb dX0_perform_366 rfl (lv_at hl 1 rfl) ?_
      refine lv_iload_n hx hb dX0_perform_367 rfl (lv_at hl 2 rfl) ?_
      refine lv_iload_n hx hb dX0_perform_368 rfl (lv_at hl 3 rfl) ?_
      refine w_go (rv := rv_i) (As := [.int 364, .int ac, .int e0]) (rest := []) ⟨hx, hb, hml, hown, hts⟩ (kX0_performOnMemory l D h a cA (u.1, u.2.1, u.2.2.1, u.2.2.2.1, u.2.2.2.2) ⟨hI.1, hI.2⟩ 364 ac e0 hac (vp_below he c_358 (by decide))) (cwV 3 hts gX0_perform_X0_performOnMemory rfl rfl rfl (by decide +kernel) ⟨by decide, by decide⟩) hK hP hD hS rfl hl.1 rfl (Nat.le_of_ble_eq_true rfl) dX0_perform_369 ⟨Nat.zero_le _, Nat.zero_le _⟩ (fun r_369 u_369 H locs q_369 hP hD hS => ?_)
      refine W.eq (g2 := F0 m 372 ls (.int r_369 :: [])) rfl ?_
      exact mm_iret (mw := wW h a cA) (u1 := (u_369.1, u_369.2.1, u_369.2.2.1, u_369.2.2.2.1, u_369.2.2.2.2)) hx hb hr hlocks hP hK hD hS dX0_perform_372 ⟨q_369.1, q_369.2⟩
    · refine lv_iconst (v := 2) hx hb dX0_perform_361 (by decide) ?_
      refine lv_goto (tgt := 372) hx hb dX0_perform_362 (by decide) ?_
      exact mm_iret (mw := wW h a cA) (u1 := (u.1, u.2.1, u.2.2.1, u.2.2.2.1, u.2.2.2.2)) hx hb hr hlocks hP hK hD hS dX0_perform_372 ⟨hI.1, hI.2⟩
  refine lv_lookup (off := 372) (tgt := 373) hx hb dX0_perform_1 (by decide) ((lv_osw k_0 (by decide)).trans <| (lv_osw k_128 (by decide)).trans <| (lv_osw k_129 (by decide)).trans <| (lv_osw k_130 (by decide)).trans <| (lv_osw k_132 (by decide)).trans <| (lv_osw k_136 (by decide)).trans <| (lv_osw k_140 (by decide)).trans <| (lv_osw k_144 (by decide)).trans <| (lv_osw k_145 (by decide)).trans <| (lv_osw k_152 (by decide)).trans <| (lv_osw k_153 (by decide)).trans <| (lv_osw k_162 (by decide)).trans <| (lv_osw k_168 (by decide)).trans <| (lv_osw k_172 (by decide)).trans <| (lv_osw k_176 (by decide)).trans <| (lv_osw k_177 (by decide)).trans <| (lv_osw k_178 (by decide)).trans <| (lv_osw k_179 (by decide)).trans <| (lv_osw k_180 (by decide)).trans <| (lv_osw k_184 (by decide)).trans <| (lv_osw k_185 (by decide)).trans <| (lv_osw k_188 (by decide)).trans <| (lv_osw k_189 (by decide)).trans <| (lv_osw k_256 (by decide)).trans <| (lv_osw k_258 (by decide)).trans <| (lv_osw k_260 (by decide)).trans <| (lv_osw k_261 (by decide)).trans <| (lv_osw k_280 (by decide)).trans <| (lv_osw k_281 (by decide)).trans <| (lv_osw k_284 (by decide)).trans <| (lv_osw k_285 (by decide)).trans <| (lv_osw k_296 (by decide)).trans <| (lv_osw k_320 (by decide)).trans <| (lv_osw k_324 (by decide)).trans <| (lv_osw k_352 (by decide)).trans <| (lv_osw k_356 (by decide)).trans <| (lv_osw k_360 (by decide)).trans <| (lv_osw k_364 (by decide)).trans <| rfl) (by decide) ?_
  refine lv_iload_n hx hb dX0_perform_373 rfl (lv_at hl 1 rfl) ?_
  refine ps_goi (As := [.int op]) (rest := []) ⟨hx, hb, hml, hown, hts⟩ (kX0_isTest l op) (va_cwS 1 hts gX0_perform_X0_isTest rfl rfl rfl (by decide +kernel) ⟨by decide, by decide⟩) rfl hl.1 rfl (Nat.le_of_ble_eq_true rfl) dX0_perform_374 ⟨Nat.zero_le _, Nat.zero_le _⟩ (fun r_374 q_374 => ?_)
  refine lv_if_eq (tgt := 390) hx hb dX0_perform_377 (by decide) (fun c_377 => ?_) (fun c_377 => ?_)
  · refine lv_iconst (v := 1) hx hb dX0_perform_390 (by decide) ?_
    exact mm_iret (mw := wW h a cA) (u1 := (u.1, u.2.1, u.2.2.1, u.2.2.2.1, u.2.2.2.2)) hx hb hr hlocks hP hK hD hS dX0_perform_391 ⟨hI.1, hI.2⟩
  · refine lv_aload_n hx hb dX0_perform_380 rfl (lv_at hl 0 rfl) ?_
    refine lv_iload_n hx hb dX0_perform_381 rfl (lv_at hl 1 rfl) ?_
    refine lv_iload_n hx hb dX0_perform_382 rfl (lv_at hl 2 rfl) ?_
    refine lv_iload_n hx hb dX0_perform_383 rfl (lv_at hl 3 rfl) ?_
    refine w_go (rv := rv_i) (As := [.int op, .int ac, .int e0]) (rest := []) ⟨hx, hb, hml, hown, hts⟩ (kX0_test l D h a cA (u.1, u.2.1, u.2.2.1, u.2.2.2.1, u.2.2.2.2) ⟨hI.1, hI.2⟩ op ac e0 (Or.resolve_left q_374 c_377) hac he) (cwV 3 hts gX0_perform_X0_test rfl rfl rfl (by decide +kernel) ⟨by decide, by decide⟩) hK hP hD hS rfl hl.1 rfl (Nat.le_of_ble_eq_true rfl) dX0_perform_384 ⟨Nat.zero_le _, Nat.zero_le _⟩ (fun r_384 u_384 H locs q_384 hP hD hS => ?_)
    refine W.eq (g2 := F0 m 387 ls (.int r_384 :: [])) rfl ?_
    refine lv_goto (tgt := 391) hx hb dX0_perform_387 (by decide) ?_
    exact mm_iret (mw := wW h a cA) (u1 := (u_384.1, u_384.2.1, u_384.2.2.1, u_384.2.2.2.1, u_384.2.2.2.2)) hx hb hr hlocks hP hK hD hS dX0_perform_391 ⟨q_384.1, q_384.2⟩
end
