/-! Own layer: one form of contract for p1: from cells ws, the method returns rv (or throws E0), and the cells are w1. -/
/-- the words of NoSuchElementException's making: its own code names entry 13 of its pool -/
abbrev nsX : String := "java/util/NoSuchElementException"
def six13 : ByteArray := ⟨#[0x2a, 0x2b, 0xb7, 0x00, 0x0d, 0xb1]⟩
theorem six13_0 : decode six13 0 = .ok (.aload_n 0, 1) := by decide +kernel
theorem six13_1 : decode six13 1 = .ok (.aload_n 1, 1) := by decide +kernel
theorem six13_2 : decode six13 2 = .ok (.invokespecial 13, 3) := by decide +kernel
theorem six13_5 : decode six13 5 = .ok (.return_, 1) := by decide +kernel
def nsAll (own : String) (ic : Nat) : List Cond := Bundle.throwableAtoms ++ (Bundle.throwableSAtoms ++ (Bundle.passSAtoms nsX "java/lang/RuntimeException" 13 six13 ++ (Bundle.chainSAtoms "java/lang/RuntimeException" ["java/lang/Exception"] ++
  [.methodLink own ic (Bundle.initS nsX), .instantiable nsX 6, .selects nsX Bundle.tFill0 Bundle.tFill0, .selects nsX Bundle.tFill Bundle.tFill,
   .lays nsX Bundle.tN "cause" "Ljava/lang/Throwable;", .lays nsX Bundle.tN "stackTrace" Bundle.steD, .lays nsX Bundle.tN "suppressedExceptions" Bundle.listD, .lays nsX Bundle.tN "detailMessage" "Ljava/lang/String;",
   .isRef (.static Bundle.tN "UNASSIGNED_STACK" Bundle.steD), .isRef (.static Bundle.tN "SUPPRESSED_SENTINEL" Bundle.listD),
   .fieldLink Bundle.tN 198 Bundle.tN "backtrace" "Ljava/lang/Object;", .lays Bundle.tN Bundle.tN "backtrace" "Ljava/lang/Object;", .lays nsX Bundle.tN "backtrace" "Ljava/lang/Object;"])))
def nsAt (own : String) (ic : Nat) : List Cond := (nsAll own ic).filter vx_no
abbrev exN : List String := ["java/lang/RuntimeException", "java/lang/Exception"]
def ex1 : List Cond := (vx_atS RX10 107 "java/lang/IllegalStateException" exN).filter goodWord
def ex2 : List Cond := (vx_atS RX10 124 "java/lang/IllegalArgumentException" exN).filter goodWord
def ex3 : List Cond := (nsAt RX10 224).filter goodWord
def ex4 : List Cond := (vx_atS RX10 156 "java/lang/IndexOutOfBoundsException" exN).filter goodWord
def ex5 : List Cond := (vx_atS RX10 233 "java/lang/UnsupportedOperationException" exN).filter goodWord
def ex6 : List Cond := (vx_atS RX10 433 "java/lang/ArithmeticException" exN).filter goodWord
def gw : List Cond := wsL_law0 ++ (ex1 ++ (ex2 ++ (ex3 ++ (ex4 ++ (ex5 ++ ex6)))))
set_option maxRecDepth 100000 in
theorem gw_good : gw.all goodWord = true := by decide +kernel
theorem gwg : ∀ w ∈ gw, goodWord w = true := List.all_eq_true.mp gw_good
theorem g0 {w : Cond} (h : w ∈ wsL_law0) : w ∈ gw := List.mem_append_left _ h
/-- the words that are not good ones -/
def faceL : List Cond := [.castable "java/lang/IllegalStateException" "java/lang/IllegalStateException", .castable "java/lang/IllegalArgumentException" "java/lang/IllegalArgumentException", .castable nsX nsX, .castable "java/lang/IndexOutOfBoundsException" "java/lang/IndexOutOfBoundsException", .castable "java/lang/UnsupportedOperationException" "java/lang/UnsupportedOperationException", .castable "java/lang/ArithmeticException" "java/lang/ArithmeticException",
  .declares (Bundle.initS "java/lang/RuntimeException"), .declares (Bundle.initS "java/lang/Exception"), .declares (Bundle.initS Bundle.tN)]
theorem face_ok : faceL.all (fun w => w.faceAtom && w.onTables) = true := by decide +kernel
def TYx (y : Nat → ClassId) : List (ClassId × FieldType) := [(y 0, .int), (y 1, .char), (y 2, .long), (y 3, .boolean), (y 4, .array .int), (y 5, .array .boolean), (y 6, .double), (y 7, .byte)]
abbrev tN9 : String := Bundle.tN
/-- classes that are not castable, as the law's handlers ask -/
def ncL : List (String × String) := [(nsX, "java/lang/IllegalArgumentException"), (nsX, "java/lang/IllegalStateException"), ("java/lang/IndexOutOfBoundsException", "java/lang/IllegalStateException"), ("java/lang/IndexOutOfBoundsException", "java/lang/UnsupportedOperationException"), ("java/lang/ArithmeticException", "java/lang/IllegalArgumentException"), ("java/lang/IllegalStateException", "java/lang/IllegalArgumentException"), ("java/lang/UnsupportedOperationException", nsX), ("java/lang/IndexOutOfBoundsException", nsX), ("java/lang/IllegalArgumentException", nsX)]
def EV (D : va_G) (y : Nat → ClassId) (U : State) : Prop := va_K D vwCl (TYx y) U ∧ (∀ q ∈ nestF, va_Nw (.fieldLinkNest q.1 q.2.1 q.2.2.1 q.2.2.2.1 q.2.2.2.2 "StablepairBureau") U) ∧ (∀ q ∈ nestM, va_Nw (.methodLinkNest q.1 q.2.1 q.2.2 "StablepairBureau") U) ∧ (∀ q ∈ strL, ∃ sa, vk_R q.1 q.2.1 q.2.2 sa U) ∧ (∀ w ∈ faceL, w.before #[] U = true) ∧ (∀ q ∈ ncL, va_Nc q.1 q.2 U) ∧ va_AOA .int U ∧ va_AOA .boolean U ∧ (∃ kA : Class, U.vm.classes[y 4]? = some kA ∧ kA.kind = .array (y 0) (.array .int)) ∧ vk_R RX11 70 "phm" (y 20) U
theorem face_warm {s U : State} (hW : s.WarmedH U.vm) {w : Cond} (hw : w ∈ faceL) (h : w.before #[] s = true) : w.before #[] U = true := by
  have h1 := List.all_eq_true.mp face_ok w hw
  simp only [Bool.and_eq_true] at h1
  exact va_tabs h1.2 (rfl : (s.setVm U.vm).vm = U.vm) (Cond.faceAtom_setVm hW.alike w h1.1 h)
theorem face_use {s : State} {args : Array Value} {w : Cond} (hw : w ∈ faceL) (h : w.before #[] s = true) : w.before args s = true := by
  have h1 := List.all_eq_true.mp face_ok w hw
  simp only [Bool.and_eq_true] at h1
  exact va_tabs h1.2 rfl h
theorem va_AOA.warm {t : FieldType} {s U : State} (hW : s.WarmedH U.vm) (h : va_AOA t s) : va_AOA t U := by
  have h1 : (Cond.arrayOver (.array t)).before #[] (s.setVm U.vm) = true := by
    rw [Cond.arrayOver_setVmC hW.alike]
    exact h
  unfold va_AOA
  unfold Cond.before Cond.holds at h1 ⊢
  simp only [Cond.value] at h1 ⊢
  exact h1
theorem EV.warm {D : va_G} {y : Nat → ClassId} {s U : State} (hW : s.WarmedH U.vm) (h : EV D y s) : EV D y U :=
  ⟨va_K.moved hW.alike h.1, fun q hq => va_Nw.warmF hW (h.2.1 q hq), fun q hq => va_Nw.warmM hW (h.2.2.1 q hq), fun q hq => by obtain ⟨sa, h1⟩ := h.2.2.2.1 q hq; exact ⟨sa, vk_R.warm hW h1⟩, fun w hw => face_warm hW hw (h.2.2.2.2.1 w hw), fun q hq => va_Nc.moved hW.alike (h.2.2.2.2.2.1 q hq), va_AOA.warm hW h.2.2.2.2.2.2.1, va_AOA.warm hW h.2.2.2.2.2.2.2.1, by
    obtain ⟨kA, h1, h2⟩ := h.2.2.2.2.2.2.2.2.1
    obtain ⟨k', hk', he⟩ := hW.alike.2.2 _ _ h1
    exact ⟨k', hk', by rw [he]; exact h2⟩, vk_R.warm hW h.2.2.2.2.2.2.2.2.2⟩
def EH (y : Nat → ClassId) (A : Nat → Prop) (U : State) (H : Heap) : Prop := vx_Zq Bundle.tN "UNASSIGNED_STACK" Bundle.steD A U H ∧ vx_Zq Bundle.tN "SUPPRESSED_SENTINEL" Bundle.listD A U H ∧ va_Z "java/lang/String" "COMPACT_STRINGS" "Z" (.int 1) A U H ∧ vk_S 1 [3] [[112, 104, 109]] (fun _ => y 20) (fun _ => y 21) A U H
theorem EH.moved {y : Nat → ClassId} {A : Nat → Prop} {u U : State} {H : Heap} (hvm : u.vm.Alike U.vm) (h : EH y A u H) : EH y A U H := ⟨vx_Zq.moved hvm h.1, vx_Zq.moved hvm h.2.1, va_Z.moved hvm h.2.2.1, vk_S.moved hvm h.2.2.2⟩
theorem EH.kept {y : Nat → ClassId} {A : Nat → Prop} {U : State} {H H1 : Heap} (h : EH y A U H) (hq : ∀ a : Nat, a < H.size → ¬ A a → H1[a]? = H[a]?) : EH y A U H1 := ⟨vx_Zq.kept h.1 hq, vx_Zq.kept h.2.1 hq, va_Z.kept h.2.2.1 hq, vk_S.kept h.2.2.2 hq⟩
theorem EH.narrow {y : Nat → ClassId} {A B : Nat → Prop} {U : State} {H : Heap} (h : EH y A U H) (hAB : ∀ q, B q → A q) : EH y B U H := ⟨vx_Zq.narrow h.1 hAB, vx_Zq.narrow h.2.1 hAB, va_Z.narrow h.2.2.1 hAB, vk_S.narrow h.2.2.2 hAB⟩
/-- a contract's start -/
def PCx (D : va_G) (y : Nat → ClassId) (as : List Value) (ws wa : va_W) (sz : Nat) : Array Value → State → Prop :=
  va_Pc as (fun U => U.heap.size = sz ∧ va_P D vwCl ws U.heap ∧ va_D (fun _ => True) ws ∧ EV D y U ∧ EH y (va_A wa sz) U U.heap)
theorem PCx.blind {D : va_G} {y : Nat → ClassId} {as : List Value} {ws wa : va_W} {sz : Nat} : FrameBlind (PCx D y as ws wa sz) := by
  intro a U g mk h
  obtain ⟨h0, h1, h2, h3, h4, h5⟩ := h
  refine ⟨h0, h1, h2, h3, ?_, ?_⟩
  · exact EV.warm (s := U) (U := U.calling g mk a) (State.WarmedH.refl U) h4
  · exact EH.moved (u := U) (U := U.calling g mk a) (Vm.Alike.refl U.vm) h5
/-- a contract's end: it returned -/
def Qg (rv : (Nat → Nat) → Option Value) (B : (Nat → Nat) → State → Prop) (A : Nat → Prop) : Array Value → State → Outcome → State → Prop :=
  fun _ st oc t => (∃ u : Nat → Nat, oc = .returned (rv u) ∧ B u t) ∧ va_F A st t
/-- a method returns -/
def CT (l : Launch) (cd : Cond) (yM : MethodName) (rm : Room) (as : List Value) (ws wa : (Nat → ClassId) → va_W) (rv : (Nat → Nat) → Option Value) (w1 : (Nat → ClassId) → (Nat → Nat) → va_W) : Prop :=
  ∀ (D : va_G) (y : Nat → ClassId) (sz : Nat), Met l yM (cd :: gw) rm (PCx D y as (ws y) (wa y) sz) (Qg rv (fun u t => va_P D vwCl (w1 y u) t.heap ∧ va_D (va_A (wa y) sz) (w1 y u)) (va_A (wa y) sz)) rm.cells rm.slots (va_A (wa y) sz)
/-- a method throws -/
def CX (l : Launch) (cd : Cond) (yM : MethodName) (rm : Room) (as : List Value) (ws wa : (Nat → ClassId) → va_W) (E0 : String) : Prop :=
  ∀ (D : va_G) (y : Nat → ClassId) (sz : Nat), vx_Met l yM (cd :: gw) rm (PCx D y as (ws y) (wa y) sz) (fun _ _ _ _ => False) (fun E st t => E = E0 ∧ va_F (va_A (wa y) sz) st t) rm.cells rm.slots (va_A (wa y) sz)
/-- what stays fixed in a body -/
def FX (p : Program) (e : Env) (s : State) (m : MethodId) (args : Array Value) (meth : Method) (c : Code) (cc : ByteArray) (nL : Nat) (own nm : String) (D : va_G) (y : Nat → ClassId) (A : Nat → Prop) : Prop :=
  (p.tables.exec = Jvm.exec ∧ c.code = cc ∧ c.maxLocals = nL ∧ s.vm.findClass own = some m.cls ∧ ∀ w ∈ gw, w.before args s = true) ∧ EV D y s ∧ EH y A s s.heap ∧ (∀ q : Nat, s.heap.size ≤ q → A q) ∧ meth.locks = false ∧ meth.name = nm
section LYA
variable {l : Launch} {cc : ByteArray} {maxL : Nat} {ret : Option FieldType} {yM : MethodName} {rm : Room} {as : List Value} {ws wa : (Nat → ClassId) → va_W} {rv : (Nat → Nat) → Option Value} {w1 : (Nat → ClassId) → (Nat → Nat) → va_W}
/-- a body that returns -/
theorem mkM (hy : plainName yM.cls = true) (hn : (lg_sl as).length ≤ maxL)
    (body : ∀ (p : Program) (e : Env) (s : State) (m : MethodId) (args : Array Value) (below : List Frame) (meth : Method) (c : Code) (D : va_G) (y : Nat → ClassId) (A : Nat → Prop) (ls : Array Slot),
      FX p e s m args meth c cc maxL yM.cls yM.name D y A → meth.sig.returnType = ret → va_A (wa y) s.heap.size = A → va_P D vwCl (ws y) s.heap → va_D (fun _ => True) (ws y) → va_S A s.heap s.heap [] → lv_has ls maxL (lv_args 0 as) →
      W p l e rm s m args below meth c s.heap [] 0 0 (MQ below (Qg rv (fun u t => va_P D vwCl (w1 y u) t.heap ∧ va_D A (w1 y u)) A) args s rm.cells rm.slots A) (F0 m 0 ls [])) :
    CT l (.code yM cc maxL ret) yM rm as ws wa rv w1 := by
  intro D y sz
  refine Met.ofW (cc := cc) (maxL := maxL) (ret := ret) hy rfl ?_
  intro p e s m args below meth c s₁ B hml hv
  obtain ⟨rfl, hsz, hP, hD, hEV, hEH⟩ := hv
  subst hsz
  have hts := atoms_spec (ws := (Cond.code yM cc maxL ret :: gw)) B.pre
  have hl := lv_entry as hn
  rw [lg_entry_eq]
  have hEH : EH y (va_A (wa y) s.heap.size) s s.heap := hEH
  exact body p e s m _ below meth c D y _ _ ⟨⟨B.exec, B.bytes, hml, findClass_of_methodNamed B.named, fun w h => hts w (List.mem_cons_of_mem _ h)⟩, hEV, hEH, fun q h => Or.inr h, B.notSynchronized, (name_of_methodNamed B.named B.method).1⟩ B.returns rfl hP hD va_S.rf hl
/-- a body that throws -/
theorem mkX {E0 : String} (hy : plainName yM.cls = true) (hn : (lg_sl as).length ≤ maxL)
    (body : ∀ (p : Program) (e : Env) (s : State) (m : MethodId) (args : Array Value) (below : List Frame) (meth : Method) (c : Code) (D : va_G) (y : Nat → ClassId) (A : Nat → Prop) (ls : Array Slot),
      FX p e s m args meth c cc maxL yM.cls yM.name D y A → (∀ x ∈ c.exceptionTable.toList, False) → va_A (wa y) s.heap.size = A → va_P D vwCl (ws y) s.heap → va_D (fun _ => True) (ws y) → va_S A s.heap s.heap [] → lv_has ls maxL (lv_args 0 as) →
      W p l e rm s m args below meth c s.heap [] 0 0 (vx_MQ below (fun _ _ _ _ => False) (fun E st t => E = E0 ∧ va_F A st t) args s rm.cells rm.slots A) (F0 m 0 ls [])) :
    CX l (.code yM cc maxL ret) yM rm as ws wa E0 := by
  intro D y sz
  refine vx_ofW (cc := cc) (maxL := maxL) (ret := ret) hy rfl ?_
  intro p e s m args below meth c s₁ B hml htb hv
  obtain ⟨rfl, hsz, hP, hD, hEV, hEH⟩ := hv
  subst hsz
  have hts := atoms_spec (ws := (Cond.code yM cc maxL ret :: gw)) B.pre
  have hl := lv_entry as hn
  rw [lg_entry_eq]
  exact body p e s m _ below meth c D y _ _ ⟨⟨B.exec, B.bytes, hml, findClass_of_methodNamed B.named, fun w h => hts w (List.mem_cons_of_mem _ h)⟩, hEV, hEH, fun q h => Or.inr h, B.notSynchronized, (name_of_methodNamed B.named B.method).1⟩ htb rfl hP hD va_S.rf hl
end LYA
section LYC
variable {p : Program} {l : Launch} {e : Env} {R : Room} {s : State} {m : MethodId} {args : Array Value} {below : List Frame} {meth : Method} {c : Code} {H : Heap} {locs : List Loc} {cells slots : Nat} {Q : State → Prop}
variable {cc bytes : ByteArray} {nL maxL : Nat} {own nm : String} {D : va_G} {y : Nat → ClassId} {A A0 A1 : Nat → Prop} {pc : Nat} {ls : Array Slot} {st0 rest : List Value} {a : Array Value} {H0 : Heap} {mc ms : Nat} {free : Addr → Prop}
variable {rv : (Nat → Nat) → Option Value} {ret : Option FieldType} {yM : MethodName} {rm : Room}
theorem callG {B : (Nat → Nat) → State → Prop} (hr : va_Run p l e R s m args below meth c H locs cells slots mc ms (F0 m pc ls st0) rest (Qg rv B A1 a) free) (hS : va_S A0 H0 H locs) (hA : ∀ q, q < H.size → A1 q → A0 q) (hf : ∀ q, free q → A0 q)
    (kk : ∀ (u : Nat → Nat) (t : State) (H1 : Heap) (locs1 : List Loc), t.heap = H1 → s.vm.Alike t.vm → B u t → H.size ≤ H1.size → (∀ q : Nat, q < H.size → ¬ A1 q → H1[q]? = H[q]?) → va_S A0 H0 H1 locs1 → W p l e R s m args below meth c H1 locs1 (cells + mc) (slots + ms) Q (F0 m (pc + 3) ls ((rv u).toList ++ rest))) : W p l e R s m args below meth c H locs cells slots Q (F0 m pc ls st0) := by
  intro T hT X
  obtain ⟨v, st₀, t, T', L, h0, X', hL, e1, e2, ⟨⟨u, hv, hb⟩, hz, hk⟩, st⟩ := hr T hT X
  cases hv
  rw [h0] at hz hk
  obtain ⟨t2, a1, b1⟩ := kk u t T'.heap (locs ++ L) e1.symm (by rw [← e2]; exact X'.warmed.alike) hb (by rw [e1]; exact hz) (fun q h1 h2 => by rw [e1]; exact hk q h1 h2)
    ⟨Nat.le_trans hS.1 (by rw [e1]; exact hz), fun q h1 h2 => by rw [e1, hk q (Nat.lt_of_lt_of_le h1 hS.1) (fun z => h2 (hA q (Nat.lt_of_lt_of_le h1 hS.1) z))]; exact hS.2.1 q h1 h2, fun q hq => by
      rcases List.mem_append.mp hq with h | h
      · exact hS.2.2 q h
      · exact hf _ (hL q h)⟩ T' rfl X'
  exact ⟨t2, st t2 a1, b1⟩
/-- behind a call: the caller's cells isR that the callee can't change, and what the callee leaves -/
theorem callJ {ws wa wr : va_W} {w1 : (Nat → Nat) → va_W} (hr : va_Run p l e R s m args below meth c H locs cells slots mc ms (F0 m pc ls st0) rest (Qg rv (fun u t => va_P D vwCl (w1 u) t.heap ∧ va_D (va_A wa H.size) (w1 u)) (va_A wa H.size) a) (va_A wa H.size))
    (hA : ∀ q : Nat, s.heap.size ≤ q → A q) (hP : va_P D vwCl ws H) (hD : va_D A0 ws) (hDA : ∀ q, va_A wa H.size q → A q) (hDB : ∀ q, va_A wa H.size q → A0 q) (hS : va_S A s.heap H locs) (isW isR : List Nat) (hC : isW.map (fun i => ws[i]?) = wa.map some) (hR : isR.map (fun i => ws[i]?) = wr.map some) (hn : va_nd isR = true) (hdis : ∀ i ∈ isR, i ∉ isW)
    (kk : ∀ (u : Nat → Nat) (H1 : Heap) (locs1 : List Loc), va_P D vwCl (wr ++ w1 u) H1 → va_D A0 (wr ++ w1 u) → va_S A s.heap H1 locs1 → W p l e R s m args below meth c H1 locs1 (cells + mc) (slots + ms) Q (F0 m (pc + 3) ls ((rv u).toList ++ rest))) : W p l e R s m args below meth c H locs cells slots Q (F0 m pc ls st0) := by
  refine callG hr hS (fun q _ h => hDA q h) hDA (fun u t H1 locs1 ht hvm hB hz hk hS1 => ?_)
  obtain ⟨hP1, hD1⟩ := hB
  rw [ht] at hP1
  obtain ⟨g1, g2⟩ := va_join hP hD isW isR hC hR hn hdis hk hDB hP1 hD1
  exact kk u H1 locs1 g1 g2 hS1
end LYC
