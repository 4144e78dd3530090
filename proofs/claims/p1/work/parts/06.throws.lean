/-! Own layer, 3: throws, and what they come to -/
theorem hat_of {D : va_G} {y : Nat → ClassId} {s : State} {args : Array Value} {L : List Cond} (hts : ∀ w ∈ gw, w.before args s = true) (hev : EV D y s) (hg : ∀ w ∈ L.filter goodWord, w ∈ gw) (hf : ∀ w ∈ L.filter (fun w => !goodWord w), w ∈ faceL) : ∀ w ∈ L, w.before args s = true :=
  vx_hat (fun w h => hts w (hg w h)) hf (fun w h => face_use h (hev.2.2.2.2.1 w h))
theorem exg1 : ∀ w ∈ ex1, w ∈ gw := fun _ h => List.mem_append_right _ (List.mem_append_left _ h)
theorem exg2 : ∀ w ∈ ex2, w ∈ gw := fun _ h => List.mem_append_right _ (List.mem_append_right _ (List.mem_append_left _ h))
theorem exg3 : ∀ w ∈ ex3, w ∈ gw := fun _ h => List.mem_append_right _ (List.mem_append_right _ (List.mem_append_right _ (List.mem_append_left _ h)))
theorem exg4 : ∀ w ∈ ex4, w ∈ gw := fun _ h => List.mem_append_right _ (List.mem_append_right _ (List.mem_append_right _ (List.mem_append_right _ (List.mem_append_left _ h))))
theorem exg5 : ∀ w ∈ ex5, w ∈ gw := fun _ h => List.mem_append_right _ (List.mem_append_right _ (List.mem_append_right _ (List.mem_append_right _ (List.mem_append_right _ (List.mem_append_left _ h)))))
theorem exg6 : ∀ w ∈ ex6, w ∈ gw := fun _ h => List.mem_append_right _ (List.mem_append_right _ (List.mem_append_right _ (List.mem_append_right _ (List.mem_append_right _ (List.mem_append_right _ h)))))
theorem exf1 : ∀ w ∈ (vx_atS RX10 107 "java/lang/IllegalStateException" exN).filter (fun w => !goodWord w), w ∈ faceL := by decide +kernel
theorem exf2 : ∀ w ∈ (vx_atS RX10 124 "java/lang/IllegalArgumentException" exN).filter (fun w => !goodWord w), w ∈ faceL := by decide +kernel
theorem exf3 : ∀ w ∈ (nsAt RX10 224).filter (fun w => !goodWord w), w ∈ faceL := by decide +kernel
theorem exf4 : ∀ w ∈ (vx_atS RX10 156 "java/lang/IndexOutOfBoundsException" exN).filter (fun w => !goodWord w), w ∈ faceL := by decide +kernel
theorem exf5 : ∀ w ∈ (vx_atS RX10 233 "java/lang/UnsupportedOperationException" exN).filter (fun w => !goodWord w), w ∈ faceL := by decide +kernel
theorem exf6 : ∀ w ∈ (vx_atS RX10 433 "java/lang/ArithmeticException" exN).filter (fun w => !goodWord w), w ∈ faceL := by decide +kernel
theorem exo1 : ∀ w ∈ vx_atS RX10 107 "java/lang/IllegalStateException" exN, vx_ot w = true := by decide +kernel
theorem exo2 : ∀ w ∈ vx_atS RX10 124 "java/lang/IllegalArgumentException" exN, vx_ot w = true := by decide +kernel
theorem exo3 : ∀ w ∈ nsAt RX10 224, vx_ot w = true := by decide +kernel
theorem exo4 : ∀ w ∈ vx_atS RX10 156 "java/lang/IndexOutOfBoundsException" exN, vx_ot w = true := by decide +kernel
theorem exo5 : ∀ w ∈ vx_atS RX10 233 "java/lang/UnsupportedOperationException" exN, vx_ot w = true := by decide +kernel
theorem exo6 : ∀ w ∈ vx_atS RX10 433 "java/lang/ArithmeticException" exN, vx_ot w = true := by decide +kernel
theorem ot_app {a b : Cond} {L : List Cond} (ha : vx_ot a = true) (hb : vx_ot b = true) (h : ∀ w ∈ L, vx_ot w = true) : ∀ w ∈ a :: b :: L, vx_ot w = true := by
  intro w hw
  rcases List.mem_cons.mp hw with rfl | hw
  · exact ha
  · rcases List.mem_cons.mp hw with rfl | hw
    · exact hb
    · exact h w hw
section LYT
variable {p : Program} {l : Launch} {e : Env} {R : Room} {s : State} {m : MethodId} {args : Array Value} {below : List Frame} {meth : Method} {c : Code} {H : Heap} {locs : List Loc} {cells slots : Nat} {Q : State → Prop}
variable {cc bytes : ByteArray} {nL maxL : Nat} {own nm C : String} {D : va_G} {y : Nat → ClassId} {A A0 A1 : Nat → Prop} {pc index : Nat} {ls : Array Slot} {st0 rest As : List Value} {mc ms : Nat} {free : Addr → Prop}
variable {ret : Option FieldType} {yM : MethodName} {rm : Room} {ws wr : va_W} {wu wa : (Nat → ClassId) → va_W} {b : Addr}
/-- the frame of a throw -/
theorem fr_throw (hS : va_S A s.heap H locs) {E0 : String} : ∀ t : State, s.vm.Alike t.vm → H.size ≤ t.heap.size → (∀ q : Nat, q < H.size → t.heap[q]? = H[q]?) → (fun E st t => E = E0 ∧ va_F A st t) E0 s t :=
  fun t _ h1 h2 => ⟨rfl, Nat.le_trans hS.1 h1, fun q h3 h4 => (h2 q (Nat.lt_of_lt_of_le h3 hS.1)).trans (hS.2.1 q h3 h4)⟩
/-- throw new E("text") -/
theorem th_S {cls text : String} {ik is ic : Nat} (hF : FX p e s m args meth c cc nL RX10 nm D y A) (htb : ∀ x ∈ c.exceptionTable.toList, False) (hl : l.stackTraces = false) (hfit : Bundle.fit cls = true)
    (hk : Cond.classLink RX10 ik cls ∈ gw) (hini : Cond.initialized cls ∈ gw) (hstr : (RX10, is, text) ∈ strL) (hg : ∀ w ∈ (vx_atS RX10 ic cls exN).filter goodWord, w ∈ gw) (hf : ∀ w ∈ (vx_atS RX10 ic cls exN).filter (fun w => !goodWord w), w ∈ faceL) (ho : ∀ w ∈ vx_atS RX10 ic cls exN, vx_ot w = true)
    (hS : va_S A s.heap H locs) (hsize : ls.size = nL) (hst : (rest.map fun v => v.category).sum ≤ 8) (hR : 6 ≤ R.frames ∧ 90 ≤ R.locals) (hRc : cells + 1 ≤ R.cells ∧ slots + 6 ≤ R.slots) (hc : cells + 1 ≤ mc ∧ slots + 6 ≤ ms)
    (d0 : decode cc pc = .ok (.new ik, 3)) (d3 : decode cc (pc + 3) = .ok (.dup, 1)) (d4 : decode cc (pc + 4) = .ok (.ldc is, 2)) (d6 : decode cc (pc + 6) = .ok (.invokespecial ic, 3)) (d9 : decode cc (pc + 9) = .ok (.athrow, 1)) :
    W p l e R s m args below meth c H locs cells slots (vx_MQ below (fun _ _ _ _ => False) (fun E st t => E = cls ∧ va_F A st t) args s mc ms A) (F0 m pc ls rest) := by
  obtain ⟨⟨hx, hb, hml, hown, hts⟩, hev, heh, hA, hlk, hnm⟩ := hF
  obtain ⟨sa, hsa⟩ := hev.2.2.2.1 _ hstr
  exact vx_throwS hx hb hl hown hfit (by decide) (hts _ hk) (hts _ hini) hsa (hat_of hts hev hg hf) (ot_app rfl rfl ho) heh.1 heh.2.1 hS (hsize.trans hml.symm) d0 d3 d4 d6 d9 (fun x h => (htb x h).elim) (by show 2 + 3 < _; omega) (by show _ + (13 * 3 + 43) ≤ _; omega) hRc.1 hRc.2 hlk (fr_throw hS) hS.2.2 hc.1 hc.2
theorem th_W {cls text : String} {ik is ic : Nat} (hF : FX p e s m args meth c cc nL RX10 nm D y A) (htb : ∀ x ∈ c.exceptionTable.toList, False) (hl : l.stackTraces = false) (hfit : Bundle.fit cls = true)
    (hk : Cond.classLink RX10 ik cls ∈ gw) (hini : Cond.initialized cls ∈ gw) (hstr : (RX10, is, text) ∈ strL) (hg : ∀ w ∈ (vx_atS RX10 ic cls exN).filter goodWord, w ∈ gw) (hf : ∀ w ∈ (vx_atS RX10 ic cls exN).filter (fun w => !goodWord w), w ∈ faceL) (ho : ∀ w ∈ vx_atS RX10 ic cls exN, vx_ot w = true)
    (hS : va_S A s.heap H locs) (hsize : ls.size = nL) (hst : (rest.map fun v => v.category).sum ≤ 8) (hR : 6 ≤ R.frames ∧ 90 ≤ R.locals) (hRc : cells + 1 ≤ R.cells ∧ slots + 6 ≤ R.slots) (hc : cells + 1 ≤ mc ∧ slots + 6 ≤ ms)
    (d0 : decode cc pc = .ok (.new ik, 3)) (d3 : decode cc (pc + 3) = .ok (.dup, 1)) (d4 : decode cc (pc + 4) = .ok (.ldc_w is, 3)) (d7 : decode cc (pc + 7) = .ok (.invokespecial ic, 3)) (d10 : decode cc (pc + 10) = .ok (.athrow, 1)) :
    W p l e R s m args below meth c H locs cells slots (vx_MQ below (fun _ _ _ _ => False) (fun E st t => E = cls ∧ va_F A st t) args s mc ms A) (F0 m pc ls rest) := by
  obtain ⟨⟨hx, hb, hml, hown, hts⟩, hev, heh, hA, hlk, hnm⟩ := hF
  obtain ⟨sa, hsa⟩ := hev.2.2.2.1 _ hstr
  exact vx_throwSW hx hb hl hown hfit (by decide) (hts _ hk) (hts _ hini) hsa (hat_of hts hev hg hf) (ot_app rfl rfl ho) heh.1 heh.2.1 hS (hsize.trans hml.symm) d0 d3 d4 d7 d10 (fun x h => (htb x h).elim) (by show 2 + 3 < _; omega) (by show _ + (13 * 3 + 43) ≤ _; omega) hRc.1 hRc.2 hlk (fr_throw hS) hS.2.2 hc.1 hc.2
/-- a callee's throw goes on to the caller -/
theorem x_out {E0 : String} {wa1 : va_W} {a : Array Value} (hF : FX p e s m args meth c cc nL own nm D y A) (htb : ∀ x ∈ c.exceptionTable.toList, False) (hr : vx_Run p l e R s m args below meth c H locs cells slots rm.cells rm.slots (F0 m pc ls st0) rest (fun _ _ _ => False) (fun E st t => E = E0 ∧ va_F (va_A wa1 H.size) st t) (va_A wa1 H.size))
    (hS : va_S A s.heap H locs) (hDA : ∀ q, va_A wa1 H.size q → A q) (hc : cells + rm.cells ≤ mc ∧ slots + rm.slots ≤ ms) :
    W p l e R s m args below meth c H locs cells slots (vx_MQ below (fun _ _ _ _ => False) (fun E st t => E = E0 ∧ va_F A st t) args s mc ms A) (F0 m pc ls st0) := by
  intro T hT X
  rcases hr T hT X with ⟨v, st₀, t, T', L, h0, X', hL, e1, e2, hf, st⟩ | ⟨q, st₀, t, T', L, E, ce, h0, X', hL, e1, e2, ⟨rfl, hFr⟩, hce, hcv, hcl, st⟩
  · exact hf.elim
  · obtain ⟨k1, k2, k3⟩ := vx_keep h0 e1 hS (fun q _ h => hDA q h) hDA hL hFr
    obtain ⟨t2, a1, b1⟩ := vx_out (l := l) (Qc := fun _ _ _ _ => False) (XC := fun E' st t => E' = E ∧ va_F A st t) (pc := pc) (ls := ls) (rest := rest) (fun x h => (htb x h).elim) hF.2.2.2.2.1 (by rw [e1]; exact hce) hcv hcl (fun t ht _ => ⟨rfl, k3.F ht⟩) k3.2.2 hc.1 hc.2 T' rfl X'
    exact ⟨t2, st.trans a1, b1⟩
theorem xV {E0 : String} (hF : FX p e s m args meth c cc nL own nm D y A) (htb : ∀ x ∈ c.exceptionTable.toList, False) (hct : CX l (.code yM bytes maxL ret) yM rm (.ref b :: As) wu wa E0)
    (hg : GoodIn gw (wsV own index C yM (.code yM bytes maxL ret :: gw))) (n : Nat) (hd : yM.cls = C ∧ yM.cls ≠ "java/lang/invoke/MethodHandle" ∧ yM.cls ≠ "java/lang/invoke/VarHandle" ∧ (parseMethodDescriptor yM.desc).map (fun d => d.parameters.length) = some n) (hn : As.length = n)
    (hR : rm.frames + 1 ≤ R.frames ∧ 8 + (maxL + 11) + rm.locals ≤ R.locals) (hl : ls.size = nL) (hst : st0 = As.reverse ++ .ref b :: rest) (hw : (rest.map fun v => v.category).sum ≤ 8) (hdg : decode cc pc = .ok (.invokevirtual index, 3)) (hf : cells + rm.cells ≤ R.cells ∧ slots + rm.slots ≤ R.slots)
    (hP : va_P D vwCl ws H) (hD : va_D A0 ws) (hS : va_S A s.heap H locs) (hDA : ∀ q, va_A (wa y) H.size q → A q)
    (iU : List Nat) (hU : iU.map (fun i => ws[i]?) = (wu y).map some) (hUn : va_nd iU = true) (q0 : Nat) {ci : Nat} {fs : List Value} {q : vw_C} (he : ws[q0]? = some (b, .inr (ci, fs))) (hc : vwCl[ci]? = some q) (hqC : q.1 = C)
    (hcm : cells + rm.cells ≤ mc ∧ slots + rm.slots ≤ ms) :
    W p l e R s m args below meth c H locs cells slots (vx_MQ below (fun _ _ _ _ => False) (fun E st t => E = E0 ∧ va_F A st t) args s mc ms A) (F0 m pc ls st0) := by
  have hF' := hF
  obtain ⟨hcf, hev, heh, hA, hlk, hnm⟩ := hF
  have hrecv := va_recv hev.1 hP hc he
  rw [hqC] at hrecv
  exact x_out (a := #[]) hF' htb (vx_runV (As := As) (rest := rest) hcf (hct D y H.size) (cwV n hcf.2.2.2.2 hg rfl rfl rfl hd hR) ⟨PCx.blind, hrecv, pre_at hev heh hP hD hS hDA hU hUn⟩ rfl hn hl hst (lv_room (pc := 0) (m := m) (ls := ls) (rest := []) hw) hdg hf) hS hDA hcm
/-- a call in a method with a table: the callee throws, a row of the table takes it -/
theorem hV {E0 name : String} (hF : FX p e s m args meth c cc nL own nm D y A) (hct : CX l (.code yM bytes maxL ret) yM rm (.ref b :: As) wu wa E0)
    (hg : GoodIn gw (wsV own index C yM (.code yM bytes maxL ret :: gw))) (n : Nat) (hd : yM.cls = C ∧ yM.cls ≠ "java/lang/invoke/MethodHandle" ∧ yM.cls ≠ "java/lang/invoke/VarHandle" ∧ (parseMethodDescriptor yM.desc).map (fun d => d.parameters.length) = some n) (hn : As.length = n)
    (hR : rm.frames + 1 ≤ R.frames ∧ 8 + (maxL + 11) + rm.locals ≤ R.locals) (hl : ls.size = nL) (hst : st0 = As.reverse ++ .ref b :: rest) (hw : (rest.map fun v => v.category).sum ≤ 8) (hdg : decode cc pc = .ok (.invokevirtual index, 3)) (hf : cells + rm.cells ≤ R.cells ∧ slots + rm.slots ≤ R.slots)
    (hP : va_P D vwCl ws H) (hD : va_D A0 ws) (hS : va_S A s.heap H locs) (hDA : ∀ q, va_A (wa y) H.size q → A q) (hAA : ∀ q, A q → A0 q)
    (iU isW isR : List Nat) (hU : iU.map (fun i => ws[i]?) = (wu y).map some) (hUn : va_nd iU = true) (hC : isW.map (fun i => ws[i]?) = (wa y).map some) (hRr : isR.map (fun i => ws[i]?) = wr.map some) (hRn : va_nd isR = true) (hdis : ∀ i ∈ isR, i ∉ isW)
    (q0 : Nat) {ci : Nat} {fs : List Value} {q : vw_C} (he : ws[q0]? = some (b, .inr (ci, fs))) (hc : vwCl[ci]? = some q) (hqC : q.1 = C)
    (pre : List ExceptionTableEntry) (x : ExceptionTableEntry) (suf : List ExceptionTableEntry) (hsplit : c.exceptionTable.toList = pre ++ x :: suf)
    (hpass : ∀ z ∈ pre, covers z pc = false ∨ (z.catchType ≠ 0 ∧ ∃ nm : String, Cond.classLink own z.catchType nm ∈ gw ∧ (E0, nm) ∈ ncL)) (hx : covers x pc = true) (h0 : x.catchType ≠ 0)
    (hlink : Cond.classLink own x.catchType name ∈ gw) (hcast : Cond.castable E0 name ∈ faceL)
    (kk : ∀ (q9 : Addr) (H1 : Heap) (locs1 : List Loc), va_P D vwCl wr H1 → va_D A0 wr → va_S A s.heap H1 locs1 → W p l e R s m args below meth c H1 locs1 (cells + rm.cells) (slots + rm.slots) Q (F0 m x.handlerPc ls [.ref q9])) :
    W p l e R s m args below meth c H locs cells slots Q (F0 m pc ls st0) := by
  obtain ⟨hcf, hev, heh, hA, hlk, hnm⟩ := hF
  have hrecv := va_recv hev.1 hP hc he
  rw [hqC] at hrecv
  have hr := vx_runV (cells := cells) (slots := slots) (g := F0 m pc ls st0) (l := l) (e := e) (meth := meth) (locs := locs) (As := As) (rest := rest) (below := below) hcf (hct D y H.size) (cwV (R := R) n hcf.2.2.2.2 hg rfl rfl rfl hd hR) ⟨PCx.blind, hrecv, pre_at hev heh hP hD hS hDA hU hUn⟩ rfl hn hl hst (lv_room (pc := 0) (m := m) (ls := ls) (rest := []) hw) hdg hf
  intro T hT X
  rcases hr T hT X with ⟨v, st₀, t, T', L, h0', X', hL, e1, e2, hff, st⟩ | ⟨q, st₀, t, T', L, E, ce, h0', X', hL, e1, e2, ⟨rfl, hFr⟩, hce, hcv, hcl, st⟩
  · exact hff.elim
  · obtain ⟨k1, k2, k3⟩ := vx_keep h0' e1 hS (fun q _ h => hDA q h) hDA hL hFr
    obtain ⟨g1, g2⟩ := va_join (w1 := []) hP hD isW isR hC hRr hRn hdis k2 (fun q h => hAA q (hDA q h)) (fun k q h => by simp at h) d_nil
    rw [List.append_nil] at g1 g2
    obtain ⟨t2, a1, b1⟩ := vx_catch (l := l) (ls := ls) (rest := rest) hcf.2.2.2.1 pre x suf hsplit (fun z hz => (hpass z hz).imp id (fun ⟨a, nm, b, d⟩ => ⟨a, nm, hcf.2.2.2.2 _ b, hev.2.2.2.2.2.1 _ d⟩)) hx h0 (hcf.2.2.2.2 _ hlink) (face_use hcast (hev.2.2.2.2.1 _ hcast)) (by rw [e1]; exact hce) hcv hcl (kk q T'.heap (locs ++ L) g1 g2 k3) T' rfl X'
    exact ⟨t2, st.trans a1, b1⟩
end LYT
section LYH
variable {l : Launch} {cc : ByteArray} {maxL : Nat} {ret : Option FieldType} {yM : MethodName} {rm : Room} {as : List Value} {ws wa : (Nat → ClassId) → va_W} {rv : (Nat → Nat) → Option Value} {w1 : (Nat → ClassId) → (Nat → Nat) → va_W} {hh : List (Nat × Nat × Nat × Nat)}
/-- a body with a table that returns -/
theorem mkH (hy : plainName yM.cls = true) (hn : (lg_sl as).length ≤ maxL)
    (body : ∀ (p : Program) (e : Env) (s : State) (m : MethodId) (args : Array Value) (below : List Frame) (meth : Method) (c : Code) (D : va_G) (y : Nat → ClassId) (A : Nat → Prop) (ls : Array Slot),
      FX p e s m args meth c cc maxL yM.cls yM.name D y A → c.exceptionTable.toList = tableOf hh → meth.sig.returnType = ret → va_A (wa y) s.heap.size = A → va_P D vwCl (ws y) s.heap → va_D (fun _ => True) (ws y) → va_S A s.heap s.heap [] → lv_has ls maxL (lv_args 0 as) →
      W p l e rm s m args below meth c s.heap [] 0 0 (MQ below (Qg rv (fun u t => va_P D vwCl (w1 y u) t.heap ∧ va_D A (w1 y u)) A) args s rm.cells rm.slots A) (F0 m 0 ls [])) :
    CT l (.codeWith yM cc maxL ret hh) yM rm as ws wa rv w1 := by
  intro D y sz
  refine MetFree.of_bodyS (code := cc) (maxLocals := maxL) (ret := ret) hy ?_ ?_
  · intro args s m h hn
    obtain ⟨m9, meth, c, hn9, h1, h2, h3, h4, -, h5, h6, -⟩ := Cond.codeWith_spec (atoms_spec (ws := (Cond.codeWith yM cc maxL ret hh :: gw)) h _ List.mem_cons_self)
    cases hn.symm.trans hn9
    exact ⟨meth, c, h1, h2, h3, h4, h5, h6⟩
  · intro p e s m args below meth c s₁ B hml hv _
    have hh0 : s₁.heap = s.heap := by rw [B.state]; rfl
    obtain ⟨rfl, hsz, hP, hD, hEV, hEH⟩ := hv
    subst hsz
    have hts := atoms_spec (ws := (Cond.codeWith yM cc maxL ret hh :: gw)) B.pre
    have hl := lv_entry as hn
    have hb := body p e s m _ below meth c D y _ _ ⟨⟨B.exec, B.bytes, hml, findClass_of_methodNamed B.named, fun w h => hts w (List.mem_cons_of_mem _ h)⟩, hEV, hEH, fun q h => Or.inr h, B.notSynchronized, (name_of_methodNamed B.named B.method).1⟩ (vx_table (x := yM) B (hts _ List.mem_cons_self)) B.returns rfl hP hD va_S.rf hl
    rw [← lg_entry_eq] at hb
    obtain ⟨t, a1, o, b1, b2, b3⟩ := hb s₁ hh0 (Stand.of_body B)
    exact ⟨t, o, a1, b1, b2, b3⟩
end LYH
section LYI
variable {p : Program} {l : Launch} {e : Env} {R : Room} {s : State} {m : MethodId} {args : Array Value} {below : List Frame} {meth : Method} {c : Code} {H : Heap} {locs : List Loc} {cells slots : Nat} {Q : State → Prop}
variable {cc bytes : ByteArray} {nL maxL : Nat} {own nm C : String} {D : va_G} {y : Nat → ClassId} {A A0 A1 : Nat → Prop} {pc index : Nat} {ls : Array Slot} {st0 rest As : List Value} {mc ms : Nat} {free : Addr → Prop}
variable {rv : (Nat → Nat) → Option Value} {ret : Option FieldType} {yM : MethodName} {rm : Room} {ws wr : va_W} {wu wa : (Nat → ClassId) → va_W} {w1 : (Nat → ClassId) → (Nat → Nat) → va_W} {b : Addr} {hh : List (Nat × Nat × Nat × Nat)}
/-- a static call of a method with a table -/
theorem cH (hF : FX p e s m args meth c cc nL own nm D y A) (hct : CT l (.codeWith yM bytes maxL ret hh) yM rm As wu wa rv w1)
    (hg : GoodIn gw (va_wsS own index yM (.codeWith yM bytes maxL ret hh :: gw))) (n : Nat) (hd : yM.cls ≠ "java/lang/invoke/MethodHandle" ∧ yM.cls ≠ "java/lang/invoke/VarHandle" ∧ (parseMethodDescriptor yM.desc).map (fun d => d.parameters.length) = some n) (hn : As.length = n)
    (hR : rm.frames + 1 ≤ R.frames ∧ 8 + (maxL + 11) + rm.locals ≤ R.locals) (hl : ls.size = nL) (hst : st0 = As.reverse ++ rest) (hw : (rest.map fun v => v.category).sum ≤ 8) (hdg : decode cc pc = .ok (.invokestatic index, 3)) (hf : cells + rm.cells ≤ R.cells ∧ slots + rm.slots ≤ R.slots)
    (hP : va_P D vwCl ws H) (hD : va_D A0 ws) (hS : va_S A s.heap H locs) (hDA : ∀ q, va_A (wa y) H.size q → A q) (hAA : ∀ q, A q → A0 q)
    (iU isW isR : List Nat) (hU : iU.map (fun i => ws[i]?) = (wu y).map some) (hUn : va_nd iU = true) (hC : isW.map (fun i => ws[i]?) = (wa y).map some) (hRr : isR.map (fun i => ws[i]?) = wr.map some) (hRn : va_nd isR = true) (hdis : ∀ i ∈ isR, i ∉ isW)
    (kk : ∀ (u : Nat → Nat) (H1 : Heap) (locs1 : List Loc), va_P D vwCl (wr ++ w1 y u) H1 → va_D A0 (wr ++ w1 y u) → va_S A s.heap H1 locs1 → W p l e R s m args below meth c H1 locs1 (cells + rm.cells) (slots + rm.slots) Q (F0 m (pc + 3) ls ((rv u).toList ++ rest))) :
    W p l e R s m args below meth c H locs cells slots Q (F0 m pc ls st0) := by
  obtain ⟨hcf, hev, heh, hA, hlk, hnm⟩ := hF
  exact callJ (vx_runSW (As := As) (rest := rest) hcf (hct D y H.size) (vx_cwSW n hcf.2.2.2.2 hg rfl rfl rfl hd hR) ⟨PCx.blind, pre_at hev heh hP hD hS hDA hU hUn⟩ rfl hn hl hst (lv_room (pc := 0) (m := m) (ls := ls) (rest := []) hw) hdg hf) hA hP hD hDA (fun q h => hAA q (hDA q h)) hS isW isR hC hRr hRn hdis kk
end LYI

