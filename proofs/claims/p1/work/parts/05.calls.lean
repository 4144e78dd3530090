/-! Own layer, 2: calls, ends, throws -/
theorem gdC {cd : Cond} (h : cd ∈ gw) : GoodIn gw (cd :: gw) := fun w hw => (List.mem_cons.mp hw).elim (fun e => by subst e; exact ⟨h, good_of_word (gwg _ h)⟩) (fun h => ⟨h, good_of_word (gwg _ h)⟩)
theorem gdV {own C : String} {idx : Nat} {y : MethodName} {cd : Cond} (h1 : Cond.methodLink own idx y ∈ gw) (h2 : Cond.instanceMethod y ∈ gw) (h3 : Cond.selects C y y ∈ gw) (h4 : Cond.initialized C ∈ gw) (h5 : cd ∈ gw) : GoodIn gw (wsV own idx C y (cd :: gw)) := by
  intro w hw
  rcases List.mem_append.mp hw with h | h
  · simp only [List.mem_cons, List.not_mem_nil, or_false] at h
    rcases h with rfl | rfl | rfl | rfl
    · exact ⟨h1, good_of_word (gwg _ h1)⟩
    · exact ⟨h2, good_of_word (gwg _ h2)⟩
    · exact ⟨h3, good_of_word (gwg _ h3)⟩
    · exact ⟨h4, good_of_word (gwg _ h4)⟩
  · exact gdC h5 w h
theorem gdS {own : String} {idx : Nat} {y : MethodName} {cd : Cond} (h1 : Cond.methodLink own idx y ∈ gw) (h2 : Cond.static y ∈ gw) (h4 : Cond.initialized y.cls ∈ gw) (h5 : cd ∈ gw) : GoodIn gw (va_wsS own idx y (cd :: gw)) := by
  intro w hw
  rcases List.mem_append.mp hw with h | h
  · simp only [List.mem_cons, List.not_mem_nil, or_false] at h
    rcases h with rfl | rfl | rfl
    · exact ⟨h1, good_of_word (gwg _ h1)⟩
    · exact ⟨h2, good_of_word (gwg _ h2)⟩
    · exact ⟨h4, good_of_word (gwg _ h4)⟩
  · exact gdC h5 w h
theorem pick_sub {ws wu : va_W} {is : List Nat} (h : is.map (fun i => ws[i]?) = wu.map some) : is.filterMap (fun i => ws[i]?) = wu := by
  have e : is.filterMap (fun i => ws[i]?) = (is.map (fun i => ws[i]?)).filterMap id := by rw [List.filterMap_map]; rfl
  rw [e, h, List.filterMap_map]
  show List.filterMap some wu = wu
  exact List.filterMap_some
section LYD
variable {p : Program} {l : Launch} {e : Env} {R : Room} {s : State} {m : MethodId} {args : Array Value} {below : List Frame} {meth : Method} {c : Code} {H : Heap} {locs : List Loc} {cells slots : Nat} {Q : State → Prop}
variable {cc bytes : ByteArray} {nL maxL : Nat} {own nm C : String} {D : va_G} {y : Nat → ClassId} {A A0 A1 : Nat → Prop} {pc index : Nat} {ls : Array Slot} {st0 rest As : List Value} {a : Array Value} {H0 : Heap} {mc ms : Nat} {free : Addr → Prop}
variable {rv : (Nat → Nat) → Option Value} {ret : Option FieldType} {yM : MethodName} {rm : Room} {ws wr : va_W} {wu wa : (Nat → ClassId) → va_W} {w1 : (Nat → ClassId) → (Nat → Nat) → va_W} {b : Addr}
/-- what a callee asks, at the call -/
theorem pre_at (hev : EV D y s) (heh : EH y A s s.heap) {as : List Value} (hP : va_P D vwCl ws H) (hD : va_D A0 ws) (hS : va_S A s.heap H locs) (hDA : ∀ q, va_A (wa y) H.size q → A q) {iU : List Nat} (hU : iU.map (fun i => ws[i]?) = (wu y).map some) (hUn : va_nd iU = true) :
    ∀ U : State, U.heap = H → s.WarmedH U.vm → PCx D y as (wu y) (wa y) H.size as.toArray U := by
  intro U hUH hW
  refine ⟨rfl, by rw [hUH], ?_, (hD.sub iU hUn hU).weaken (fun _ _ _ _ => trivial), EV.warm hW hev, ?_⟩
  · rw [hUH]; exact hP.sub iU (pick_sub hU)
  · rw [hUH]; exact EH.moved hW.alike (EH.narrow (EH.kept heh hS.2.1) hDA)
/-- a callee that changes nothing -/
theorem pA (hA : ∀ q : Nat, s.heap.size ≤ q → A q) (hS : va_S A s.heap H locs) : ∀ q, va_A [] H.size q → A q := fun q h => by
  rcases h with ⟨k, e, h⟩ | h
  · simp at h
  · exact hA q (Nat.le_trans hS.1 h)
theorem cV (hF : FX p e s m args meth c cc nL own nm D y A) (hct : CT l (.code yM bytes maxL ret) yM rm (.ref b :: As) wu wa rv w1)
    (hg : GoodIn gw (wsV own index C yM (.code yM bytes maxL ret :: gw))) (n : Nat) (hd : yM.cls = C ∧ yM.cls ≠ "java/lang/invoke/MethodHandle" ∧ yM.cls ≠ "java/lang/invoke/VarHandle" ∧ (parseMethodDescriptor yM.desc).map (fun d => d.parameters.length) = some n) (hn : As.length = n)
    (hR : rm.frames + 1 ≤ R.frames ∧ 8 + (maxL + 11) + rm.locals ≤ R.locals) (hl : ls.size = nL) (hst : st0 = As.reverse ++ .ref b :: rest) (hw : (rest.map fun v => v.category).sum ≤ 8) (hdg : decode cc pc = .ok (.invokevirtual index, 3)) (hf : cells + rm.cells ≤ R.cells ∧ slots + rm.slots ≤ R.slots)
    (hP : va_P D vwCl ws H) (hD : va_D A0 ws) (hS : va_S A s.heap H locs) (hDA : ∀ q, va_A (wa y) H.size q → A q) (hAA : ∀ q, A q → A0 q)
    (iU isW isR : List Nat) (hU : iU.map (fun i => ws[i]?) = (wu y).map some) (hUn : va_nd iU = true) (hC : isW.map (fun i => ws[i]?) = (wa y).map some) (hRr : isR.map (fun i => ws[i]?) = wr.map some) (hRn : va_nd isR = true) (hdis : ∀ i ∈ isR, i ∉ isW)
    (q0 : Nat) {ci : Nat} {fs : List Value} {q : vw_C} (he : ws[q0]? = some (b, .inr (ci, fs))) (hc : vwCl[ci]? = some q) (hqC : q.1 = C)
    (kk : ∀ (u : Nat → Nat) (H1 : Heap) (locs1 : List Loc), va_P D vwCl (wr ++ w1 y u) H1 → va_D A0 (wr ++ w1 y u) → va_S A s.heap H1 locs1 → W p l e R s m args below meth c H1 locs1 (cells + rm.cells) (slots + rm.slots) Q (F0 m (pc + 3) ls ((rv u).toList ++ rest))) :
    W p l e R s m args below meth c H locs cells slots Q (F0 m pc ls st0) := by
  obtain ⟨hcf, hev, heh, hA, hlk, hnm⟩ := hF
  have hrecv := va_recv hev.1 hP hc he
  rw [hqC] at hrecv
  exact callJ (va_runV (As := As) (rest := rest) hcf (hct D y H.size) (cwV n hcf.2.2.2.2 hg rfl rfl rfl hd hR) ⟨PCx.blind, hrecv, pre_at hev heh hP hD hS hDA hU hUn⟩ rfl hn hl hst (lv_room (pc := 0) (m := m) (ls := ls) (rest := []) hw) hdg hf) hA hP hD hDA (fun q h => hAA q (hDA q h)) hS isW isR hC hRr hRn hdis kk
theorem cS (hF : FX p e s m args meth c cc nL own nm D y A) (hct : CT l (.code yM bytes maxL ret) yM rm As wu wa rv w1)
    (hg : GoodIn gw (va_wsS own index yM (.code yM bytes maxL ret :: gw))) (n : Nat) (hd : yM.cls ≠ "java/lang/invoke/MethodHandle" ∧ yM.cls ≠ "java/lang/invoke/VarHandle" ∧ (parseMethodDescriptor yM.desc).map (fun d => d.parameters.length) = some n) (hn : As.length = n)
    (hR : rm.frames + 1 ≤ R.frames ∧ 8 + (maxL + 11) + rm.locals ≤ R.locals) (hl : ls.size = nL) (hst : st0 = As.reverse ++ rest) (hw : (rest.map fun v => v.category).sum ≤ 8) (hdg : decode cc pc = .ok (.invokestatic index, 3)) (hf : cells + rm.cells ≤ R.cells ∧ slots + rm.slots ≤ R.slots)
    (hP : va_P D vwCl ws H) (hD : va_D A0 ws) (hS : va_S A s.heap H locs) (hDA : ∀ q, va_A (wa y) H.size q → A q) (hAA : ∀ q, A q → A0 q)
    (iU isW isR : List Nat) (hU : iU.map (fun i => ws[i]?) = (wu y).map some) (hUn : va_nd iU = true) (hC : isW.map (fun i => ws[i]?) = (wa y).map some) (hRr : isR.map (fun i => ws[i]?) = wr.map some) (hRn : va_nd isR = true) (hdis : ∀ i ∈ isR, i ∉ isW)
    (kk : ∀ (u : Nat → Nat) (H1 : Heap) (locs1 : List Loc), va_P D vwCl (wr ++ w1 y u) H1 → va_D A0 (wr ++ w1 y u) → va_S A s.heap H1 locs1 → W p l e R s m args below meth c H1 locs1 (cells + rm.cells) (slots + rm.slots) Q (F0 m (pc + 3) ls ((rv u).toList ++ rest))) :
    W p l e R s m args below meth c H locs cells slots Q (F0 m pc ls st0) := by
  obtain ⟨hcf, hev, heh, hA, hlk, hnm⟩ := hF
  exact callJ (va_runS (As := As) (rest := rest) hcf (hct D y H.size) (va_cwS n hcf.2.2.2.2 hg rfl rfl rfl hd hR) ⟨PCx.blind, pre_at hev heh hP hD hS hDA hU hUn⟩ rfl hn hl hst (lv_room (pc := 0) (m := m) (ls := ls) (rest := []) hw) hdg hf) hA hP hD hDA (fun q h => hAA q (hDA q h)) hS isW isR hC hRr hRn hdis kk
theorem cI (hF : FX p e s m args meth c cc nL own nm D y A) (hct : CT l (.code yM bytes maxL none) yM rm (.ref b :: As) wu wa rv w1)
    (q5 : Cond.code yM bytes maxL none ∈ gw) (q1 : Cond.methodLink own index yM ∈ gw) (q2 : Cond.instanceMethod yM ∈ gw) (q4 : Cond.initialized yM.cls ∈ gw) (n : Nat) (hd : yM.cls ≠ "java/lang/invoke/MethodHandle" ∧ yM.cls ≠ "java/lang/invoke/VarHandle" ∧ (parseMethodDescriptor yM.desc).map (fun d => d.parameters.length) = some n) (hy1 : yM.name = "<init>") (hn : As.length = n)
    (hR : rm.frames + 1 ≤ R.frames ∧ 8 + (maxL + 11) + rm.locals ≤ R.locals) (hl : ls.size = nL) (hst : st0 = As.reverse ++ .ref b :: rest) (hw : (rest.map fun v => v.category).sum ≤ 8) (hdg : decode cc pc = .ok (.invokespecial index, 3)) (hf : cells + rm.cells ≤ R.cells ∧ slots + rm.slots ≤ R.slots)
    (hP : va_P D vwCl ws H) (hD : va_D A0 ws) (hS : va_S A s.heap H locs) (hDA : ∀ q, va_A (wa y) H.size q → A q) (hAA : ∀ q, A q → A0 q)
    (iU isW isR : List Nat) (hU : iU.map (fun i => ws[i]?) = (wu y).map some) (hUn : va_nd iU = true) (hC : isW.map (fun i => ws[i]?) = (wa y).map some) (hRr : isR.map (fun i => ws[i]?) = wr.map some) (hRn : va_nd isR = true) (hdis : ∀ i ∈ isR, i ∉ isW)
    (kk : ∀ (u : Nat → Nat) (H1 : Heap) (locs1 : List Loc), va_P D vwCl (wr ++ w1 y u) H1 → va_D A0 (wr ++ w1 y u) → va_S A s.heap H1 locs1 → W p l e R s m args below meth c H1 locs1 (cells + rm.cells) (slots + rm.slots) Q (F0 m (pc + 3) ls ((rv u).toList ++ rest))) :
    W p l e R s m args below meth c H locs cells slots Q (F0 m pc ls st0) := by
  obtain ⟨hcf, hev, heh, hA, hlk, hnm⟩ := hF
  exact callJ (va_runI (As := As) (rest := rest) hcf (hct D y H.size) (cwI n hcf.2.2.2.2 (gdC q5) rfl rfl rfl (hcf.2.2.2.2 _ q4) (hcf.2.2.2.2 _ q1) (hcf.2.2.2.2 _ q2) hy1 hd hR) ⟨PCx.blind, pre_at hev heh hP hD hS hDA hU hUn⟩ rfl hn hl hst (lv_room (pc := 0) (m := m) (ls := ls) (rest := []) hw) hdg hf) hA hP hD hDA (fun q h => hAA q (hDA q h)) hS isW isR hC hRr hRn hdis kk
theorem cN (hF : FX p e s m args meth c cc nL own nm D y A) (hct : CT l (.code yM bytes maxL none) yM rm (.ref b :: As) wu wa rv w1)
    (q5 : Cond.code yM bytes maxL none ∈ gw) (q1 : (own, index, yM) ∈ nestM) (q2 : Cond.instanceMethod yM ∈ gw) (q4 : Cond.initialized yM.cls ∈ gw) (n : Nat) (hd : yM.cls ≠ "java/lang/invoke/MethodHandle" ∧ yM.cls ≠ "java/lang/invoke/VarHandle" ∧ (parseMethodDescriptor yM.desc).map (fun d => d.parameters.length) = some n) (hy1 : yM.name = "<init>") (hn : As.length = n)
    (hR : rm.frames + 1 ≤ R.frames ∧ 8 + (maxL + 11) + rm.locals ≤ R.locals) (hl : ls.size = nL) (hst : st0 = As.reverse ++ .ref b :: rest) (hw : (rest.map fun v => v.category).sum ≤ 8) (hdg : decode cc pc = .ok (.invokespecial index, 3)) (hf : cells + rm.cells ≤ R.cells ∧ slots + rm.slots ≤ R.slots)
    (hP : va_P D vwCl ws H) (hD : va_D A0 ws) (hS : va_S A s.heap H locs) (hDA : ∀ q, va_A (wa y) H.size q → A q) (hAA : ∀ q, A q → A0 q)
    (iU isW isR : List Nat) (hU : iU.map (fun i => ws[i]?) = (wu y).map some) (hUn : va_nd iU = true) (hC : isW.map (fun i => ws[i]?) = (wa y).map some) (hRr : isR.map (fun i => ws[i]?) = wr.map some) (hRn : va_nd isR = true) (hdis : ∀ i ∈ isR, i ∉ isW)
    (kk : ∀ (u : Nat → Nat) (H1 : Heap) (locs1 : List Loc), va_P D vwCl (wr ++ w1 y u) H1 → va_D A0 (wr ++ w1 y u) → va_S A s.heap H1 locs1 → W p l e R s m args below meth c H1 locs1 (cells + rm.cells) (slots + rm.slots) Q (F0 m (pc + 3) ls ((rv u).toList ++ rest))) :
    W p l e R s m args below meth c H locs cells slots Q (F0 m pc ls st0) := by
  obtain ⟨hcf, hev, heh, hA, hlk, hnm⟩ := hF
  exact callJ (va_runIN (As := As) (rest := rest) hcf (hct D y H.size) ⟨va_cnB n hcf.2.2.2.2 (gdC q5) rfl rfl rfl (hev.2.2.1 _ q1) (hcf.2.2.2.2 _ q4) hd hR, hy1, hcf.2.2.2.2 _ q2⟩ ⟨PCx.blind, pre_at hev heh hP hD hS hDA hU hUn⟩ rfl hn hl hst (lv_room (pc := 0) (m := m) (ls := ls) (rest := []) hw) hdg hf) hA hP hD hDA (fun q h => hAA q (hDA q h)) hS isW isR hC hRr hRn hdis kk
end LYD
section LYE
variable {p : Program} {l : Launch} {e : Env} {R : Room} {s : State} {m : MethodId} {args : Array Value} {below : List Frame} {meth : Method} {c : Code} {H : Heap} {locs : List Loc} {cells slots : Nat} {Q : State → Prop}
variable {cc : ByteArray} {nL : Nat} {own nm : String} {D : va_G} {y : Nat → ClassId} {A : Nat → Prop} {pc : Nat} {ls : Array Slot} {ws : va_W} {rv : (Nat → Nat) → Option Value} {w1 : (Nat → Nat) → va_W}
/-- the end of a body: its value, its cells -/
theorem qg_end (hS : va_S A s.heap H locs) (u : Nat → Nat) {r : Option Value} (hr : rv u = r) (is : List Nat) (hP : va_P D vwCl ws H) (hs : is.map (fun i => ws[i]?) = (w1 u).map some) (hD : va_D A (w1 u)) :
    ∀ t : State, t.heap = H → s.WarmedH t.vm → Qg rv (fun u t => va_P D vwCl (w1 u) t.heap ∧ va_D A (w1 u)) A args s (.returned r) t := by
  intro t ht _
  exact ⟨⟨u, by rw [hr], by rw [ht]; exact hP.sub is (pick_sub hs), hD⟩, hS.F ht⟩
theorem d_nil : va_D A [] := ⟨fun i j p q h => by simp at h, fun k q h => by simp at h⟩
theorem e_i {k n : Nat} {v : Int32} (hF : FX p e s m args meth c cc nL own nm D y A) (hr : meth.sig.returnType = some .int) (hk : cells ≤ k) (hn : slots ≤ n) (hS : va_S A s.heap H locs)
    (hq : ∀ t : State, t.heap = H → s.WarmedH t.vm → Qg rv (fun u t => va_P D vwCl (w1 u) t.heap ∧ va_D A (w1 u)) A args s (.returned (some (.int v))) t) (hdg : decode cc pc = .ok (.ireturn, 1)) :
    W p l e R s m args below meth c H locs cells slots (MQ below (Qg rv (fun u t => va_P D vwCl (w1 u) t.heap ∧ va_D A (w1 u)) A) args s k n A) (F0 m pc ls [.int v]) :=
  W.widen hk hn (W.iret hF.1.1 hF.1.2.1 hr hq hS.2.2 hdg hF.2.2.2.2.1)
theorem e_z {k n : Nat} {v : Int32} {ty : FieldType} (hF : FX p e s m args meth c cc nL own nm D y A) (hr : meth.sig.returnType = some ty) (hv : narrow ty (.int v) = .int v) (hk : cells ≤ k) (hn : slots ≤ n) (hS : va_S A s.heap H locs)
    (hq : ∀ t : State, t.heap = H → s.WarmedH t.vm → Qg rv (fun u t => va_P D vwCl (w1 u) t.heap ∧ va_D A (w1 u)) A args s (.returned (some (.int v))) t) (hdg : decode cc pc = .ok (.ireturn, 1)) :
    W p l e R s m args below meth c H locs cells slots (MQ below (Qg rv (fun u t => va_P D vwCl (w1 u) t.heap ∧ va_D A (w1 u)) A) args s k n A) (F0 m pc ls [.int v]) :=
  W.widen hk hn (W.zret hF.1.1 hF.1.2.1 hr hv hq hS.2.2 hdg hF.2.2.2.2.1)
theorem e_l {k n : Nat} {v : Int64} (hF : FX p e s m args meth c cc nL own nm D y A) (hr : meth.sig.returnType = some .long) (hk : cells ≤ k) (hn : slots ≤ n) (hS : va_S A s.heap H locs)
    (hq : ∀ t : State, t.heap = H → s.WarmedH t.vm → Qg rv (fun u t => va_P D vwCl (w1 u) t.heap ∧ va_D A (w1 u)) A args s (.returned (some (.long v))) t) (hdg : decode cc pc = .ok (.lreturn, 1)) :
    W p l e R s m args below meth c H locs cells slots (MQ below (Qg rv (fun u t => va_P D vwCl (w1 u) t.heap ∧ va_D A (w1 u)) A) args s k n A) (F0 m pc ls [.long v]) :=
  W.widen hk hn (W.lret hF.1.1 hF.1.2.1 hr hq hS.2.2 hdg hF.2.2.2.2.1)
theorem e_f {k n : Nat} {v : UInt32} (hF : FX p e s m args meth c cc nL own nm D y A) (hr : meth.sig.returnType = some .float) (hk : cells ≤ k) (hn : slots ≤ n) (hS : va_S A s.heap H locs)
    (hq : ∀ t : State, t.heap = H → s.WarmedH t.vm → Qg rv (fun u t => va_P D vwCl (w1 u) t.heap ∧ va_D A (w1 u)) A args s (.returned (some (.float v))) t) (hdg : decode cc pc = .ok (.freturn, 1)) :
    W p l e R s m args below meth c H locs cells slots (MQ below (Qg rv (fun u t => va_P D vwCl (w1 u) t.heap ∧ va_D A (w1 u)) A) args s k n A) (F0 m pc ls [.float v]) :=
  W.widen hk hn (W.fret hF.1.1 hF.1.2.1 hr hq hS.2.2 hdg hF.2.2.2.2.1)
theorem e_d {k n : Nat} {v : UInt64} (hF : FX p e s m args meth c cc nL own nm D y A) (hr : meth.sig.returnType = some .double) (hk : cells ≤ k) (hn : slots ≤ n) (hS : va_S A s.heap H locs)
    (hq : ∀ t : State, t.heap = H → s.WarmedH t.vm → Qg rv (fun u t => va_P D vwCl (w1 u) t.heap ∧ va_D A (w1 u)) A args s (.returned (some (.double v))) t) (hdg : decode cc pc = .ok (.dreturn, 1)) :
    W p l e R s m args below meth c H locs cells slots (MQ below (Qg rv (fun u t => va_P D vwCl (w1 u) t.heap ∧ va_D A (w1 u)) A) args s k n A) (F0 m pc ls [.double v]) :=
  W.widen hk hn (W.dret hF.1.1 hF.1.2.1 hr hq hS.2.2 hdg hF.2.2.2.2.1)
theorem e_v {k n : Nat} (hF : FX p e s m args meth c cc nL own nm D y A) (hr : meth.sig.returnType = none) (hk : cells ≤ k) (hn : slots ≤ n) (hS : va_S A s.heap H locs)
    (hq : ∀ t : State, t.heap = H → s.WarmedH t.vm → Qg rv (fun u t => va_P D vwCl (w1 u) t.heap ∧ va_D A (w1 u)) A args s (.returned none) t) (hdg : decode cc pc = .ok (.return_, 1)) :
    W p l e R s m args below meth c H locs cells slots (MQ below (Qg rv (fun u t => va_P D vwCl (w1 u) t.heap ∧ va_D A (w1 u)) A) args s k n A) (F0 m pc ls []) :=
  W.widen hk hn (W.vret hF.1.1 hF.1.2.1 hr hq hS.2.2 hdg hF.2.2.2.2.1)
theorem e_a {k n : Nat} {a : Addr} {rt : FieldType} (hF : FX p e s m args meth c cc nL own nm D y A) (hr : meth.sig.returnType = some rt) (hrt : (∃ n, rt = .object n) ∨ ∃ t, rt = .array t) (hk : cells ≤ k) (hn : slots ≤ n) (hS : va_S A s.heap H locs)
    (hq : ∀ t : State, t.heap = H → s.WarmedH t.vm → Qg rv (fun u t => va_P D vwCl (w1 u) t.heap ∧ va_D A (w1 u)) A args s (.returned (some (.ref a))) t) (hdg : decode cc pc = .ok (.areturn, 1)) :
    W p l e R s m args below meth c H locs cells slots (MQ below (Qg rv (fun u t => va_P D vwCl (w1 u) t.heap ∧ va_D A (w1 u)) A) args s k n A) (F0 m pc ls [.ref a]) :=
  W.widen hk hn (W.aret hF.1.1 hF.1.2.1 hr hrt (Or.inr ⟨a, rfl⟩) hq hS.2.2 hdg hF.2.2.2.2.1)
/-- a constant in the place of a number -/
theorem tp_i {x v : Int32} {rest : List Value} (h : x = v) (k : W p l e R s m args below meth c H locs cells slots Q (F0 m pc ls (.int v :: rest))) : W p l e R s m args below meth c H locs cells slots Q (F0 m pc ls (.int x :: rest)) := by subst h; exact k
theorem tp_l {x v : Int64} {rest : List Value} (h : x = v) (k : W p l e R s m args below meth c H locs cells slots Q (F0 m pc ls (.long v :: rest))) : W p l e R s m args below meth c H locs cells slots Q (F0 m pc ls (.long x :: rest)) := by subst h; exact k
end LYE
