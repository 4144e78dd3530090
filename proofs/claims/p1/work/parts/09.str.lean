/-! Own layer, 5: the String constant "phm" as a receiver, its bytes as an argument -/
/-- a method that returns, of arguments that lie where the launch has put them -/
def CTy (l : Launch) (cd : Cond) (yM : MethodName) (rm : Room) (as : (Nat → ClassId) → List Value) (ws wa : (Nat → ClassId) → va_W) (rv : (Nat → Nat) → Option Value) (w1 : (Nat → ClassId) → (Nat → Nat) → va_W) : Prop :=
  ∀ (D : va_G) (y : Nat → ClassId) (sz : Nat), Met l yM (cd :: gw) rm (PCx D y (as y) (ws y) (wa y) sz) (Qg rv (fun u t => va_P D vwCl (w1 y u) t.heap ∧ va_D (va_A (wa y) sz) (w1 y u)) (va_A (wa y) sz)) rm.cells rm.slots (va_A (wa y) sz)
section LYSA
variable {l : Launch} {cc : ByteArray} {maxL : Nat} {ret : Option FieldType} {yM : MethodName} {rm : Room} {as : (Nat → ClassId) → List Value} {ws wa : (Nat → ClassId) → va_W} {rv : (Nat → Nat) → Option Value} {w1 : (Nat → ClassId) → (Nat → Nat) → va_W}
theorem mkMy (hy : plainName yM.cls = true) (hn : ∀ y, (lg_sl (as y)).length ≤ maxL)
    (body : ∀ (p : Program) (e : Env) (s : State) (m : MethodId) (args : Array Value) (below : List Frame) (meth : Method) (c : Code) (D : va_G) (y : Nat → ClassId) (A : Nat → Prop) (ls : Array Slot),
      FX p e s m args meth c cc maxL yM.cls yM.name D y A → meth.sig.returnType = ret → va_A (wa y) s.heap.size = A → va_P D vwCl (ws y) s.heap → va_D (fun _ => True) (ws y) → va_S A s.heap s.heap [] → lv_has ls maxL (lv_args 0 (as y)) →
      W p l e rm s m args below meth c s.heap [] 0 0 (MQ below (Qg rv (fun u t => va_P D vwCl (w1 y u) t.heap ∧ va_D A (w1 y u)) A) args s rm.cells rm.slots A) (F0 m 0 ls [])) :
    CTy l (.code yM cc maxL ret) yM rm as ws wa rv w1 := by
  intro D y sz
  refine Met.ofW (cc := cc) (maxL := maxL) (ret := ret) hy rfl ?_
  intro p e s m args below meth c s₁ B hml hv
  obtain ⟨rfl, hsz, hP, hD, hEV, hEH⟩ := hv
  subst hsz
  have hts := atoms_spec (ws := (Cond.code yM cc maxL ret :: gw)) B.pre
  have hl := lv_entry (as y) (hn y)
  rw [lg_entry_eq]
  have hEH : EH y (va_A (wa y) s.heap.size) s s.heap := hEH
  exact body p e s m _ below meth c D y _ _ ⟨⟨B.exec, B.bytes, hml, findClass_of_methodNamed B.named, fun w h => hts w (List.mem_cons_of_mem _ h)⟩, hEV, hEH, fun q h => Or.inr h, B.notSynchronized, (name_of_methodNamed B.named B.method).1⟩ B.returns rfl hP hD va_S.rf hl
end LYSA
section LYSD
variable {p : Program} {l : Launch} {e : Env} {R : Room} {s : State} {m : MethodId} {args : Array Value} {below : List Frame} {meth : Method} {c : Code} {H : Heap} {locs : List Loc} {cells slots : Nat} {Q : State → Prop}
variable {cc bytes : ByteArray} {nL maxL : Nat} {own nm : String} {D : va_G} {y : Nat → ClassId} {A A0 : Nat → Prop} {pc index : Nat} {ls : Array Slot} {st0 rest : List Value} {As : (Nat → ClassId) → List Value}
variable {rv : (Nat → Nat) → Option Value} {ret : Option FieldType} {yM : MethodName} {rm : Room}
theorem cVs (hF : FX p e s m args meth c cc nL own nm D y A) (hct : CTy l (.code yM bytes maxL ret) yM rm (fun y => .ref (y 20) :: As y) (fun _ => []) (fun _ => []) rv (fun _ _ => []))
    (hg : GoodIn gw (wsV own index "java/lang/String" yM (.code yM bytes maxL ret :: gw))) (n : Nat) (hd : yM.cls = "java/lang/String" ∧ yM.cls ≠ "java/lang/invoke/MethodHandle" ∧ yM.cls ≠ "java/lang/invoke/VarHandle" ∧ (parseMethodDescriptor yM.desc).map (fun d => d.parameters.length) = some n) (hn : (As y).length = n)
    (hR : rm.frames + 1 ≤ R.frames ∧ 8 + (maxL + 11) + rm.locals ≤ R.locals) (hl : ls.size = nL) (hst : st0 = (As y).reverse ++ .ref (y 20) :: rest) (hw : (rest.map fun v => v.category).sum ≤ 8) (hdg : decode cc pc = .ok (.invokevirtual index, 3)) (hf : cells + rm.cells ≤ R.cells ∧ slots + rm.slots ≤ R.slots)
    (hP : va_P D vwCl [] H) (hD : va_D A0 []) (hS : va_S A s.heap H locs) (hAA : ∀ q, A q → A0 q)
    (kk : ∀ (u : Nat → Nat) (H1 : Heap) (locs1 : List Loc), va_P D vwCl [] H1 → va_D A0 [] → va_S A s.heap H1 locs1 → W p l e R s m args below meth c H1 locs1 (cells + rm.cells) (slots + rm.slots) Q (F0 m (pc + 3) ls ((rv u).toList ++ rest))) :
    W p l e R s m args below meth c H locs cells slots Q (F0 m pc ls st0) := by
  obtain ⟨hcf, hev, heh, hA, hlk, hnm⟩ := hF
  have hDA : ∀ q, va_A [] H.size q → A q := pA hA hS
  exact callJ (wr := []) (w1 := fun _ => []) (va_runV (As := As y) (rest := rest) hcf (hct D y H.size) (cwV n hcf.2.2.2.2 hg rfl rfl rfl hd hR) ⟨PCx.blind, vk_recv heh.2.2.2 (Nat.zero_lt_one) hS, pre_at (wu := fun _ => []) (wa := fun _ => []) hev heh hP hD hS hDA (iU := []) rfl rfl⟩ rfl hn hl hst (lv_room (pc := 0) (m := m) (ls := ls) (rest := []) hw) hdg hf) hA hP hD hDA (fun q h => hAA q (hDA q h)) hS [] [] rfl rfl rfl (fun _ h => by cases h) kk
theorem cSs (hF : FX p e s m args meth c cc nL own nm D y A) (hct : CTy l (.code yM bytes maxL ret) yM rm As (fun _ => []) (fun _ => []) rv (fun _ _ => []))
    (hg : GoodIn gw (va_wsS own index yM (.code yM bytes maxL ret :: gw))) (n : Nat) (hd : yM.cls ≠ "java/lang/invoke/MethodHandle" ∧ yM.cls ≠ "java/lang/invoke/VarHandle" ∧ (parseMethodDescriptor yM.desc).map (fun d => d.parameters.length) = some n) (hn : (As y).length = n)
    (hR : rm.frames + 1 ≤ R.frames ∧ 8 + (maxL + 11) + rm.locals ≤ R.locals) (hl : ls.size = nL) (hst : st0 = (As y).reverse ++ rest) (hw : (rest.map fun v => v.category).sum ≤ 8) (hdg : decode cc pc = .ok (.invokestatic index, 3)) (hf : cells + rm.cells ≤ R.cells ∧ slots + rm.slots ≤ R.slots)
    (hP : va_P D vwCl [] H) (hD : va_D A0 []) (hS : va_S A s.heap H locs) (hAA : ∀ q, A q → A0 q)
    (kk : ∀ (u : Nat → Nat) (H1 : Heap) (locs1 : List Loc), va_P D vwCl [] H1 → va_D A0 [] → va_S A s.heap H1 locs1 → W p l e R s m args below meth c H1 locs1 (cells + rm.cells) (slots + rm.slots) Q (F0 m (pc + 3) ls ((rv u).toList ++ rest))) :
    W p l e R s m args below meth c H locs cells slots Q (F0 m pc ls st0) := by
  obtain ⟨hcf, hev, heh, hA, hlk, hnm⟩ := hF
  have hDA : ∀ q, va_A [] H.size q → A q := pA hA hS
  exact callJ (wr := []) (w1 := fun _ => []) (va_runS (As := As y) (rest := rest) hcf (hct D y H.size) (va_cwS n hcf.2.2.2.2 hg rfl rfl rfl hd hR) ⟨PCx.blind, pre_at (wu := fun _ => []) (wa := fun _ => []) hev heh hP hD hS hDA (iU := []) rfl rfl⟩ rfl hn hl hst (lv_room (pc := 0) (m := m) (ls := ls) (rest := []) hw) hdg hf) hA hP hD hDA (fun q h => hAA q (hDA q h)) hS [] [] rfl rfl rfl (fun _ h => by cases h) kk
theorem phm_b (heh : EH y A s s.heap) : va_T .byte (y 21) 3 (fun j => .int (([112, 104, 109] : List Int32).getD j 0)) A s s.heap := (heh.2.2.2.1 0 Nat.zero_lt_one).2.2.2
theorem phm_v (heh : EH y A s s.heap) : va_OF "java/lang/String" "value" "[B" (.ref (y 21)) (y 20) A s s.heap := (heh.2.2.2.1 0 Nat.zero_lt_one).2.2.1
theorem phm_c (heh : EH y A s s.heap) : va_OF "java/lang/String" "coder" "B" (.int 0) (y 20) A s s.heap := (heh.2.2.2.1 0 Nat.zero_lt_one).2.1
end LYSD
theorem i2b_n : ∀ n : Nat, n < 256 → ((Int32.ofNat n).toInt8.toInt32 = 112 → n = 112) ∧ ((Int32.ofNat n).toInt8.toInt32 = 104 → n = 104) ∧ ((Int32.ofNat n).toInt8.toInt32 = 109 → n = 109) := by decide +kernel
theorem i2b_ne {x kb : Int32} (h : kb = x.toInt8.toInt32) (h0 : ¬ x < 0) (h1 : ¬ 255 < x) : (¬ x = 112 → ¬ kb = 112) ∧ (¬ x = 104 → ¬ kb = 104) ∧ (¬ x = 109 → ¬ kb = 109) := by
  have a0 : (0 : Int) ≤ x.toInt := by
    have := Int32.le_iff_toInt_le.mp (Int32.not_lt.mp h0)
    simpa using this
  have a1 : x.toInt ≤ 255 := by
    have := Int32.le_iff_toInt_le.mp (Int32.not_lt.mp h1)
    simpa using this
  obtain ⟨n, hn⟩ : ∃ n : Nat, x.toInt = n := ⟨x.toInt.toNat, by omega⟩
  have hx : x = Int32.ofNat n := by
    rw [← Int32.toInt_inj, Int32.toInt_ofNat_of_lt (by omega)]
    exact hn
  subst h
  have hb : n < 256 := by omega
  subst hx
  obtain ⟨b1, b2, b3⟩ := i2b_n n hb
  exact ⟨fun g e => g (by rw [b1 e]; rfl), fun g e => g (by rw [b2 e]; rfl), fun g e => g (by rw [b3 e]; rfl)⟩
