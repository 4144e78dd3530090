/-! Own layer, 5: the String constant "phm" as a receiver, its bytes as an argument -/
/-- a method that returns, of arguments that lie where the launch has put them -/
def CTy (l : Launch) (cd : Cond) (yM : MethodName) (rm : Room) (as : (Nat → ClassId) → List Value) (ws wa : (Nat → ClassId) → va_W) (rv : (Nat → Nat) → Option Value) (w1 : (Nat → ClassId) → (Nat → Nat) → va_W) : Prop :=
  ∀ (D : va_G) (y : Nat → ClassId) (sz : Nat), Met l yM (cd :: gw) rm (PCx D y (as y) (ws y) (wa y) sz) (Qg rv (fun u t => va_P D vwCl (w1 y u) t.heap ∧ va_D (va_A (wa y) sz) (w1 y u)) (va_A (wa y) sz)) rm.cells rm.slots (va_A (wa y) sz)
section LYSA
variable {l : Launch} {cc : ByteArray} {maxL : Nat} {ret : Option FieldType} {yM : MethodName} {rm : Room} {as : (Nat → ClassId) → List Value} {ws wa : (Nat → ClassId) → va_W} {rv : (Nat → Nat) → Option Value} {w1 : (Nat → ClassId) → (Nat → Nat) → va_W}
theorem mkMy (hy : plainName yM.cls = true) (hn : ∀ y, (lg_sl (as y)).length ≤ maxL)
    (body : ∀ (p : Program) (e : Env) (s : State) (m : MethodId) (args : Array Value) (below : List Frame) (meth : Method) (c : Code) (D : va_G) (y : Nat → ClassId) (A : Nat → Prop) (ls : Array Slot),
      FX p e s m args meth c cc maxL yM.cls yM.name D y A → meth.sig.returnType = ret → va_A (wa y) s.heap.size = A → va_P D vwCl (ws y) s.heap → va_D (fun _ => True) (ws y) → va_S A s.heap s.heap [] → lv_has ls maxL (lv_args 0 (as y)) →
      W p l e rm s m args below meth c s.heap [] 0 0 (MQ below (Qg rv (fun u t => va_P D vwCl (w1 y u) t.heap ∧ va_D A (w1 y u)) A) args s rm.cells rm.slots A) (F0 m 0 ls [])) :
    CTy l (.code yM cc maxL ret) yM rm as ws wa rv w1 := by
  intro D y sz
  refine Met.ofW (cc := cc) (maxL := maxL) (ret := ret) hy rfl ?_
  intro p e s m args below meth c s₁ B hml hv
  obtain ⟨rfl, hsz, hP, hD, hEV, hEH⟩ := hv
  subst hsz
  have hts := atoms_spec (ws := (Cond.code yM cc maxL ret :: gw)) B.pre
  have hl := lv_entry (as y) (hn y)
  rw [lg_entry_eq]
  have hEH : EH y (va_A (wa y) s.heap.size) s s.heap := hEH
  exact body p e s m _ below meth c D y _ _ ⟨⟨B.exec, B.bytes, hml, findClass_of_methodNamed B.named, fun w h => hts w (List.mem_cons_of_mem _ h)⟩, hEV, hEH, fun q h => Or.inr h, B.notSynchronized, (name_of_methodNamed B.named B.method).1⟩ B.returns rfl hP hD va_S.rf hl
end LYSA
section LYSD
variable {p : Program} {l : Launch} {e : Env} {R : Room} {s : State} {m : MethodId} {args : Array Value} {below : List Frame} {meth : Method} {c : Code} {H : Heap} {locs : List Loc} {cells slots : Nat} {Q : State → Prop}
variable {cc bytes : ByteArray} {nL maxL : Nat} {own nm : String} {D : va_G} {y : Nat → ClassId} {A A0 : Nat → Prop} {pc index : Nat} {ls : Array Slot} {st0 rest : List Value} {As : (Nat → ClassId) → List Value}
variable {rv : (Nat → Nat) → Option Value} {ret : Option FieldType} {yM : MethodName} {rm : Room}
theorem cVs (hF : FX p e s m args meth c cc nL own nm D y A) (hct : CTy l (.code yM bytes maxL ret) yM rm (fun y => .ref (y 20) :: As y) (fun _ => []) (fun _ => []) rv (fun _ _ => []))
    (hg : GoodIn gw (wsV own index "java/lang/String" yM (.code yM bytes maxL ret :: gw))) (n : Nat) (hd : yM.cls = "java/lang/String" ∧ yM.cls ≠ "java/lang/invoke/MethodHandle" ∧ yM.cls ≠ "java/lang/invoke/VarHandle" ∧ (parseMethodDescriptor yM.desc).map (fun d => d.parameters.length) = some n) (hn : (As y).length = n)
    (hR : rm.frames + 1 ≤ R.frames ∧ 8 + (maxL + 11) + rm.locals ≤ R.locals) (hl : ls.size = nL) (hst : st0 = (As y).reverse ++ .ref (y 20) :: rest) (hw : (rest.map fun v => v.category).sum ≤ 8) (hdg : decode cc pc = .ok (.invokevirtual index, 3)) (hf : cells + rm.cells ≤ R.cells ∧ slots + rm.slots ≤ R.slots)
    (hP : va_P D vwCl [] H) (hD : va_D A0 []) (hS : va_S A s.heap H locs) (hAA : ∀ q, A q → A0 q)
    (kk : ∀ (u : Nat → Nat) (H1 : Heap) (locs1 : List Loc), va_P D vwCl [] H1 → va_D A0 [] → va_S A s.heap H1 locs1 → W p l e R s m args below meth c H1 locs1 (cells + rm.cells) (slots + rm.slots) Q (F0 m (pc + 3) ls ((rv u).toList ++ rest))) :
    W p l e R s m args below meth c H locs cells slots Q (F0 m pc ls st0) := by
  obtain ⟨hcf, hev, heh, hA, hlk, hnm⟩ := hF
  have hDA : ∀ q, va_A [] H.size q → A q := pA hA hS
  exact callJ (wr := []) (w1 := fun _ => []) (va_runV (As := As y) (rest := rest) hcf (hct D y H.size) (cwV n hcf.2.2.2.2 hg rfl rfl rfl hd hR) ⟨PCx.blind, vk_recv heh.2.2.2 (Nat.zero_lt_one) hS, pre_at (wu := fun _ => []) (wa := fun _ => []) hev heh hP hD hS hDA (iU := []) rfl rfl⟩ rfl hn hl hst (lv_room (pc := 0) (m := m) (ls := ls) (rest := []) hw) hdg hf) hA hP hD hDA (fun q h => hAA q (hDA q h)) hS [] [] rfl rfl rfl (fun _ h => by cases h) kk
theorem cSs (hF : FX p e s m args meth c cc nL own nm D y A) (hct : CTy l (.code yM bytes maxL ret) yM rm As (fun _ => []) (fun _ => []) rv (fun _ _ => []))
    (hg : GoodIn gw (va_wsS own index yM (.code yM bytes maxL ret :: gw))) (n : Nat) (hd : yM.cls ≠ "java/lang/invoke/MethodHandle" ∧ yM.cls ≠ "java/lang/invoke/VarHandle" ∧ (parseMethodDescriptor yM.desc).map (fun d => d.parameters.length) = some n) (hn : (As y).length = n)
    (hR : rm.frames + 1 ≤ R.frames ∧ 8 + (maxL + 11) + rm.locals ≤ R.locals) (hl : ls.size = nL) (hst : st0 = (As y).reverse ++ rest) (hw : (rest.map fun v => v.category).sum ≤ 8) (hdg : decode cc pc = .ok (.invokestatic index, 3)) (hf : cells + rm.cells ≤ R.cells ∧ slots + rm.slots ≤ R.slots)
    (hP : va_P D vwCl [] H) (hD : va_D A0 []) (hS : va_S A s.heap H locs) (hAA : ∀ q, A q → A0 q)
    (kk : ∀ (u : Nat → Nat) (H1 : Heap) (locs1 : List Loc), va_P D vwCl [] H1 → va_D A0 [] → va_S A s.heap H1 locs1 → W p l e R s m args below meth c H1 locs1 (cells + rm.cells) (slots + rm.slots) Q (F0 m (pc + 3) ls ((rv u).toList ++ rest))) :
    W p l e R s m args below meth c H locs cells slots Q (F0 m pc ls st0) := by
  obtain ⟨hcf, hev, heh, hA, hlk, hnm⟩ := hF
  have hDA : ∀ q, va_A [] H.size q → A q := pA hA hS
  exact callJ (wr := []) (w1 := fun _ => []) (va_runS (As := As y) (rest := rest) hcf (hct D y H.size) (va_cwS n hcf.2.2.2.2 hg rfl rfl rfl hd hR) ⟨PCx.blind, pre_at (wu := fun _ => []) (wa := fun _ => []) hev heh hP hD hS hDA (iU := []) rfl rfl⟩ rfl hn hl hst (lv_room (pc := 0) (m := m) (ls := ls) (rest := []) hw) hdg hf) hA hP hD hDA (fun q h => hAA q (hDA q h)) hS [] [] rfl rfl rfl (fun _ h => by cases h) kk
theorem phm_b (heh : EH y A s s.heap) : va_T .byte (y 21) 3 (fun j => .int (([112, 104, 109] : List Int32).getD j 0)) A s s.heap := (heh.2.2.2.1 0 Nat.zero_lt_one).2.2.2
theorem phm_v (heh : EH y A s s.heap) : va_OF "java/lang/String" "value" "[B" (.ref (y 21)) (y 20) A s s.heap := (heh.2.2.2.1 0 Nat.zero_lt_one).2.2.1
theorem phm_c (heh : EH y A s s.heap) : va_OF "java/lang/String" "coder" "B" (.int 0) (y 20) A s s.heap := (heh.2.2.2.1 0 Nat.zero_lt_one).2.1
end LYSD
theorem i2b_n : ∀ n : Nat, n < 256 → ((Int32.ofNat n).toInt8.toInt32 = 112 → n = 112) ∧ ((Int32.ofNat n).toInt8.toInt32 = 104 → n = 104) ∧ ((Int32.ofNat n).toInt8.toInt32 = 109 → n = 109) := by decide +kernel
theorem i2b_ne {x kb : Int32} (h : kb = x.toInt8.toInt32) (h0 : ¬ x < 0) (h1 : ¬ 255 < x) : (¬ x = 112 → ¬ kb = 112) ∧ (¬ x = 104 → ¬ kb = 104) ∧ (¬ x = 109 → ¬ kb = 109) := by
  have a0 : (0 : Int) ≤ x.toInt := by
    have := Int32.le_iff_toInt_le.mp (Int32.not_lt.mp h0)
    simpa using this
  have a1 : x.toInt ≤ 255 := by
    have := Int32.le_iff_toInt_le.mp (Int32.not_lt.mp h1)
    simpa using this
  obtain ⟨n, hn⟩ : ∃ n : Nat, x.toInt = n := ⟨x.toInt.toNat, by omega⟩
  have hx : x = Int32.ofNat n := by
    rw [← Int32.toInt_inj, Int32.toInt_ofNat_of_lt (by omega)]
    exact hn
  subst h
  have hb : n < 256 := by omega
  subst hx
  obtain ⟨b1, b2, b3⟩ := i2b_n n hb
  exact ⟨fun g e => g (by rw [b1 e]; rfl), fun g e => g (by rw [b2 e]; rfl), fun g e => g (by rw [b3 e]; rfl)⟩
section LYK2
variable {p : Program} {l : Launch} {e : Env} {R : Room} {s : State} {m : MethodId} {args : Array Value} {below : List Frame} {meth : Method} {c : Code} {H : Heap} {locs : List Loc} {cells slots : Nat} {Q : State → Prop}
variable {cc : ByteArray} {nL : Nat} {own nm : String} {D : va_G} {y : Nat → ClassId} {A A0 : Nat → Prop} {pc : Nat} {ls : Array Slot} {rest : List Value} {ws : va_W} {a : Nat}
/-- a loop that counts up from lo -/
theorem lpF {N lo : Nat} (hlo : lo ≤ N) (Wd : Nat → va_W) (Lv : Nat → List (Nat × Value)) (hP : va_P D vwCl (Wd lo) H) (hD : va_D A0 (Wd lo)) (hS : va_S A s.heap H locs) (hl : lv_has ls nL (Lv lo))
    (hstep : ∀ i, lo ≤ i → i < N → (∀ (H : Heap) (locs : List Loc) (ls : Array Slot), va_P D vwCl (Wd (i + 1)) H → va_D A0 (Wd (i + 1)) → va_S A s.heap H locs → lv_has ls nL (Lv (i + 1)) → W p l e R s m args below meth c H locs cells slots Q (F0 m pc ls [])) →
      ∀ (H : Heap) (locs : List Loc) (ls : Array Slot), va_P D vwCl (Wd i) H → va_D A0 (Wd i) → va_S A s.heap H locs → lv_has ls nL (Lv i) → W p l e R s m args below meth c H locs cells slots Q (F0 m pc ls []))
    (hend : ∀ (H : Heap) (locs : List Loc) (ls : Array Slot), va_P D vwCl (Wd N) H → va_D A0 (Wd N) → va_S A s.heap H locs → lv_has ls nL (Lv N) → W p l e R s m args below meth c H locs cells slots Q (F0 m pc ls [])) :
    W p l e R s m args below meth c H locs cells slots Q (F0 m pc ls []) := by
  suffices K : ∀ (n i : Nat), lo ≤ i → i + n = N → ∀ (H : Heap) (locs : List Loc) (ls : Array Slot), va_P D vwCl (Wd i) H → va_D A0 (Wd i) → va_S A s.heap H locs → lv_has ls nL (Lv i) → W p l e R s m args below meth c H locs cells slots Q (F0 m pc ls []) from K (N - lo) lo (Nat.le_refl _) (by omega) H locs ls hP hD hS hl
  intro n
  induction n with
  | zero =>
    intro i h0 hi H locs ls hP hD hS hl
    obtain rfl : i = N := by omega
    exact hend H locs ls hP hD hS hl
  | succ n ih =>
    intro i h0 hi H locs ls hP hD hS hl
    exact hstep i h0 (by omega) (ih (i + 1) (by omega) (by omega)) H locs ls hP hD hS hl
def va_E0 (cA : ClassId) (N : Nat) (r : Nat → Nat) : va_E := .inl (cA, N, .inr (.inr (.inr (.inr (fun i => if i < N then some (r i) else none)))))
/-- new int[n][k], its rows left out of sight -/
theorem mna_drop {N K index : Nat} (hF : FX p e s m args meth c cc nL own nm D y A) (hcl : (Cond.classLink own index "[[I").before args s = true) (harr : (Cond.arrayClass .int).before args s = true) (hP : va_P D vwCl ws H) (hD : va_D A ws) (hS : va_S A s.heap H locs) {n k : Int32} (hn : ¬ n < 0) (hk : ¬ k < 0) (hN : n.toNatClampNeg = N) (hM : k.toNatClampNeg = K)
    (hb : N * 4 ≤ 536870912) (hb2 : K * 4 ≤ 536870912) (hcells : cells + (1 + N) ≤ R.cells) (hslots : slots + (N + N * K) ≤ R.slots) (hdg : decode cc pc = .ok (.multianewarray index 2, 4))
    (kk : ∀ (q : Nat) (H1 : Heap), va_P D vwCl ws H1 → va_D A ws → va_S A s.heap H1 locs → W p l e R s m args below meth c H1 locs (cells + 1 + N) (slots + N + N * K) Q (F0 m (pc + 4) ls (.ref q :: rest))) : W p l e R s m args below meth c H locs cells slots Q (F0 m pc ls (.int k :: .int n :: rest)) := by
  obtain ⟨⟨hx, hcc, hml, hown, hts⟩, hev, heh, hA, hlk, hnm⟩ := hF
  have e1 : ws = ws ++ va_pl [] (fun _ => .inl (y 0, 0, .inl (fun _ => 0))) := (List.append_nil ws).symm
  rw [e1] at hP hD
  refine va_mna (cy := y 0) (z := (K, .inl (fun _ => 0))) hx hcc hown hcl hev.2.2.2.2.2.2.1 harr (hev.1.2 0 (y 0, .int) rfl).2 hev.1 hP hD hS hA hn hk hN hM hb hb2 (by omega) rfl rfl hcells hslots (fun c => by rw [vp_cell_i, ← arrV_new]; rfl) hdg (fun q r cA H1 _ _ _ hP1 hD1 hS1 => ?_)
  have hg : ∀ (i : Nat) (x : Nat × va_E), ws[i]? = some x → ((ws ++ [(q, va_E0 cA N r)]) ++ va_pl ([] ++ (List.range N).map r) (vr_up (fun _ => .inl (y 0, 0, .inl (fun _ => 0))) ((List.range N).map r) (.inl (y 0, K, .inl (fun _ => 0)))))[i]? = some x := fun i x hx => by
    rw [List.append_assoc, List.getElem?_append_left (List.getElem?_eq_some_iff.mp hx).1]
    exact hx
  exact kk q H1 (fun i x hx => hP1 i x (hg i x hx)) ⟨fun i j p q h1 h2 => hD1.1 i j p q (hg i p h1) (hg j q h2), fun k x h => hD1.2 k x (hg k x h)⟩ hS1
/-- new boolean[9][9] -/
theorem mna_b9 {index : Nat} (hF : FX p e s m args meth c cc nL own nm D y A) (hcl : (Cond.classLink own index "[[Z").before args s = true) (harr : (Cond.arrayClass .boolean).before args s = true) (hP : va_P D vwCl ws H) (hD : va_D A ws) (hS : va_S A s.heap H locs)
    (hcells : cells + 10 ≤ R.cells) (hslots : slots + 90 ≤ R.slots) (hdg : decode cc pc = .ok (.multianewarray index 2, 4))
    (kk : ∀ (q : Nat) (r : Nat → Nat) (H1 : Heap), va_P D vwCl (ws ++ [(q, .inl (y 5, 9, .inr (.inr (.inr (.inr (fun i => [r 0, r 1, r 2, r 3, r 4, r 5, r 6, r 7, r 8][i]?)))))), (r 0, .inl (y 3, 9, .inl (fun _ => 0))), (r 1, .inl (y 3, 9, .inl (fun _ => 0))), (r 2, .inl (y 3, 9, .inl (fun _ => 0))), (r 3, .inl (y 3, 9, .inl (fun _ => 0))), (r 4, .inl (y 3, 9, .inl (fun _ => 0))), (r 5, .inl (y 3, 9, .inl (fun _ => 0))), (r 6, .inl (y 3, 9, .inl (fun _ => 0))), (r 7, .inl (y 3, 9, .inl (fun _ => 0))), (r 8, .inl (y 3, 9, .inl (fun _ => 0)))]) H1 →
      va_D A (ws ++ [(q, .inl (y 5, 9, .inr (.inr (.inr (.inr (fun i => [r 0, r 1, r 2, r 3, r 4, r 5, r 6, r 7, r 8][i]?)))))), (r 0, .inl (y 3, 9, .inl (fun _ => 0))), (r 1, .inl (y 3, 9, .inl (fun _ => 0))), (r 2, .inl (y 3, 9, .inl (fun _ => 0))), (r 3, .inl (y 3, 9, .inl (fun _ => 0))), (r 4, .inl (y 3, 9, .inl (fun _ => 0))), (r 5, .inl (y 3, 9, .inl (fun _ => 0))), (r 6, .inl (y 3, 9, .inl (fun _ => 0))), (r 7, .inl (y 3, 9, .inl (fun _ => 0))), (r 8, .inl (y 3, 9, .inl (fun _ => 0)))]) → va_S A s.heap H1 locs →
      W p l e R s m args below meth c H1 locs (cells + 10) (slots + 90) Q (F0 m (pc + 4) ls (.ref q :: rest))) : W p l e R s m args below meth c H locs cells slots Q (F0 m pc ls (.int 9 :: .int 9 :: rest)) := by
  obtain ⟨⟨hx, hcc, hml, hown, hts⟩, hev, heh, hA, hlk, hnm⟩ := hF
  have e1 : ws = ws ++ va_pl [] (fun _ => .inl (y 3, 9, .inl (fun _ => 0))) := (List.append_nil ws).symm
  rw [e1] at hP hD
  refine va_mna (cy := y 3) (z := (9, .inl (fun _ => 0))) hx hcc hown hcl hev.2.2.2.2.2.2.2.1 harr (hev.1.2 3 (y 3, .boolean) rfl).2 hev.1 hP hD hS hA (N' := 9) (K' := 9) (by decide) (by decide) (by decide) (by decide) (by decide) (by decide) (by decide) rfl rfl hcells hslots (fun c => by rw [vp_cell_i, ← arrV_new]; rfl) hdg (fun q r cA H1 _ _ hK1 hP1 hD1 hS1 => ?_)
  have e2 := (hev.1.2 5 (y 5, .array .boolean) rfl).2
  have e3 := (hK1.2 (TYx y).length (cA, .array .boolean) (by rw [List.getElem?_append_right (Nat.le_refl _), Nat.sub_self]; rfl)).2
  have e : cA = y 5 := Option.some.inj (e3.symm.trans e2)
  subst e
  have f1 : (fun i => if i < 9 then some (r i) else none) = (fun i => [r 0, r 1, r 2, r 3, r 4, r 5, r 6, r 7, r 8][i]?) := funext fun i => by
    by_cases h : i < 9
    · rcases (show i = 0 ∨ i = 1 ∨ i = 2 ∨ i = 3 ∨ i = 4 ∨ i = 5 ∨ i = 6 ∨ i = 7 ∨ i = 8 by omega) with rfl | rfl | rfl | rfl | rfl | rfl | rfl | rfl | rfl <;> rfl
    · rw [if_neg h, List.getElem?_eq_none (by simp; omega)]
  have f2 : va_pl ([] ++ (List.range 9).map r) (vr_up (fun _ => .inl (y 3, 9, .inl (fun _ => 0))) ((List.range 9).map r) (.inl (y 3, 9, .inl (fun _ => 0)))) = va_pl ([] ++ (List.range 9).map r) (fun _ => .inl (y 3, 9, .inl (fun _ => 0))) := va_pl_congr fun a => by
    unfold vr_up
    split <;> rfl
  rw [f1, f2, List.append_assoc] at hP1 hD1
  exact kk q r H1 hP1 hD1 hS1
end LYK2
theorem int_nI {x : Int32} {n : Nat} (hn : n < 2 ^ 31) (h0 : ¬ x < 0) (h1 : ¬ nI n ≤ x) : ∃ i : Nat, i < n ∧ x = nI i := by
  have a0 : (0 : Int) ≤ x.toInt := by
    have := Int32.le_iff_toInt_le.mp (Int32.not_lt.mp h0)
    simpa using this
  have a1 : x.toInt < (nI n).toInt := Int32.lt_iff_toInt_lt.mp (Int32.not_le.mp h1)
  rw [nI_toInt hn] at a1
  refine ⟨x.toInt.toNat, by omega, ?_⟩
  rw [← Int32.toInt_inj, nI_toInt (by omega)]
  omega
theorem in81_n : ∀ i, i < 9 → ∀ j, j < 9 → ¬ ((9 * nI i + nI j : Int32) < 0 ∨ 81 ≤ (9 * nI i + nI j : Int32).toNatClampNeg) := by decide +kernel
theorem in81 {a b : Int32} (a0 : ¬ a < 0) (a1 : ¬ 9 ≤ a) (b0 : ¬ b < 0) (b1 : ¬ 9 ≤ b) : vp_in (9 * a + b) 81 := by
  obtain ⟨i, hi, rfl⟩ := int_nI (n := 9) (by decide) a0 a1
  obtain ⟨j, hj, rfl⟩ := int_nI (n := 9) (by decide) b0 b1
  exact in81_n i hi j hj
theorem sp9 {a : Int32} (a0 : ¬ a < 0) (a1 : ¬ 8 < a) : a = 0 ∨ a = 1 ∨ a = 2 ∨ a = 3 ∨ a = 4 ∨ a = 5 ∨ a = 6 ∨ a = 7 ∨ a = 8 := by
  obtain ⟨i, hi, rfl⟩ := int_nI (n := 9) (by decide) a0 (fun h => a1 (by
    rw [Int32.lt_iff_toInt_lt]
    have := Int32.le_iff_toInt_le.mp h
    have e9 : (nI 9).toInt = 9 := by decide
    have e8 : (8 : Int32).toInt = 8 := by decide
    omega))
  rcases (show i = 0 ∨ i = 1 ∨ i = 2 ∨ i = 3 ∨ i = 4 ∨ i = 5 ∨ i = 6 ∨ i = 7 ∨ i = 8 by omega) with rfl | rfl | rfl | rfl | rfl | rfl | rfl | rfl | rfl <;> decide
theorem or512 : ∀ i, i < 512 → ∀ o, o < 9 → ¬ ((nI i ||| nI (2 ^ o)) < 0 ∨ 512 ≤ (nI i ||| nI (2 ^ o)).toNatClampNeg) := by decide +kernel
theorem xr512 : ∀ i, i < 512 → ∀ o, o < 9 → ¬ ((nI i ^^^ nI (2 ^ o)) < 0 ∨ 512 ≤ (nI i ^^^ nI (2 ^ o)).toNatClampNeg) := by decide +kernel
theorem low9_n : ∀ i, i < 512 → 1 ≤ i → ¬ ((nI i >>> 0) &&& 1 = 0 ∧ (nI i >>> 1) &&& 1 = 0 ∧ (nI i >>> 2) &&& 1 = 0 ∧ (nI i >>> 3) &&& 1 = 0 ∧ (nI i >>> 4) &&& 1 = 0 ∧ (nI i >>> 5) &&& 1 = 0 ∧ (nI i >>> 6) &&& 1 = 0 ∧ (nI i >>> 7) &&& 1 = 0 ∧ (nI i >>> 8) &&& 1 = 0) := by decide +kernel
theorem low9 (i : Nat) (h0 : 1 ≤ i) (h1 : i < 512) (a0 : (nI i >>> 0) &&& 1 = 0) (a1 : (nI i >>> 1) &&& 1 = 0) (a2 : (nI i >>> 2) &&& 1 = 0) (a3 : (nI i >>> 3) &&& 1 = 0) (a4 : (nI i >>> 4) &&& 1 = 0) (a5 : (nI i >>> 5) &&& 1 = 0) (a6 : (nI i >>> 6) &&& 1 = 0) (a7 : (nI i >>> 7) &&& 1 = 0) (a8 : (nI i >>> 8) &&& 1 = 0) : False :=
  low9_n i h1 h0 ⟨a0, a1, a2, a3, a4, a5, a6, a7, a8⟩
theorem up_c {c d : Int32} {k j : Nat} (h : d = c) : upd (fun _ => c) k d j = c := by
  subst h
  simp [upd]
theorem up_l {c d : Int64} {k j : Nat} (h : d = c) : vp_updL (fun _ => c) k d j = c := by
  subst h
  simp [vp_updL]
theorem same_l {D : va_G} {cl : List vw_C} {A : Nat → Prop} {ws : va_W} {H : Heap} {a : Nat} {cA : ClassId} {n : Nat} {f g : Nat → Int64} (hP : va_P D cl ws H) (hD : va_D A ws) (q0 : Nat) (he : ws[q0]? = some (a, .inl (cA, n, .inr (.inl f)))) (h : ∀ j, j < n → f j = g j) :
    va_P D cl (ws.set q0 (a, .inl (cA, n, .inr (.inl g)))) H ∧ va_D A (ws.set q0 (a, .inl (cA, n, .inr (.inl g)))) := by
  refine ⟨hP.set hD he ?_ (fun q hq => rfl), hD.set he⟩
  have h0 : H[a]? = some (vp_cell cA (n, .inr (.inl f))) := hP q0 _ he
  show H[a]? = some (vp_cell cA (n, .inr (.inl g)))
  rw [h0, vp_cell_l, vp_cell_l]
  exact congrArg some (arrV_congr fun j hj => by rw [h j hj])
