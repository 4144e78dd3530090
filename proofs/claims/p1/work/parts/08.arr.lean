/-! Own layer, 4: arrays, loops, small numbers -/
def adl : List Nat → Nat → Nat
  | [], _ => 0
  | a :: _, 0 => a
  | _ :: l, k + 1 => adl l k
def fl (c d : Int32) (i : Nat) : Nat → Int32 := fun j => if j < i then c else d
theorem fl_s {c d : Int32} {i j : Nat} (hi : i < 2 ^ 31) : upd (fl c d i) (nI i).toNatClampNeg c j = fl c d (i + 1) j := by
  rw [nI_clamp hi]
  by_cases h : j = i
  · subst h; simp [upd, fl]
  · by_cases h2 : j < i
    · simp [upd, fl, h, h2, Nat.lt_succ_of_lt h2]
    · simp [upd, fl, h, h2, show ¬ j < i + 1 by omega]
theorem nI_inc (i : Nat) : nI i + Int32.ofInt 1 = nI (i + 1) := nI_1 i
theorem vin1 {x : Int32} {n : Nat} (h0 : ¬ x < 0) (h1 : x < nI n) (hn : n < 2 ^ 31) : vp_in x n := by
  rw [vp_in_iff]
  have a := Int32.lt_iff_toInt_lt.mp h1
  have b : ¬ x.toInt < (0 : Int32).toInt := fun q => h0 (Int32.lt_iff_toInt_lt.mpr q)
  rw [nI_toInt hn] at a
  have z : (0 : Int32).toInt = 0 := by decide
  omega
theorem vin2 {x : Int32} {n : Nat} (h0 : ¬ x < 0) (h1 : ¬ nI n ≤ x) (hn : n < 2 ^ 31) : vp_in x n := vin1 h0 (by
  rw [Int32.lt_iff_toInt_lt]
  have b : ¬ (nI n).toInt ≤ x.toInt := fun q => h1 (Int32.le_iff_toInt_le.mpr q)
  omega) hn
theorem vin3 {x : Int32} {n : Nat} (h0 : 0 ≤ x) (h1 : x < nI n) (hn : n < 2 ^ 31) : vp_in x n := vin1 (by
  rw [Int32.lt_iff_toInt_lt]
  have b := Int32.le_iff_toInt_le.mp h0
  omega) h1 hn
theorem arrV_congr {cA : ClassId} {n : Nat} {f g : Nat → Value} (h : ∀ j, j < n → f j = g j) : arrV cA n f = arrV cA n g := by
  unfold arrV
  congr 1
  exact congrArg Array.ofFn (funext fun j => h j.val j.isLt)
theorem same_c {D : va_G} {cl : List vw_C} {A : Nat → Prop} {ws : va_W} {H : Heap} {a : Nat} {cA : ClassId} {n : Nat} {f g : Nat → Int32} (hP : va_P D cl ws H) (hD : va_D A ws) (q0 : Nat) (he : ws[q0]? = some (a, .inl (cA, n, .inl f))) (h : ∀ j, j < n → f j = g j) :
    va_P D cl (ws.set q0 (a, .inl (cA, n, .inl g))) H ∧ va_D A (ws.set q0 (a, .inl (cA, n, .inl g))) := by
  refine ⟨hP.set hD he ?_ (fun q hq => rfl), hD.set he⟩
  have h0 : H[a]? = some (vp_cell cA (n, .inl f)) := hP q0 _ he
  show H[a]? = some (vp_cell cA (n, .inl g))
  rw [h0, vp_cell_i, vp_cell_i]
  exact congrArg some (arrV_congr fun j hj => by rw [h j hj])
theorem same_r {D : va_G} {cl : List vw_C} {A : Nat → Prop} {ws : va_W} {H : Heap} {a : Nat} {cA : ClassId} {n : Nat} {f g : Nat → Option Nat} (hP : va_P D cl ws H) (hD : va_D A ws) (q0 : Nat) (he : ws[q0]? = some (a, .inl (cA, n, .inr (.inr (.inr (.inr f)))))) (h : ∀ j, j < n → f j = g j) :
    va_P D cl (ws.set q0 (a, .inl (cA, n, .inr (.inr (.inr (.inr g)))))) H ∧ va_D A (ws.set q0 (a, .inl (cA, n, .inr (.inr (.inr (.inr g)))))) := by
  refine ⟨hP.set hD he ?_ (fun q hq => rfl), hD.set he⟩
  have h0 : H[a]? = some (vp_cell cA (n, .inr (.inr (.inr (.inr f))))) := hP q0 _ he
  show H[a]? = some (vp_cell cA (n, .inr (.inr (.inr (.inr g)))))
  rw [h0, vp_cell_q, vp_cell_q]
  exact congrArg some (arrV_congr fun j hj => by rw [h j hj])
theorem asg_self (vm : Vm) (c : ClassId) : vm.assignable c c = true := by
  unfold Vm.assignable
  rw [show (256 : Nat) = 255 + 1 from rfl, Vm.assignableAux]
  simp only [beq_self_eq_true, Bool.true_or]
section LYK
variable {p : Program} {l : Launch} {e : Env} {R : Room} {s : State} {m : MethodId} {args : Array Value} {below : List Frame} {meth : Method} {c : Code} {H : Heap} {locs : List Loc} {cells slots : Nat} {Q : State → Prop}
variable {cc : ByteArray} {nL : Nat} {own nm : String} {D : va_G} {y : Nat → ClassId} {A A0 : Nat → Prop} {pc : Nat} {ls : Array Slot} {rest : List Value} {ws : va_W} {a : Nat}
/-- a loop that counts up -/
theorem lp {N : Nat} (Wd : Nat → va_W) (Lv : Nat → List (Nat × Value)) (hP : va_P D vwCl (Wd 0) H) (hD : va_D A0 (Wd 0)) (hS : va_S A s.heap H locs) (hl : lv_has ls nL (Lv 0))
    (hstep : ∀ i, i < N → (∀ (H : Heap) (locs : List Loc) (ls : Array Slot), va_P D vwCl (Wd (i + 1)) H → va_D A0 (Wd (i + 1)) → va_S A s.heap H locs → lv_has ls nL (Lv (i + 1)) → W p l e R s m args below meth c H locs cells slots Q (F0 m pc ls [])) →
      ∀ (H : Heap) (locs : List Loc) (ls : Array Slot), va_P D vwCl (Wd i) H → va_D A0 (Wd i) → va_S A s.heap H locs → lv_has ls nL (Lv i) → W p l e R s m args below meth c H locs cells slots Q (F0 m pc ls []))
    (hend : ∀ (H : Heap) (locs : List Loc) (ls : Array Slot), va_P D vwCl (Wd N) H → va_D A0 (Wd N) → va_S A s.heap H locs → lv_has ls nL (Lv N) → W p l e R s m args below meth c H locs cells slots Q (F0 m pc ls [])) :
    W p l e R s m args below meth c H locs cells slots Q (F0 m pc ls []) := by
  suffices K : ∀ (n i : Nat), i + n = N → ∀ (H : Heap) (locs : List Loc) (ls : Array Slot), va_P D vwCl (Wd i) H → va_D A0 (Wd i) → va_S A s.heap H locs → lv_has ls nL (Lv i) → W p l e R s m args below meth c H locs cells slots Q (F0 m pc ls []) from K N 0 (by omega) H locs ls hP hD hS hl
  intro n
  induction n with
  | zero =>
    intro i hi H locs ls hP hD hS hl
    obtain rfl : i = N := by omega
    exact hend H locs ls hP hD hS hl
  | succ n ih =>
    intro i hi H locs ls hP hD hS hl
    exact hstep i (by omega) (ih (i + 1) (by omega)) H locs ls hP hD hS hl
/-- a new array of a kind that the tables know -/
theorem na_T {N : Nat} (hF : FX p e s m args meth c cc nL own nm D y A) {atype : ArrayType} {ty : FieldType} {t0 : Nat} {cy : ClassId} {a0 : vp_A} (hty : newarray.typeOf atype = ty) (ht : (TYx y)[t0]? = some (cy, ty)) (hra : ∀ c : ClassId, va_RA s c ty → s.vm.findClass ("[" ++ ty.toString) = some c) (ha : ∀ cA : ClassId, vp_cell cA a0 = arrV cA N (fun _ => defaultValue ty))
    (harr : (Cond.arrayClass ty).before args s = true) (hP : va_P D vwCl ws H) (hD : va_D A ws) (hS : va_S A s.heap H locs) {n : Int32} (hn : ¬ n < 0) (hN : n.toNatClampNeg = N) (hbytes : N * componentBytes ty ≤ 536870912) (hcells : cells + 1 ≤ R.cells) (hslots : slots + N ≤ R.slots) (hdg : decode cc pc = .ok (.newarray atype, 2))
    (kk : ∀ (q : Nat) (H1 : Heap), va_P D vwCl (ws ++ [(q, .inl (cy, a0))]) H1 → va_D A (ws ++ [(q, .inl (cy, a0))]) → va_S A s.heap H1 locs → W p l e R s m args below meth c H1 locs (cells + 1) (slots + N) Q (F0 m (pc + 2) ls (.ref q :: rest))) : W p l e R s m args below meth c H locs cells slots Q (F0 m pc ls (.int n :: rest)) := by
  obtain ⟨⟨hx, hb, hml, hown, hts⟩, hev, heh, hA, hlk, hnm⟩ := hF
  refine va_newa hx hb (by rw [hty]; exact harr) hty hev.1 hP hD hS hA ha hn hN hbytes hcells hslots hdg (fun q cA H1 hK1 hP1 hD1 hS1 => ?_)
  have e1 := hra _ (hev.1.2 t0 _ ht).2
  have e2 := hra cA (hK1.2 (TYx y).length (cA, ty) (by rw [List.getElem?_append_right (Nat.le_refl _), Nat.sub_self]; rfl)).2
  have e : cA = cy := Option.some.inj (e2.symm.trans e1)
  subst e
  exact kk q H1 hP1 hD1 hS1
theorem na_int {N : Nat} (hF : FX p e s m args meth c cc nL own nm D y A) (harr : (Cond.arrayClass .int).before args s = true) (hP : va_P D vwCl ws H) (hD : va_D A ws) (hS : va_S A s.heap H locs) {n : Int32} (hn : ¬ n < 0) (hN : n.toNatClampNeg = N) (hbytes : N * componentBytes .int ≤ 536870912) (hcells : cells + 1 ≤ R.cells) (hslots : slots + N ≤ R.slots) (hdg : decode cc pc = .ok (.newarray .int, 2))
    (kk : ∀ (q : Nat) (H1 : Heap), va_P D vwCl (ws ++ [(q, .inl (y 0, N, .inl (fun _ => 0)))]) H1 → va_D A (ws ++ [(q, .inl (y 0, N, .inl (fun _ => 0)))]) → va_S A s.heap H1 locs → W p l e R s m args below meth c H1 locs (cells + 1) (slots + N) Q (F0 m (pc + 2) ls (.ref q :: rest))) : W p l e R s m args below meth c H locs cells slots Q (F0 m pc ls (.int n :: rest)) :=
  na_T (atype := .int) (ty := .int) (cy := y 0) (a0 := (N, .inl (fun _ => 0))) hF rfl (t0 := 0) rfl (fun _ h => h) (fun _ => rfl) harr hP hD hS hn hN hbytes hcells hslots hdg kk
theorem na_char {N : Nat} (hF : FX p e s m args meth c cc nL own nm D y A) (harr : (Cond.arrayClass .char).before args s = true) (hP : va_P D vwCl ws H) (hD : va_D A ws) (hS : va_S A s.heap H locs) {n : Int32} (hn : ¬ n < 0) (hN : n.toNatClampNeg = N) (hbytes : N * componentBytes .char ≤ 536870912) (hcells : cells + 1 ≤ R.cells) (hslots : slots + N ≤ R.slots) (hdg : decode cc pc = .ok (.newarray .char, 2))
    (kk : ∀ (q : Nat) (H1 : Heap), va_P D vwCl (ws ++ [(q, .inl (y 1, N, .inl (fun _ => 0)))]) H1 → va_D A (ws ++ [(q, .inl (y 1, N, .inl (fun _ => 0)))]) → va_S A s.heap H1 locs → W p l e R s m args below meth c H1 locs (cells + 1) (slots + N) Q (F0 m (pc + 2) ls (.ref q :: rest))) : W p l e R s m args below meth c H locs cells slots Q (F0 m pc ls (.int n :: rest)) :=
  na_T (atype := .char) (ty := .char) (cy := y 1) (a0 := (N, .inl (fun _ => 0))) hF rfl (t0 := 1) rfl (fun _ h => h) (fun _ => rfl) harr hP hD hS hn hN hbytes hcells hslots hdg kk
theorem na_boolean {N : Nat} (hF : FX p e s m args meth c cc nL own nm D y A) (harr : (Cond.arrayClass .boolean).before args s = true) (hP : va_P D vwCl ws H) (hD : va_D A ws) (hS : va_S A s.heap H locs) {n : Int32} (hn : ¬ n < 0) (hN : n.toNatClampNeg = N) (hbytes : N * componentBytes .boolean ≤ 536870912) (hcells : cells + 1 ≤ R.cells) (hslots : slots + N ≤ R.slots) (hdg : decode cc pc = .ok (.newarray .boolean, 2))
    (kk : ∀ (q : Nat) (H1 : Heap), va_P D vwCl (ws ++ [(q, .inl (y 3, N, .inl (fun _ => 0)))]) H1 → va_D A (ws ++ [(q, .inl (y 3, N, .inl (fun _ => 0)))]) → va_S A s.heap H1 locs → W p l e R s m args below meth c H1 locs (cells + 1) (slots + N) Q (F0 m (pc + 2) ls (.ref q :: rest))) : W p l e R s m args below meth c H locs cells slots Q (F0 m pc ls (.int n :: rest)) :=
  na_T (atype := .boolean) (ty := .boolean) (cy := y 3) (a0 := (N, .inl (fun _ => 0))) hF rfl (t0 := 3) rfl (fun _ h => h) (fun _ => rfl) harr hP hD hS hn hN hbytes hcells hslots hdg kk
theorem na_long {N : Nat} (hF : FX p e s m args meth c cc nL own nm D y A) (harr : (Cond.arrayClass .long).before args s = true) (hP : va_P D vwCl ws H) (hD : va_D A ws) (hS : va_S A s.heap H locs) {n : Int32} (hn : ¬ n < 0) (hN : n.toNatClampNeg = N) (hbytes : N * componentBytes .long ≤ 536870912) (hcells : cells + 1 ≤ R.cells) (hslots : slots + N ≤ R.slots) (hdg : decode cc pc = .ok (.newarray .long, 2))
    (kk : ∀ (q : Nat) (H1 : Heap), va_P D vwCl (ws ++ [(q, .inl (y 2, N, .inr (.inl (fun _ => 0))))]) H1 → va_D A (ws ++ [(q, .inl (y 2, N, .inr (.inl (fun _ => 0))))]) → va_S A s.heap H1 locs → W p l e R s m args below meth c H1 locs (cells + 1) (slots + N) Q (F0 m (pc + 2) ls (.ref q :: rest))) : W p l e R s m args below meth c H locs cells slots Q (F0 m pc ls (.int n :: rest)) :=
  na_T (atype := .long) (ty := .long) (cy := y 2) (a0 := (N, .inr (.inl (fun _ => 0)))) hF rfl (t0 := 2) rfl (fun _ h => h) (fun _ => rfl) harr hP hD hS hn hN hbytes hcells hslots hdg kk
theorem na_double {N : Nat} (hF : FX p e s m args meth c cc nL own nm D y A) (harr : (Cond.arrayClass .double).before args s = true) (hP : va_P D vwCl ws H) (hD : va_D A ws) (hS : va_S A s.heap H locs) {n : Int32} (hn : ¬ n < 0) (hN : n.toNatClampNeg = N) (hbytes : N * componentBytes .double ≤ 536870912) (hcells : cells + 1 ≤ R.cells) (hslots : slots + N ≤ R.slots) (hdg : decode cc pc = .ok (.newarray .double, 2))
    (kk : ∀ (q : Nat) (H1 : Heap), va_P D vwCl (ws ++ [(q, .inl (y 6, N, .inr (.inr (.inr (.inl (fun _ => 0))))))]) H1 → va_D A (ws ++ [(q, .inl (y 6, N, .inr (.inr (.inr (.inl (fun _ => 0))))))]) → va_S A s.heap H1 locs → W p l e R s m args below meth c H1 locs (cells + 1) (slots + N) Q (F0 m (pc + 2) ls (.ref q :: rest))) : W p l e R s m args below meth c H locs cells slots Q (F0 m pc ls (.int n :: rest)) :=
  na_T (atype := .double) (ty := .double) (cy := y 6) (a0 := (N, .inr (.inr (.inr (.inl (fun _ => 0)))))) hF rfl (t0 := 6) rfl (fun _ h => h) (fun _ => rfl) harr hP hD hS hn hN hbytes hcells hslots hdg kk
/-- new int[n][] -/
theorem na_ii {N index : Nat} (hF : FX p e s m args meth c cc nL own nm D y A) (hcl : (Cond.classLink own index "[I").before args s = true) (hP : va_P D vwCl ws H) (hD : va_D A ws) (hS : va_S A s.heap H locs) {n : Int32} (hn : ¬ n < 0) (hN : n.toNatClampNeg = N) (hbytes : N * 4 ≤ 536870912) (hcells : cells + 1 ≤ R.cells) (hslots : slots + N ≤ R.slots) (hdg : decode cc pc = .ok (.anewarray index, 3))
    (kk : ∀ (q : Nat) (H1 : Heap), va_P D vwCl (ws ++ [(q, .inl (y 4, N, .inr (.inr (.inr (.inr (fun _ => none))))))]) H1 → va_D A (ws ++ [(q, .inl (y 4, N, .inr (.inr (.inr (.inr (fun _ => none))))))]) → va_S A s.heap H1 locs → W p l e R s m args below meth c H1 locs (cells + 1) (slots + N) Q (F0 m (pc + 3) ls (.ref q :: rest))) : W p l e R s m args below meth c H locs cells slots Q (F0 m pc ls (.int n :: rest)) := by
  obtain ⟨⟨hx, hb, hml, hown, hts⟩, hev, heh, hA, hlk, hnm⟩ := hF
  subst hN
  refine W.anewA (t := .int) hx hb hown (show (Cond.classLink own index (FieldType.array .int).toString).before args s = true from hcl) (va_AOA.use hev.2.2.2.2.2.2.1) rfl hdg rfl hn hbytes hcells hslots fun cA kA comp f1 f2 f3 f4 => ?_
  have e1 : s.vm.findClass ("[" ++ (FieldType.array .int).toString) = some (y 4) := (hev.1.2 4 (y 4, .array .int) rfl).2
  have e : cA = y 4 := Option.some.inj (f1.symm.trans e1)
  subst e
  generalize hH1 : H.push ({ cls := y 4, slots := Array.replicate n.toNatClampNeg .null, vm := .none } : Cell) = H1
  have z1 : H1.size = H.size + 1 := by rw [← hH1, Array.size_push]
  have e1 : H1[H.size]? = some (arrV (y 4) n.toNatClampNeg (fun _ => .null)) := by rw [← hH1, Array.getElem?_push_size, ← arrV_new]
  have o1 : ∀ q : Nat, q < H.size → H1[q]? = H[q]? := fun q hq => by rw [← hH1, Array.getElem?_push, if_neg (Nat.ne_of_lt hq)]
  have hk : ∀ (k : Nat) (x : Nat × va_E), ws[k]? = some x → H1[x.1]? = H[x.1]? := fun k x hx => o1 x.1 ((hP k x hx).lt)
  refine kk H.size H1 ((hP.kept hk).app (fun k x hx => ?_)) (hD.push hP rfl (hA _ hS.1)) ⟨Nat.le_trans hS.1 (by omega), fun x h1 h2 => (o1 x (Nat.lt_of_lt_of_le h1 hS.1)).trans (hS.2.1 x h1 h2), hS.2.2⟩
  have hz : k < 1 := (List.getElem?_eq_some_iff.mp hx).1
  rw [show k = 0 by omega] at hx
  cases hx
  show H1[H.size]? = some (vp_cell _ _)
  rw [vp_cell_q]
  exact e1
/-- an array out of an array of arrays -/
theorem ald_A {v : Value} (hF : FX p e s m args meth c cc nL own nm D y A) (hP : va_P D vwCl ws H) (q0 t0 : Nat) {cA : ClassId} {t : FieldType} {n : Nat} {f : Nat → Option Nat} (ha : ws[q0]? = some (a, .inl (cA, n, .inr (.inr (.inr (.inr f)))))) (ht : (TYx y)[t0]? = some (cA, t)) (hrt : t.isReference = true) {i : Int32} (hin : vp_in i n) (hv : va_rf (f i.toNatClampNeg) = v) (hdg : decode cc pc = .ok (.aaload, 1))
    (kk : W p l e R s m args below meth c H locs cells slots Q (F0 m (pc + 1) ls (v :: rest))) : W p l e R s m args below meth c H locs cells slots Q (F0 m pc ls (.int i :: .ref a :: rest)) := by
  obtain ⟨⟨hx, hb, hml, hown, hts⟩, hev, heh, hA, hlk, hnm⟩ := hF
  subst hv
  have hlt : i.toNatClampNeg < n := Nat.not_le.mp fun q => hin (Or.inr q)
  exact W.aald (v := va_rf (f i.toNatClampNeg)) (ty := t) hx hb (hP q0 _ ha) ((hev.1.2 t0 _ ht).1 n (fun j => va_rf (f j))) hrt (fun q => by cases q) (by show ¬ (i < 0 ∨ (arrV _ _ _).slots.size ≤ _); rw [arrV_size]; exact hin) (by show (arrV _ _ _).slots[_]? = _; rw [arrV_read _ _ hlt]) rfl rfl hdg kk
/-- an int array into an array of them -/
theorem ast_A {v : Nat} (hF : FX p e s m args meth c cc nL own nm D y A) (hP : va_P D vwCl ws H) (hD : va_D A ws) (hS : va_S A s.heap H locs) (q0 qk t0 : Nat) {n n2 : Nat} {g : Nat → Int32} {f : Nat → Option Nat} (ha : ws[q0]? = some (a, .inl (y 4, n, .inr (.inr (.inr (.inr f)))))) (hv : ws[qk]? = some (v, .inl (y 0, n2, .inl g))) (ht : t0 = 4) {i : Int32} (hin : vp_in i n) (hdg : decode cc pc = .ok (.aastore, 1))
    (kk : ∀ (H1 : Heap) (locs1 : List Loc), va_P D vwCl (ws.set q0 (a, .inl (y 4, n, .inr (.inr (.inr (.inr (va_up f i.toNatClampNeg (some v)))))))) H1 → va_D A (ws.set q0 (a, .inl (y 4, n, .inr (.inr (.inr (.inr (va_up f i.toNatClampNeg (some v)))))))) → va_S A s.heap H1 locs1 → W p l e R s m args below meth c H1 locs1 cells slots Q (F0 m (pc + 1) ls rest)) : W p l e R s m args below meth c H locs cells slots Q (F0 m pc ls (.ref v :: .int i :: .ref a :: rest)) := by
  obtain ⟨⟨hx, hb, hml, hown, hts⟩, hev, heh, hA, hlk, hnm⟩ := hF
  have hlt : i.toNatClampNeg < n := Nat.not_le.mp fun q => hin (Or.inr q)
  have h0 : ¬ i < 0 := fun q => hin (Or.inl q)
  obtain ⟨kA, k1, k2⟩ := hev.2.2.2.2.2.2.2.2.1
  obtain ⟨-, kv, hkv, -⟩ := (hev.1.2 0 (y 0, .int) rfl).1 n2 (fun j => .int (g j))
  have hcv : H[v]? = some (vp_cell (y 0) (n2, .inl g)) := hP qk _ hv
  refine W.aast hx hb (hP q0 _ ha) (fun q h => by cases h) (fun h => by cases h) k1 k2 rfl hkv ⟨h0, by show _ < (arrV _ _ _).slots.size; rw [arrV_size]; exact hlt⟩ hcv (fun q h => by cases h) hkv (asg_self s.vm (y 0)) rfl rfl hdg fun H1 e z oq => ?_
  refine kk H1 _ (hP.set hD ha ?_ oq) (hD.set ha) (hS.put z oq (hD.2 q0 _ ha))
  show H1[a]? = some (vp_cell _ _)
  rw [e]
  rw [vp_cell_q, vp_cell_q, arrV_store]
  congr 2
  funext q
  by_cases hq : q = i.toNatClampNeg
  · subst hq
    simp [updV, va_up, va_rf]
  · simp [updV, va_up, hq]
end LYK
