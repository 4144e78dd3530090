set_option maxHeartbeats 4000000 in
set_option maxRecDepth 100000 in
theorem c4_X2_has (l : Launch) (a0 : Nat) (z0 : Nat) (z1 : Nat) (z2 : Nat) (p0 : Int32) : CT l (.code yX2_has cX2_has 2 (some .boolean)) yX2_has { frames := 0, cells := 0, slots := 0, locals := 0 } [.ref a0, .int p0] (fun y => [(a0, .inr (4, [.int 0, .ref z0, .ref z1, .ref z2]))]) (fun _ => []) (fun u => some (.int 0)) (fun y u => []) := by
  refine mkM (by decide) (Nat.le_of_ble_eq_true rfl) ?_
  intro p e s m args below meth c D y A ls hF hr hAe hP hD hS hl
  have hF : FX p e s m args meth c cX2_has 2 RX2 "has" D y A := hF
  obtain ⟨⟨hx, hb, hml, hown, hts⟩, hev, heh, hA, hlk, hnm⟩ := id hF
  have hK := hev.1
  have hP : va_P D vwCl [(a0, .inr (4, [.int 0, .ref z0, .ref z1, .ref z2]))] s.heap := hP
  have hD : va_D (fun _ => True) [(a0, .inr (4, [.int 0, .ref z0, .ref z1, .ref z2]))] := hD
  have hl : lv_has ls 2 [(0, .ref a0), (1, .int p0)] := hl
  refine lv_iload_n hx hb dX2_has_0 rfl (lv_at hl 1 rfl) ?_
  refine lv_if_lt (tgt := 22) hx hb dX2_has_1 (by decide) (fun c_1 => ?_) (fun c_1 => ?_)
  · refine lv_iconst (v := 0) hx hb dX2_has_22 (by decide) ?_
    exact e_z hF hr (by decide) (Nat.le_of_ble_eq_true rfl) (Nat.le_of_ble_eq_true rfl) hS (qg_end hS (fun _ => 0) rfl [] hP rfl d_nil) dX2_has_23
  · refine lv_iload_n hx hb dX2_has_4 rfl (lv_at hl 1 rfl) ?_
    refine lv_aload_n hx hb dX2_has_5 rfl (lv_at hl 0 rfl) ?_
    refine va_get (D := D) (ci := 4) (v := .int 0) (C := RX2) (T := TX2) (N := 4) hx hb hts inX2 hown hK hP 0 rfl rfl 0 (by decide) (hts _ q_2) (fun _ h9 => h9) rfl dX2_has_6 ?_
    refine lv_icmp_ge (tgt := 22) hx hb dX2_has_9 (by decide) (fun _ => ?_) (fun c => absurd (by have e0 : (0 : Int32).toInt = 0 := (by decide); have h9 := c_1; simp only [Int32.lt_iff_toInt_lt, Int32.le_iff_toInt_le, ← Int32.toInt_inj, e0] at h9 ⊢; omega) c)
    refine lv_iconst (v := 0) hx hb dX2_has_22 (by decide) ?_
    exact e_z hF hr (by decide) (Nat.le_of_ble_eq_true rfl) (Nat.le_of_ble_eq_true rfl) hS (qg_end hS (fun _ => 0) rfl [] hP rfl d_nil) dX2_has_23

set_option maxHeartbeats 4000000 in
set_option maxRecDepth 100000 in
theorem c3_X10_needHouse (l : Launch) (hlt : l.stackTraces = false) (a0 : Nat) (a1 : Nat) (a2 : Nat) (z0 : Nat) (z1 : Nat) (z2 : Nat) (z3 : Nat) (z4 : Nat) (z5 : Nat) (z6 : Nat) (z7 : Nat) (z8 : Nat) (z9 : Nat) (z10 : Nat) (z11 : Nat) (z12 : Nat) (z13 : Nat) (z14 : Nat) (z15 : Nat) (z16 : Nat) (z17 : Nat) (z18 : Nat) (p0 : Int32) : CX l (.code yX10_needHouse cX10_needHouse 2 none) yX10_needHouse { frames := 6, cells := 1, slots := 6, locals := 90 } [.ref a0, .int p0] (fun y => [(a0, .inr (12, [.ref a1, .ref z0, .ref z1, .ref z2, .ref z3, .ref z4, .ref z5, .ref z6, .ref z7, .ref z8, .ref z9, .ref z10, .ref z11, .ref z12, .ref z13])), (a1, .inr (5, [.ref z14, .ref a2, .ref z15])), (a2, .inr (4, [.int 0, .ref z16, .ref z17, .ref z18]))]) (fun _ => []) "java/util/NoSuchElementException" := by
  refine mkX (by decide) (Nat.le_of_ble_eq_true rfl) ?_
  intro p e s m args below meth c D y A ls hF htb hAe hP hD hS hl
  have hF : FX p e s m args meth c cX10_needHouse 2 RX10 "needHouse" D y A := hF
  obtain ⟨⟨hx, hb, hml, hown, hts⟩, hev, heh, hA, hlk, hnm⟩ := id hF
  have hK := hev.1
  have hP : va_P D vwCl [(a0, .inr (12, [.ref a1, .ref z0, .ref z1, .ref z2, .ref z3, .ref z4, .ref z5, .ref z6, .ref z7, .ref z8, .ref z9, .ref z10, .ref z11, .ref z12, .ref z13])), (a1, .inr (5, [.ref z14, .ref a2, .ref z15])), (a2, .inr (4, [.int 0, .ref z16, .ref z17, .ref z18]))] s.heap := hP
  have hD : va_D (fun _ => True) [(a0, .inr (12, [.ref a1, .ref z0, .ref z1, .ref z2, .ref z3, .ref z4, .ref z5, .ref z6, .ref z7, .ref z8, .ref z9, .ref z10, .ref z11, .ref z12, .ref z13])), (a1, .inr (5, [.ref z14, .ref a2, .ref z15])), (a2, .inr (4, [.int 0, .ref z16, .ref z17, .ref z18]))] := hD
  have hl : lv_has ls 2 [(0, .ref a0), (1, .int p0)] := hl
  refine lv_aload_n hx hb dX10_needHouse_0 rfl (lv_at hl 0 rfl) ?_
  refine va_get (D := D) (ci := 12) (v := .ref a1) (C := RX10) (T := TX10) (N := 15) hx hb hts inX10 hown hK hP 0 rfl rfl 0 (by decide) (hts _ q_1) (fun _ h9 => h9) rfl dX10_needHouse_1 ?_
  refine va_getN (D := D) (ci := 5) (v := .ref a2) (C := RX3) (T := TX3) (N := 3) hx hb hts inX3 hown hK hP 1 rfl rfl 1 (by decide) (va_Nw.use (A := args) rfl (hev.2.1 (RX10, 368, RX3, "houses", "LStablepairBureau$Lists;") (List.mem_of_getElem? (i := 12) rfl))) (fun _ h9 => h9) rfl dX10_needHouse_4 ?_
  refine lv_iload_n hx hb dX10_needHouse_7 rfl (lv_at hl 1 rfl) ?_
  refine cV (l := l) (yM := yX2_has) (C := RX2) (As := [.int p0]) (rest := []) (wr := [(a0, .inr (12, [.ref a1, .ref z0, .ref z1, .ref z2, .ref z3, .ref z4, .ref z5, .ref z6, .ref z7, .ref z8, .ref z9, .ref z10, .ref z11, .ref z12, .ref z13])), (a1, .inr (5, [.ref z14, .ref a2, .ref z15])), (a2, .inr (4, [.int 0, .ref z16, .ref z17, .ref z18]))]) hF (c4_X2_has l a2 z16 z17 z18 p0) gv_RX10_216 1 (by decide +kernel) rfl ⟨(Nat.le_of_ble_eq_true rfl), (Nat.le_of_ble_eq_true rfl)⟩ hl.1 rfl (Nat.le_of_ble_eq_true rfl) dX10_needHouse_8 ⟨(Nat.le_of_ble_eq_true rfl), (Nat.le_of_ble_eq_true rfl)⟩ hP hD hS (pA hA hS) (fun _ _ => trivial) [2] [] [0, 1, 2] rfl rfl rfl rfl rfl (by decide) 2 (ci := 4) rfl rfl rfl (fun u_1 H locs hP hD hS => ?_)
  have hP : va_P D vwCl [(a0, .inr (12, [.ref a1, .ref z0, .ref z1, .ref z2, .ref z3, .ref z4, .ref z5, .ref z6, .ref z7, .ref z8, .ref z9, .ref z10, .ref z11, .ref z12, .ref z13])), (a1, .inr (5, [.ref z14, .ref a2, .ref z15])), (a2, .inr (4, [.int 0, .ref z16, .ref z17, .ref z18]))] H := hP
  have hD : va_D (fun _ => True) [(a0, .inr (12, [.ref a1, .ref z0, .ref z1, .ref z2, .ref z3, .ref z4, .ref z5, .ref z6, .ref z7, .ref z8, .ref z9, .ref z10, .ref z11, .ref z12, .ref z13])), (a1, .inr (5, [.ref z14, .ref a2, .ref z15])), (a2, .inr (4, [.int 0, .ref z16, .ref z17, .ref z18]))] := hD
  refine W.widen (k := 0) (n := 0) (Nat.le_of_ble_eq_true rfl) (Nat.le_of_ble_eq_true rfl) ?_
  refine W.eq (g2 := F0 m 11 ls [.int 0]) rfl ?_
  refine lv_if_ne (tgt := 25) hx hb dX10_needHouse_11 (by decide) (fun c => absurd (by decide) c) (fun _ => ?_)
  exact th_N (text := "no such house") hF htb hlt q_8 q_9 (List.mem_of_getElem? (i := 2) rfl) exg3 exf3 exo3 hS hl.1 (Nat.le_of_ble_eq_true rfl) ⟨(Nat.le_of_ble_eq_true rfl), (Nat.le_of_ble_eq_true rfl)⟩ ⟨(Nat.le_of_ble_eq_true rfl), (Nat.le_of_ble_eq_true rfl)⟩ ⟨(Nat.le_of_ble_eq_true rfl), (Nat.le_of_ble_eq_true rfl)⟩ dX10_needHouse_14 dX10_needHouse_17 dX10_needHouse_18 dX10_needHouse_21 dX10_needHouse_24

set_option maxHeartbeats 4000000 in
set_option maxRecDepth 100000 in
theorem c2_X10_places (l : Launch) (hlt : l.stackTraces = false) (a0 : Nat) (a1 : Nat) (a2 : Nat) (z0 : Nat) (z1 : Nat) (z2 : Nat) (z3 : Nat) (z4 : Nat) (z5 : Nat) (z6 : Nat) (z7 : Nat) (z8 : Nat) (z9 : Nat) (z10 : Nat) (z11 : Nat) (z12 : Nat) (z13 : Nat) (z14 : Nat) (z15 : Nat) (z16 : Nat) (z17 : Nat) (z18 : Nat) (p0 : Int32) (p1 : Int32) : CX l (.code yX10_places cX10_places 4 (some .int)) yX10_places { frames := 7, cells := 1, slots := 6, locals := 111 } [.ref a0, .int p0, .int p1] (fun y => [(a0, .inr (12, [.ref a1, .ref z0, .ref z1, .ref z2, .ref z3, .ref z4, .ref z5, .ref z6, .ref z7, .ref z8, .ref z9, .ref z10, .ref z11, .ref z12, .ref z13])), (a1, .inr (5, [.ref z14, .ref a2, .ref z15])), (a2, .inr (4, [.int 0, .ref z16, .ref z17, .ref z18]))]) (fun _ => []) "java/util/NoSuchElementException" := by
  refine mkX (by decide) (Nat.le_of_ble_eq_true rfl) ?_
  intro p e s m args below meth c D y A ls hF htb hAe hP hD hS hl
  have hF : FX p e s m args meth c cX10_places 4 RX10 "places" D y A := hF
  obtain ⟨⟨hx, hb, hml, hown, hts⟩, hev, heh, hA, hlk, hnm⟩ := id hF
  have hK := hev.1
  have hP : va_P D vwCl [(a0, .inr (12, [.ref a1, .ref z0, .ref z1, .ref z2, .ref z3, .ref z4, .ref z5, .ref z6, .ref z7, .ref z8, .ref z9, .ref z10, .ref z11, .ref z12, .ref z13])), (a1, .inr (5, [.ref z14, .ref a2, .ref z15])), (a2, .inr (4, [.int 0, .ref z16, .ref z17, .ref z18]))] s.heap := hP
  have hD : va_D (fun _ => True) [(a0, .inr (12, [.ref a1, .ref z0, .ref z1, .ref z2, .ref z3, .ref z4, .ref z5, .ref z6, .ref z7, .ref z8, .ref z9, .ref z10, .ref z11, .ref z12, .ref z13])), (a1, .inr (5, [.ref z14, .ref a2, .ref z15])), (a2, .inr (4, [.int 0, .ref z16, .ref z17, .ref z18]))] := hD
  have hl : lv_has ls 4 [(0, .ref a0), (1, .int p0), (2, .int p1)] := hl
  refine lv_aload_n hx hb dX10_places_0 rfl (lv_at hl 0 rfl) ?_
  refine lv_iload_n hx hb dX10_places_1 rfl (lv_at hl 1 rfl) ?_
  exact xV (l := l) (yM := yX10_needHouse) (C := RX10) (As := [.int p0]) (rest := []) hF htb (c3_X10_needHouse l hlt a0 a1 a2 z0 z1 z2 z3 z4 z5 z6 z7 z8 z9 z10 z11 z12 z13 z14 z15 z16 z17 z18 p0) gv_RX10_116 1 (by decide +kernel) rfl ⟨(Nat.le_of_ble_eq_true rfl), (Nat.le_of_ble_eq_true rfl)⟩ hl.1 rfl (Nat.le_of_ble_eq_true rfl) dX10_places_2 ⟨(Nat.le_of_ble_eq_true rfl), (Nat.le_of_ble_eq_true rfl)⟩ hP hD hS (pA hA hS) [0, 1, 2] rfl rfl 0 (ci := 12) rfl rfl rfl ⟨(Nat.le_of_ble_eq_true rfl), (Nat.le_of_ble_eq_true rfl)⟩

set_option maxHeartbeats 4000000 in
set_option maxRecDepth 100000 in
theorem c1_L_places (l : Launch) (hlt : l.stackTraces = false) (a0 : Nat) (a1 : Nat) (a2 : Nat) (z0 : Nat) (z1 : Nat) (z2 : Nat) (z3 : Nat) (z4 : Nat) (z5 : Nat) (z6 : Nat) (z7 : Nat) (z8 : Nat) (z9 : Nat) (z10 : Nat) (z11 : Nat) (z12 : Nat) (z13 : Nat) (z14 : Nat) (z15 : Nat) (z16 : Nat) (z17 : Nat) (z18 : Nat) (p0 : Int32) (p1 : Int32) (z19 : Nat) : CT l (.codeWith yL_places cL_places 5 (some .int) [(0, 10, 13, 24), (0, 10, 17, 13)]) yL_places { frames := 8, cells := 1, slots := 6, locals := 134 } [.ref a0, .int p0, .int p1, .ref z19] (fun y => [(a0, .inr (12, [.ref a1, .ref z0, .ref z1, .ref z2, .ref z3, .ref z4, .ref z5, .ref z6, .ref z7, .ref z8, .ref z9, .ref z10, .ref z11, .ref z12, .ref z13])), (a1, .inr (5, [.ref z14, .ref a2, .ref z15])), (a2, .inr (4, [.int 0, .ref z16, .ref z17, .ref z18]))]) (fun _ => []) (fun u => some (.int 1)) (fun y u => []) := by
  refine mkH (by decide) (Nat.le_of_ble_eq_true rfl) ?_
  intro p e s m args below meth c D y A ls hF htab hr hAe hP hD hS hl
  have hF : FX p e s m args meth c cL_places 5 RL "places" D y A := hF
  obtain ⟨⟨hx, hb, hml, hown, hts⟩, hev, heh, hA, hlk, hnm⟩ := id hF
  have hK := hev.1
  have hP : va_P D vwCl [(a0, .inr (12, [.ref a1, .ref z0, .ref z1, .ref z2, .ref z3, .ref z4, .ref z5, .ref z6, .ref z7, .ref z8, .ref z9, .ref z10, .ref z11, .ref z12, .ref z13])), (a1, .inr (5, [.ref z14, .ref a2, .ref z15])), (a2, .inr (4, [.int 0, .ref z16, .ref z17, .ref z18]))] s.heap := hP
  have hD : va_D (fun _ => True) [(a0, .inr (12, [.ref a1, .ref z0, .ref z1, .ref z2, .ref z3, .ref z4, .ref z5, .ref z6, .ref z7, .ref z8, .ref z9, .ref z10, .ref z11, .ref z12, .ref z13])), (a1, .inr (5, [.ref z14, .ref a2, .ref z15])), (a2, .inr (4, [.int 0, .ref z16, .ref z17, .ref z18]))] := hD
  have hl : lv_has ls 5 [(0, .ref a0), (1, .int p0), (2, .int p1), (3, .ref z19)] := hl
  refine lv_aload_n hx hb dL_places_0 rfl (lv_at hl 3 rfl) ?_
  refine lv_iconst (v := 0) hx hb dL_places_1 (by decide) ?_
  refine lv_aload_n hx hb dL_places_2 rfl (lv_at hl 0 rfl) ?_
  refine lv_iload_n hx hb dL_places_3 rfl (lv_at hl 1 rfl) ?_
  refine lv_iload_n hx hb dL_places_4 rfl (lv_at hl 2 rfl) ?_
  refine hV (wr := [(a0, .inr (12, [.ref a1, .ref z0, .ref z1, .ref z2, .ref z3, .ref z4, .ref z5, .ref z6, .ref z7, .ref z8, .ref z9, .ref z10, .ref z11, .ref z12, .ref z13])), (a1, .inr (5, [.ref z14, .ref a2, .ref z15])), (a2, .inr (4, [.int 0, .ref z16, .ref z17, .ref z18]))]) (name := "java/util/NoSuchElementException") (E0 := "java/util/NoSuchElementException") (l := l) (yM := yX10_places) (C := RX10) (As := [.int p0, .int p1]) (rest := [.int 0, .ref z19]) hF (c2_X10_places l hlt a0 a1 a2 z0 z1 z2 z3 z4 z5 z6 z7 z8 z9 z10 z11 z12 z13 z14 z15 z16 z17 z18 p0 p1) gv_RL_20 2 (by decide +kernel) rfl ⟨(Nat.le_of_ble_eq_true rfl), (Nat.le_of_ble_eq_true rfl)⟩ hl.1 rfl (Nat.le_of_ble_eq_true rfl) dL_places_5 ⟨(Nat.le_of_ble_eq_true rfl), (Nat.le_of_ble_eq_true rfl)⟩ hP hD hS (pA hA hS) (fun _ _ => trivial) [0, 1, 2] [] [0, 1, 2] rfl rfl rfl rfl rfl (by decide) 0 (ci := 12) rfl rfl rfl [] ⟨0, 10, 13, 24⟩ [⟨0, 10, 17, 13⟩] htab (fun z hz => nomatch hz) (by decide) (by decide) q_19 (by decide) (fun q9 H locs hP hD hS => ?_)
  have hP : va_P D vwCl [(a0, .inr (12, [.ref a1, .ref z0, .ref z1, .ref z2, .ref z3, .ref z4, .ref z5, .ref z6, .ref z7, .ref z8, .ref z9, .ref z10, .ref z11, .ref z12, .ref z13])), (a1, .inr (5, [.ref z14, .ref a2, .ref z15])), (a2, .inr (4, [.int 0, .ref z16, .ref z17, .ref z18]))] H := hP
  have hD : va_D (fun _ => True) [(a0, .inr (12, [.ref a1, .ref z0, .ref z1, .ref z2, .ref z3, .ref z4, .ref z5, .ref z6, .ref z7, .ref z8, .ref z9, .ref z10, .ref z11, .ref z12, .ref z13])), (a1, .inr (5, [.ref z14, .ref a2, .ref z15])), (a2, .inr (4, [.int 0, .ref z16, .ref z17, .ref z18]))] := hD
  refine W.widen (k := 1) (n := 6) (Nat.le_of_ble_eq_true rfl) (Nat.le_of_ble_eq_true rfl) ?_
  refine W.eq (g2 := F0 m 13 ls [.ref q9]) rfl ?_
  refine lv_astore (lv' := [(4, .ref q9), (0, .ref a0), (1, .int p0), (2, .int p1), (3, .ref z19)]) hx hb dL_places_13 hl (by decide) rfl (fun ls hl => ?_)
  refine lv_iconst (v := 1) hx hb dL_places_15 (by decide) ?_
  exact e_i hF hr (Nat.le_of_ble_eq_true rfl) (Nat.le_of_ble_eq_true rfl) hS (qg_end hS (fun _ => 0) rfl [] hP rfl d_nil) dL_places_16

set_option maxHeartbeats 4000000 in
set_option maxRecDepth 100000 in
theorem c9_X2_placeOf (l : Launch) (a0 : Nat) (z0 : Nat) (z1 : Nat) (z2 : Nat) (p0 : Int32) (p1 : Int32) : CT l (.code yX2_placeOf cX2_placeOf 3 (some .int)) yX2_placeOf { frames := 0, cells := 0, slots := 0, locals := 0 } [.ref a0, .int p0, .int p1] (fun y => [(a0, .inr (4, [.int 0, .ref z0, .ref z1, .ref z2]))]) (fun _ => []) (fun u => some (.int (-1))) (fun y u => []) := by
  refine mkM (by decide) (Nat.le_of_ble_eq_true rfl) ?_
  intro p e s m args below meth c D y A ls hF hr hAe hP hD hS hl
  have hF : FX p e s m args meth c cX2_placeOf 3 RX2 "placeOf" D y A := hF
  obtain ⟨⟨hx, hb, hml, hown, hts⟩, hev, heh, hA, hlk, hnm⟩ := id hF
  have hK := hev.1
  have hP : va_P D vwCl [(a0, .inr (4, [.int 0, .ref z0, .ref z1, .ref z2]))] s.heap := hP
  have hD : va_D (fun _ => True) [(a0, .inr (4, [.int 0, .ref z0, .ref z1, .ref z2]))] := hD
  have hl : lv_has ls 3 [(0, .ref a0), (1, .int p0), (2, .int p1)] := hl
  refine lv_iload_n hx hb dX2_placeOf_0 rfl (lv_at hl 1 rfl) ?_
  refine lv_if_lt (tgt := 28) hx hb dX2_placeOf_1 (by decide) (fun c_1 => ?_) (fun c_1 => ?_)
  · refine lv_iconst (v := (-1)) hx hb dX2_placeOf_28 (by decide) ?_
    exact e_i hF hr (Nat.le_of_ble_eq_true rfl) (Nat.le_of_ble_eq_true rfl) hS (qg_end hS (fun _ => 0) rfl [] hP rfl d_nil) dX2_placeOf_29
  · refine lv_iload_n hx hb dX2_placeOf_4 rfl (lv_at hl 1 rfl) ?_
    refine lv_aload_n hx hb dX2_placeOf_5 rfl (lv_at hl 0 rfl) ?_
    refine va_get (D := D) (ci := 4) (v := .int 0) (C := RX2) (T := TX2) (N := 4) hx hb hts inX2 hown hK hP 0 rfl rfl 0 (by decide) (hts _ q_2) (fun _ h9 => h9) rfl dX2_placeOf_6 ?_
    refine lv_icmp_ge (tgt := 28) hx hb dX2_placeOf_9 (by decide) (fun _ => ?_) (fun c => absurd (by have e0 : (0 : Int32).toInt = 0 := (by decide); have h9 := c_1; simp only [Int32.lt_iff_toInt_lt, Int32.le_iff_toInt_le, ← Int32.toInt_inj, e0] at h9 ⊢; omega) c)
    refine lv_iconst (v := (-1)) hx hb dX2_placeOf_28 (by decide) ?_
    exact e_i hF hr (Nat.le_of_ble_eq_true rfl) (Nat.le_of_ble_eq_true rfl) hS (qg_end hS (fun _ => 0) rfl [] hP rfl d_nil) dX2_placeOf_29

set_option maxHeartbeats 4000000 in
set_option maxRecDepth 100000 in
theorem c8_X3_areMutual (l : Launch) (a0 : Nat) (a1 : Nat) (z0 : Nat) (z1 : Nat) (z2 : Nat) (z3 : Nat) (z4 : Nat) (p0 : Int32) (p1 : Int32) : CT l (.code yX3_areMutual cX3_areMutual 3 (some .boolean)) yX3_areMutual { frames := 1, cells := 0, slots := 0, locals := 22 } [.ref a0, .int p0, .int p1] (fun y => [(a0, .inr (5, [.ref a1, .ref z0, .ref z1])), (a1, .inr (4, [.int 0, .ref z2, .ref z3, .ref z4]))]) (fun _ => []) (fun u => some (.int 0)) (fun y u => []) := by
  refine mkM (by decide) (Nat.le_of_ble_eq_true rfl) ?_
  intro p e s m args below meth c D y A ls hF hr hAe hP hD hS hl
  have hF : FX p e s m args meth c cX3_areMutual 3 RX3 "areMutual" D y A := hF
  obtain ⟨⟨hx, hb, hml, hown, hts⟩, hev, heh, hA, hlk, hnm⟩ := id hF
  have hK := hev.1
  have hP : va_P D vwCl [(a0, .inr (5, [.ref a1, .ref z0, .ref z1])), (a1, .inr (4, [.int 0, .ref z2, .ref z3, .ref z4]))] s.heap := hP
  have hD : va_D (fun _ => True) [(a0, .inr (5, [.ref a1, .ref z0, .ref z1])), (a1, .inr (4, [.int 0, .ref z2, .ref z3, .ref z4]))] := hD
  have hl : lv_has ls 3 [(0, .ref a0), (1, .int p0), (2, .int p1)] := hl
  refine lv_aload_n hx hb dX3_areMutual_0 rfl (lv_at hl 0 rfl) ?_
  refine va_get (D := D) (ci := 5) (v := .ref a1) (C := RX3) (T := TX3) (N := 3) hx hb hts inX3 hown hK hP 0 rfl rfl 0 (by decide) (hts _ q_21) (fun _ h9 => h9) rfl dX3_areMutual_1 ?_
  refine lv_iload_n hx hb dX3_areMutual_4 rfl (lv_at hl 1 rfl) ?_
  refine lv_iload_n hx hb dX3_areMutual_5 rfl (lv_at hl 2 rfl) ?_
  refine cV (l := l) (yM := yX2_placeOf) (C := RX2) (As := [.int p0, .int p1]) (rest := []) (wr := [(a0, .inr (5, [.ref a1, .ref z0, .ref z1])), (a1, .inr (4, [.int 0, .ref z2, .ref z3, .ref z4]))]) hF (c9_X2_placeOf l a1 z2 z3 z4 p0 p1) gv_RX3_25 2 (by decide +kernel) rfl ⟨(Nat.le_of_ble_eq_true rfl), (Nat.le_of_ble_eq_true rfl)⟩ hl.1 rfl (Nat.le_of_ble_eq_true rfl) dX3_areMutual_6 ⟨(Nat.le_of_ble_eq_true rfl), (Nat.le_of_ble_eq_true rfl)⟩ hP hD hS (pA hA hS) (fun _ _ => trivial) [1] [] [0, 1] rfl rfl rfl rfl rfl (by decide) 1 (ci := 4) rfl rfl rfl (fun u_1 H locs hP hD hS => ?_)
  have hP : va_P D vwCl [(a0, .inr (5, [.ref a1, .ref z0, .ref z1])), (a1, .inr (4, [.int 0, .ref z2, .ref z3, .ref z4]))] H := hP
  have hD : va_D (fun _ => True) [(a0, .inr (5, [.ref a1, .ref z0, .ref z1])), (a1, .inr (4, [.int 0, .ref z2, .ref z3, .ref z4]))] := hD
  refine W.widen (k := 0) (n := 0) (Nat.le_of_ble_eq_true rfl) (Nat.le_of_ble_eq_true rfl) ?_
  refine W.eq (g2 := F0 m 9 ls [.int (-1)]) rfl ?_
  refine lv_iconst (v := (-1)) hx hb dX3_areMutual_9 (by decide) ?_
  refine lv_icmp_eq (tgt := 30) hx hb dX3_areMutual_10 (by decide) (fun _ => ?_) (fun c => absurd (by decide) c)
  refine lv_iconst (v := 0) hx hb dX3_areMutual_30 (by decide) ?_
  exact e_z hF hr (by decide) (Nat.le_of_ble_eq_true rfl) (Nat.le_of_ble_eq_true rfl) hS (qg_end hS (fun _ => 0) rfl [] hP rfl d_nil) dX3_areMutual_31

set_option maxHeartbeats 4000000 in
set_option maxRecDepth 100000 in
theorem c7_X5_isBlock (l : Launch) (a0 : Nat) (a1 : Nat) (z0 : Nat) (z1 : Nat) (z2 : Nat) (z3 : Nat) (z4 : Nat) (z5 : Nat) (p0 : Int32) (p1 : Int32) : CT l (.code yX5_isBlock cX5_isBlock 6 (some .boolean)) yX5_isBlock { frames := 2, cells := 0, slots := 0, locals := 44 } [.ref z5, .ref a0, .int p0, .int p1] (fun y => [(a0, .inr (5, [.ref a1, .ref z0, .ref z1])), (a1, .inr (4, [.int 0, .ref z2, .ref z3, .ref z4]))]) (fun _ => []) (fun u => some (.int 0)) (fun y u => []) := by
  refine mkM (by decide) (Nat.le_of_ble_eq_true rfl) ?_
  intro p e s m args below meth c D y A ls hF hr hAe hP hD hS hl
  have hF : FX p e s m args meth c cX5_isBlock 6 RX5 "isBlock" D y A := hF
  obtain ⟨⟨hx, hb, hml, hown, hts⟩, hev, heh, hA, hlk, hnm⟩ := id hF
  have hK := hev.1
  have hP : va_P D vwCl [(a0, .inr (5, [.ref a1, .ref z0, .ref z1])), (a1, .inr (4, [.int 0, .ref z2, .ref z3, .ref z4]))] s.heap := hP
  have hD : va_D (fun _ => True) [(a0, .inr (5, [.ref a1, .ref z0, .ref z1])), (a1, .inr (4, [.int 0, .ref z2, .ref z3, .ref z4]))] := hD
  have hl : lv_has ls 6 [(0, .ref z5), (1, .ref a0), (2, .int p0), (3, .int p1)] := hl
  refine lv_aload_n hx hb dX5_isBlock_0 rfl (lv_at hl 1 rfl) ?_
  refine lv_iload_n hx hb dX5_isBlock_1 rfl (lv_at hl 2 rfl) ?_
  refine lv_iload_n hx hb dX5_isBlock_2 rfl (lv_at hl 3 rfl) ?_
  refine cV (l := l) (yM := yX3_areMutual) (C := RX3) (As := [.int p0, .int p1]) (rest := []) (wr := [(a0, .inr (5, [.ref a1, .ref z0, .ref z1])), (a1, .inr (4, [.int 0, .ref z2, .ref z3, .ref z4]))]) hF (c8_X3_areMutual l a0 a1 z0 z1 z2 z3 z4 p0 p1) gv_RX5_66 2 (by decide +kernel) rfl ⟨(Nat.le_of_ble_eq_true rfl), (Nat.le_of_ble_eq_true rfl)⟩ hl.1 rfl (Nat.le_of_ble_eq_true rfl) dX5_isBlock_3 ⟨(Nat.le_of_ble_eq_true rfl), (Nat.le_of_ble_eq_true rfl)⟩ hP hD hS (pA hA hS) (fun _ _ => trivial) [0, 1] [] [0, 1] rfl rfl rfl rfl rfl (by decide) 0 (ci := 5) rfl rfl rfl (fun u_1 H locs hP hD hS => ?_)
  have hP : va_P D vwCl [(a0, .inr (5, [.ref a1, .ref z0, .ref z1])), (a1, .inr (4, [.int 0, .ref z2, .ref z3, .ref z4]))] H := hP
  have hD : va_D (fun _ => True) [(a0, .inr (5, [.ref a1, .ref z0, .ref z1])), (a1, .inr (4, [.int 0, .ref z2, .ref z3, .ref z4]))] := hD
  refine W.widen (k := 0) (n := 0) (Nat.le_of_ble_eq_true rfl) (Nat.le_of_ble_eq_true rfl) ?_
  refine W.eq (g2 := F0 m 6 ls [.int 0]) rfl ?_
  refine lv_if_ne (tgt := 11) hx hb dX5_isBlock_6 (by decide) (fun c => absurd (by decide) c) (fun _ => ?_)
  refine lv_iconst (v := 0) hx hb dX5_isBlock_9 (by decide) ?_
  exact e_z hF hr (by decide) (Nat.le_of_ble_eq_true rfl) (Nat.le_of_ble_eq_true rfl) hS (qg_end hS (fun _ => 0) rfl [] hP rfl d_nil) dX5_isBlock_10

set_option maxHeartbeats 4000000 in
set_option maxRecDepth 100000 in
theorem c6_X5_countBlocks (l : Launch) (a0 : Nat) (a1 : Nat) (a2 : Nat) (z0 : Nat) (z1 : Nat) (z2 : Nat) (z3 : Nat) (z4 : Nat) (z5 : Nat) (z6 : Nat) : CT l (.code yX5_countBlocks cX5_countBlocks 4 (some .int)) yX5_countBlocks { frames := 3, cells := 0, slots := 0, locals := 69 } [.ref a2, .ref a0] (fun y => [(a0, .inr (5, [.ref a1, .ref z0, .ref z1])), (a1, .inr (4, [.int 0, .ref z2, .ref z3, .ref z4])), (a2, .inr (7, [.ref z5, .ref z6]))]) (fun _ => []) (fun u => some (.int 0)) (fun y u => []) := by
  refine mkM (by decide) (Nat.le_of_ble_eq_true rfl) ?_
  intro p e s m args below meth c D y A ls hF hr hAe hP hD hS hl
  have hF : FX p e s m args meth c cX5_countBlocks 4 RX5 "countBlocks" D y A := hF
  obtain ⟨⟨hx, hb, hml, hown, hts⟩, hev, heh, hA, hlk, hnm⟩ := id hF
  have hK := hev.1
  have hP : va_P D vwCl [(a0, .inr (5, [.ref a1, .ref z0, .ref z1])), (a1, .inr (4, [.int 0, .ref z2, .ref z3, .ref z4])), (a2, .inr (7, [.ref z5, .ref z6]))] s.heap := hP
  have hD : va_D (fun _ => True) [(a0, .inr (5, [.ref a1, .ref z0, .ref z1])), (a1, .inr (4, [.int 0, .ref z2, .ref z3, .ref z4])), (a2, .inr (7, [.ref z5, .ref z6]))] := hD
  have hl : lv_has ls 4 [(0, .ref a2), (1, .ref a0)] := hl
  refine lv_iconst (v := 0) hx hb dX5_countBlocks_0 (by decide) ?_
  refine lv_istore_n (lv' := [(2, .int 0), (0, .ref a2), (1, .ref a0)]) hx hb dX5_countBlocks_1 rfl hl (by decide) rfl (fun ls hl => ?_)
  refine lv_iconst (v := 0) hx hb dX5_countBlocks_2 (by decide) ?_
  refine lv_istore_n (lv' := [(3, .int 0), (2, .int 0), (0, .ref a2), (1, .ref a0)]) hx hb dX5_countBlocks_3 rfl hl (by decide) rfl (fun ls hl => ?_)
  refine lp (N := 100) (Wd := fun i => [(a0, .inr (5, [.ref a1, .ref z0, .ref z1])), (a1, .inr (4, [.int 0, .ref z2, .ref z3, .ref z4])), (a2, .inr (7, [.ref z5, .ref z6]))]) (Lv := fun i => [(3, .int (nI i)), (2, .int 0), (0, .ref a2), (1, .ref a0)]) hP hD hS (lv_sub hl [0, 1, 2, 3] rfl) (fun i hi ih H locs ls hP hD hS hl => ?_) (fun H locs ls hP hD hS hl => ?_)
  · have hP : va_P D vwCl [(a0, .inr (5, [.ref a1, .ref z0, .ref z1])), (a1, .inr (4, [.int 0, .ref z2, .ref z3, .ref z4])), (a2, .inr (7, [.ref z5, .ref z6]))] H := hP
    have hD : va_D (fun _ => True) [(a0, .inr (5, [.ref a1, .ref z0, .ref z1])), (a1, .inr (4, [.int 0, .ref z2, .ref z3, .ref z4])), (a2, .inr (7, [.ref z5, .ref z6]))] := hD
    have hl : lv_has ls 4 [(3, .int (nI i)), (2, .int 0), (0, .ref a2), (1, .ref a0)] := hl
    have hi1 : (nI i) < (100 : Int32) := nI_lt hi (by decide)
    have hi0 : ¬ (nI i) < (0 : Int32) := nI_pos (by omega)
    refine lv_iload_n hx hb dX5_countBlocks_4 rfl (lv_at hl 0 rfl) ?_
    refine lv_bipush (v := 100) hx hb dX5_countBlocks_5 (by decide) ?_
    refine lv_icmp_ge (tgt := 35) hx hb dX5_countBlocks_7 (by decide) (fun c => absurd c (by have e0 : (0 : Int32).toInt = 0 := (by decide); have e1 : (100 : Int32).toInt = 100 := (by decide); have h9 := And.intro hi1 hi0; simp only [Int32.lt_iff_toInt_lt, Int32.le_iff_toInt_le, ← Int32.toInt_inj, e0, e1] at h9 ⊢; omega)) (fun _ => ?_)
    refine lv_aload_n hx hb dX5_countBlocks_10 rfl (lv_at hl 2 rfl) ?_
    refine lv_aload_n hx hb dX5_countBlocks_11 rfl (lv_at hl 3 rfl) ?_
    refine lv_iload_n hx hb dX5_countBlocks_12 rfl (lv_at hl 0 rfl) ?_
    refine lv_bipush (v := 10) hx hb dX5_countBlocks_13 (by decide) ?_
    refine lv_idiv hx hb dX5_countBlocks_15 (by decide) ?_
    refine lv_topi (fun k1 ek1 => ?_)
    refine lv_iload_n hx hb dX5_countBlocks_16 rfl (lv_at hl 0 rfl) ?_
    refine lv_bipush (v := 10) hx hb dX5_countBlocks_17 (by decide) ?_
    refine lv_irem hx hb dX5_countBlocks_19 (by decide) ?_
    refine lv_topi (fun k2 ek2 => ?_)
    refine cV (l := l) (yM := yX5_isBlock) (C := RX5) (As := [.ref a0, .int k1, .int k2]) (rest := []) (wr := [(a0, .inr (5, [.ref a1, .ref z0, .ref z1])), (a1, .inr (4, [.int 0, .ref z2, .ref z3, .ref z4])), (a2, .inr (7, [.ref z5, .ref z6]))]) hF (c7_X5_isBlock l a0 a1 z0 z1 z2 z3 z4 a2 k1 k2) gv_RX5_77 3 (by decide +kernel) rfl ⟨(Nat.le_of_ble_eq_true rfl), (Nat.le_of_ble_eq_true rfl)⟩ hl.1 rfl (Nat.le_of_ble_eq_true rfl) dX5_countBlocks_20 ⟨(Nat.le_of_ble_eq_true rfl), (Nat.le_of_ble_eq_true rfl)⟩ hP hD hS (pA hA hS) (fun _ _ => trivial) [0, 1] [] [0, 1, 2] rfl rfl rfl rfl rfl (by decide) 2 (ci := 7) rfl rfl rfl (fun u_3 H locs hP hD hS => ?_)
    have hP : va_P D vwCl [(a0, .inr (5, [.ref a1, .ref z0, .ref z1])), (a1, .inr (4, [.int 0, .ref z2, .ref z3, .ref z4])), (a2, .inr (7, [.ref z5, .ref z6]))] H := hP
    have hD : va_D (fun _ => True) [(a0, .inr (5, [.ref a1, .ref z0, .ref z1])), (a1, .inr (4, [.int 0, .ref z2, .ref z3, .ref z4])), (a2, .inr (7, [.ref z5, .ref z6]))] := hD
    refine W.widen (k := 0) (n := 0) (Nat.le_of_ble_eq_true rfl) (Nat.le_of_ble_eq_true rfl) ?_
    refine W.eq (g2 := F0 m 23 ls [.int 0]) rfl ?_
    refine lv_if_eq (tgt := 29) hx hb dX5_countBlocks_23 (by decide) (fun _ => ?_) (fun c => absurd (by decide) c)
    refine lv_iinc (v := nI (i + 1)) (lv' := [(3, .int (nI (i + 1))), (2, .int 0), (0, .ref a2), (1, .ref a0)]) hx hb dX5_countBlocks_29 hl (k := 0) rfl (nI_inc i) (by decide) rfl (fun ls hl => ?_)
    refine lv_goto (tgt := 4) hx hb dX5_countBlocks_32 (by decide) ?_
    exact ih _ _ _ hP hD hS (lv_sub hl [0, 1, 2, 3] rfl)
  · have hP : va_P D vwCl [(a0, .inr (5, [.ref a1, .ref z0, .ref z1])), (a1, .inr (4, [.int 0, .ref z2, .ref z3, .ref z4])), (a2, .inr (7, [.ref z5, .ref z6]))] H := hP
    have hD : va_D (fun _ => True) [(a0, .inr (5, [.ref a1, .ref z0, .ref z1])), (a1, .inr (4, [.int 0, .ref z2, .ref z3, .ref z4])), (a2, .inr (7, [.ref z5, .ref z6]))] := hD
    have hl : lv_has ls 4 [(3, .int 100), (2, .int 0), (0, .ref a2), (1, .ref a0)] := hl
    refine lv_iload_n hx hb dX5_countBlocks_4 rfl (lv_at hl 0 rfl) ?_
    refine lv_bipush (v := 100) hx hb dX5_countBlocks_5 (by decide) ?_
    refine lv_icmp_ge (tgt := 35) hx hb dX5_countBlocks_7 (by decide) (fun _ => ?_) (fun c => absurd (by decide) c)
    refine lv_iload_n hx hb dX5_countBlocks_35 rfl (lv_at hl 1 rfl) ?_
    exact e_i hF hr (Nat.le_of_ble_eq_true rfl) (Nat.le_of_ble_eq_true rfl) hS (qg_end hS (fun _ => 0) rfl [] hP rfl d_nil) dX5_countBlocks_36

set_option maxHeartbeats 4000000 in
set_option maxRecDepth 100000 in
theorem c5_X10_blocks (l : Launch) (a0 : Nat) (a1 : Nat) (a2 : Nat) (a3 : Nat) (z0 : Nat) (z1 : Nat) (z2 : Nat) (z3 : Nat) (z4 : Nat) (z5 : Nat) (z6 : Nat) (z7 : Nat) (z8 : Nat) (z9 : Nat) (z10 : Nat) (z11 : Nat) (z12 : Nat) (z13 : Nat) (z14 : Nat) (z15 : Nat) (z16 : Nat) (z17 : Nat) (z18 : Nat) (z19 : Nat) : CT l (.code yX10_blocks cX10_blocks 1 (some .int)) yX10_blocks { frames := 4, cells := 0, slots := 0, locals := 92 } [.ref a0] (fun y => [(a0, .inr (12, [.ref a1, .ref z0, .ref z1, .ref z2, .ref a3, .ref z3, .ref z4, .ref z5, .ref z6, .ref z7, .ref z8, .ref z9, .ref z10, .ref z11, .ref z12])), (a1, .inr (5, [.ref a2, .ref z13, .ref z14])), (a2, .inr (4, [.int 0, .ref z15, .ref z16, .ref z17])), (a3, .inr (7, [.ref z18, .ref z19]))]) (fun _ => []) (fun u => some (.int 0)) (fun y u => []) := by
  refine mkM (by decide) (Nat.le_of_ble_eq_true rfl) ?_
  intro p e s m args below meth c D y A ls hF hr hAe hP hD hS hl
  have hF : FX p e s m args meth c cX10_blocks 1 RX10 "blocks" D y A := hF
  obtain ⟨⟨hx, hb, hml, hown, hts⟩, hev, heh, hA, hlk, hnm⟩ := id hF
  have hK := hev.1
  have hP : va_P D vwCl [(a0, .inr (12, [.ref a1, .ref z0, .ref z1, .ref z2, .ref a3, .ref z3, .ref z4, .ref z5, .ref z6, .ref z7, .ref z8, .ref z9, .ref z10, .ref z11, .ref z12])), (a1, .inr (5, [.ref a2, .ref z13, .ref z14])), (a2, .inr (4, [.int 0, .ref z15, .ref z16, .ref z17])), (a3, .inr (7, [.ref z18, .ref z19]))] s.heap := hP
  have hD : va_D (fun _ => True) [(a0, .inr (12, [.ref a1, .ref z0, .ref z1, .ref z2, .ref a3, .ref z3, .ref z4, .ref z5, .ref z6, .ref z7, .ref z8, .ref z9, .ref z10, .ref z11, .ref z12])), (a1, .inr (5, [.ref a2, .ref z13, .ref z14])), (a2, .inr (4, [.int 0, .ref z15, .ref z16, .ref z17])), (a3, .inr (7, [.ref z18, .ref z19]))] := hD
  have hl : lv_has ls 1 [(0, .ref a0)] := hl
  refine lv_aload_n hx hb dX10_blocks_0 rfl (lv_at hl 0 rfl) ?_
  refine va_get (D := D) (ci := 12) (v := .ref a3) (C := RX10) (T := TX10) (N := 15) hx hb hts inX10 hown hK hP 0 rfl rfl 4 (by decide) (hts _ q_20) (fun _ h9 => h9) rfl dX10_blocks_1 ?_
  refine lv_aload_n hx hb dX10_blocks_4 rfl (lv_at hl 0 rfl) ?_
  refine va_get (D := D) (ci := 12) (v := .ref a1) (C := RX10) (T := TX10) (N := 15) hx hb hts inX10 hown hK hP 0 rfl rfl 0 (by decide) (hts _ q_1) (fun _ h9 => h9) rfl dX10_blocks_5 ?_
  refine cV (l := l) (yM := yX5_countBlocks) (C := RX5) (As := [.ref a1]) (rest := []) (wr := [(a0, .inr (12, [.ref a1, .ref z0, .ref z1, .ref z2, .ref a3, .ref z3, .ref z4, .ref z5, .ref z6, .ref z7, .ref z8, .ref z9, .ref z10, .ref z11, .ref z12])), (a1, .inr (5, [.ref a2, .ref z13, .ref z14])), (a2, .inr (4, [.int 0, .ref z15, .ref z16, .ref z17])), (a3, .inr (7, [.ref z18, .ref z19]))]) hF (c6_X5_countBlocks l a1 a2 a3 z13 z14 z15 z16 z17 z18 z19) gv_RX10_290 1 (by decide +kernel) rfl ⟨(Nat.le_of_ble_eq_true rfl), (Nat.le_of_ble_eq_true rfl)⟩ hl.1 rfl (Nat.le_of_ble_eq_true rfl) dX10_blocks_8 ⟨(Nat.le_of_ble_eq_true rfl), (Nat.le_of_ble_eq_true rfl)⟩ hP hD hS (pA hA hS) (fun _ _ => trivial) [1, 2, 3] [] [0, 1, 2, 3] rfl rfl rfl rfl rfl (by decide) 3 (ci := 7) rfl rfl rfl (fun u_1 H locs hP hD hS => ?_)
  have hP : va_P D vwCl [(a0, .inr (12, [.ref a1, .ref z0, .ref z1, .ref z2, .ref a3, .ref z3, .ref z4, .ref z5, .ref z6, .ref z7, .ref z8, .ref z9, .ref z10, .ref z11, .ref z12])), (a1, .inr (5, [.ref a2, .ref z13, .ref z14])), (a2, .inr (4, [.int 0, .ref z15, .ref z16, .ref z17])), (a3, .inr (7, [.ref z18, .ref z19]))] H := hP
  have hD : va_D (fun _ => True) [(a0, .inr (12, [.ref a1, .ref z0, .ref z1, .ref z2, .ref a3, .ref z3, .ref z4, .ref z5, .ref z6, .ref z7, .ref z8, .ref z9, .ref z10, .ref z11, .ref z12])), (a1, .inr (5, [.ref a2, .ref z13, .ref z14])), (a2, .inr (4, [.int 0, .ref z15, .ref z16, .ref z17])), (a3, .inr (7, [.ref z18, .ref z19]))] := hD
  refine W.widen (k := 0) (n := 0) (Nat.le_of_ble_eq_true rfl) (Nat.le_of_ble_eq_true rfl) ?_
  refine W.eq (g2 := F0 m 11 ls [.int 0]) rfl ?_
  exact e_i hF hr (Nat.le_of_ble_eq_true rfl) (Nat.le_of_ble_eq_true rfl) hS (qg_end hS (fun _ => 0) rfl [] hP rfl d_nil) dX10_blocks_11

set_option maxHeartbeats 4000000 in
set_option maxRecDepth 100000 in
theorem c12_X11_in (l : Launch) (p0 : Int32) : CT l (.code yX11_in cX11_in 3 (some .boolean)) yX11_in { frames := 0, cells := 0, slots := 0, locals := 0 } [.int p0, .int 0, .int (-1)] (fun y => []) (fun _ => []) (fun u => some (.int 0)) (fun y u => []) := by
  refine mkM (by decide) (Nat.le_of_ble_eq_true rfl) ?_
  intro p e s m args below meth c D y A ls hF hr hAe hP hD hS hl
  have hF : FX p e s m args meth c cX11_in 3 RX11 "in" D y A := hF
  obtain ⟨⟨hx, hb, hml, hown, hts⟩, hev, heh, hA, hlk, hnm⟩ := id hF
  have hK := hev.1
  have hP : va_P D vwCl [] s.heap := hP
  have hD : va_D A [] := by rw [← hAe]; exact hD.self
  have hl : lv_has ls 3 [(0, .int p0), (1, .int 0), (2, .int (-1))] := hl
  refine lv_iload_n hx hb dX11_in_0 rfl (lv_at hl 0 rfl) ?_
  refine lv_iload_n hx hb dX11_in_1 rfl (lv_at hl 1 rfl) ?_
  refine lv_icmp_lt (tgt := 14) hx hb dX11_in_2 (by decide) (fun c_1 => ?_) (fun c_1 => ?_)
  · refine lv_iconst (v := 0) hx hb dX11_in_14 (by decide) ?_
    exact e_z hF hr (by decide) (Nat.le_of_ble_eq_true rfl) (Nat.le_of_ble_eq_true rfl) hS (qg_end hS (fun _ => 0) rfl [] hP rfl d_nil) dX11_in_15
  · refine lv_iload_n hx hb dX11_in_5 rfl (lv_at hl 0 rfl) ?_
    refine lv_iload_n hx hb dX11_in_6 rfl (lv_at hl 2 rfl) ?_
    refine lv_icmp_gt (tgt := 14) hx hb dX11_in_7 (by decide) (fun _ => ?_) (fun c => absurd (by have e0 : ((-1) : Int32).toInt = (-1) := (by decide); have e1 : (0 : Int32).toInt = 0 := (by decide); have h9 := c_1; simp only [Int32.lt_iff_toInt_lt, Int32.le_iff_toInt_le, ← Int32.toInt_inj, e0, e1] at h9 ⊢; omega) c)
    refine lv_iconst (v := 0) hx hb dX11_in_14 (by decide) ?_
    exact e_z hF hr (by decide) (Nat.le_of_ble_eq_true rfl) (Nat.le_of_ble_eq_true rfl) hS (qg_end hS (fun _ => 0) rfl [] hP rfl d_nil) dX11_in_15

set_option maxHeartbeats 4000000 in
set_option maxRecDepth 100000 in
theorem c11_X11_isHouse (l : Launch) (a0 : Nat) (a1 : Nat) (z0 : Nat) (z1 : Nat) (z2 : Nat) (z3 : Nat) (z4 : Nat) (z5 : Nat) (z6 : Nat) (z7 : Nat) (z8 : Nat) (z9 : Nat) (z10 : Nat) (z11 : Nat) (z12 : Nat) (p0 : Int32) : CT l (.code yX11_isHouse cX11_isHouse 2 (some .boolean)) yX11_isHouse { frames := 1, cells := 0, slots := 0, locals := 22 } [.ref a0, .int p0] (fun y => [(a0, .inr (13, [.ref a1, .ref z0, .ref z1, .ref z2, .ref z3, .ref z4, .int 45, .ref z5, .ref z6, .ref z7, .int 0, .ref z8, .ref z9, .int 0, .int 0, .int 0, .int 0, .ref z10, .int 0, .null, .ref z11, .ref z12])), (a1, .inl (y 0, 3, .inl (fun _ => 0)))]) (fun _ => []) (fun u => some (.int 0)) (fun y u => []) := by
  refine mkM (by decide) (Nat.le_of_ble_eq_true rfl) ?_
  intro p e s m args below meth c D y A ls hF hr hAe hP hD hS hl
  have hF : FX p e s m args meth c cX11_isHouse 2 RX11 "isHouse" D y A := hF
  obtain ⟨⟨hx, hb, hml, hown, hts⟩, hev, heh, hA, hlk, hnm⟩ := id hF
  have hK := hev.1
  have hP : va_P D vwCl [(a0, .inr (13, [.ref a1, .ref z0, .ref z1, .ref z2, .ref z3, .ref z4, .int 45, .ref z5, .ref z6, .ref z7, .int 0, .ref z8, .ref z9, .int 0, .int 0, .int 0, .int 0, .ref z10, .int 0, .null, .ref z11, .ref z12])), (a1, .inl (y 0, 3, .inl (fun _ => 0)))] s.heap := hP
  have hD : va_D (fun _ => True) [(a0, .inr (13, [.ref a1, .ref z0, .ref z1, .ref z2, .ref z3, .ref z4, .int 45, .ref z5, .ref z6, .ref z7, .int 0, .ref z8, .ref z9, .int 0, .int 0, .int 0, .int 0, .ref z10, .int 0, .null, .ref z11, .ref z12])), (a1, .inl (y 0, 3, .inl (fun _ => 0)))] := hD
  have hl : lv_has ls 2 [(0, .ref a0), (1, .int p0)] := hl
  refine lv_iload_n hx hb dX11_isHouse_0 rfl (lv_at hl 1 rfl) ?_
  refine lv_iconst (v := 0) hx hb dX11_isHouse_1 (by decide) ?_
  refine lv_aload_n hx hb dX11_isHouse_2 rfl (lv_at hl 0 rfl) ?_
  refine va_get (D := D) (ci := 13) (v := .ref a1) (C := RX11) (T := TX11) (N := 22) hx hb hts inX11 hown hK hP 0 rfl rfl 0 (by decide) (hts _ q_40) (fun _ h9 => h9) rfl dX11_isHouse_3 ?_
  refine lv_iconst (v := 1) hx hb dX11_isHouse_6 (by decide) ?_
  refine va_iald hx hb hK hP 1 0 rfl rfl (vp_in_nI (n := 1) (by decide) (by decide)) dX11_isHouse_7 ?_
  refine tp_i (v := 0) rfl ?_
  refine lv_iconst (v := 1) hx hb dX11_isHouse_8 (by decide) ?_
  refine lv_isub hx hb dX11_isHouse_9 ?_
  refine tp_i (v := (-1)) (by decide) ?_
  refine cS (l := l) (yM := yX11_in) (As := [.int p0, .int 0, .int (-1)]) (rest := []) (wr := [(a0, .inr (13, [.ref a1, .ref z0, .ref z1, .ref z2, .ref z3, .ref z4, .int 45, .ref z5, .ref z6, .ref z7, .int 0, .ref z8, .ref z9, .int 0, .int 0, .int 0, .int 0, .ref z10, .int 0, .null, .ref z11, .ref z12])), (a1, .inl (y 0, 3, .inl (fun _ => 0)))]) hF (c12_X11_in l p0) gs_RX11_78 3 (by decide +kernel) rfl ⟨(Nat.le_of_ble_eq_true rfl), (Nat.le_of_ble_eq_true rfl)⟩ hl.1 rfl (Nat.le_of_ble_eq_true rfl) dX11_isHouse_10 ⟨(Nat.le_of_ble_eq_true rfl), (Nat.le_of_ble_eq_true rfl)⟩ hP hD hS (pA hA hS) (fun _ _ => trivial) [] [] [0, 1] rfl rfl rfl rfl rfl (by decide) (fun u_1 H locs hP hD hS => ?_)
  have hP : va_P D vwCl [(a0, .inr (13, [.ref a1, .ref z0, .ref z1, .ref z2, .ref z3, .ref z4, .int 45, .ref z5, .ref z6, .ref z7, .int 0, .ref z8, .ref z9, .int 0, .int 0, .int 0, .int 0, .ref z10, .int 0, .null, .ref z11, .ref z12])), (a1, .inl (y 0, 3, .inl (fun _ => 0)))] H := hP
  have hD : va_D (fun _ => True) [(a0, .inr (13, [.ref a1, .ref z0, .ref z1, .ref z2, .ref z3, .ref z4, .int 45, .ref z5, .ref z6, .ref z7, .int 0, .ref z8, .ref z9, .int 0, .int 0, .int 0, .int 0, .ref z10, .int 0, .null, .ref z11, .ref z12])), (a1, .inl (y 0, 3, .inl (fun _ => 0)))] := hD
  refine W.widen (k := 0) (n := 0) (Nat.le_of_ble_eq_true rfl) (Nat.le_of_ble_eq_true rfl) ?_
  refine W.eq (g2 := F0 m 13 ls [.int 0]) rfl ?_
  exact e_z hF hr (by decide) (Nat.le_of_ble_eq_true rfl) (Nat.le_of_ble_eq_true rfl) hS (qg_end hS (fun _ => 0) rfl [] hP rfl d_nil) dX11_isHouse_13

set_option maxHeartbeats 4000000 in
set_option maxRecDepth 100000 in
theorem c13_X11_in (l : Launch) (p0 : Int32) (f0 : p0 < 1) : CT l (.code yX11_in cX11_in 3 (some .boolean)) yX11_in { frames := 0, cells := 0, slots := 0, locals := 0 } [.int p0, .int 1, .int 4] (fun y => []) (fun _ => []) (fun u => some (.int 0)) (fun y u => []) := by
  refine mkM (by decide) (Nat.le_of_ble_eq_true rfl) ?_
  intro p e s m args below meth c D y A ls hF hr hAe hP hD hS hl
  have hF : FX p e s m args meth c cX11_in 3 RX11 "in" D y A := hF
  obtain ⟨⟨hx, hb, hml, hown, hts⟩, hev, heh, hA, hlk, hnm⟩ := id hF
  have hK := hev.1
  have hP : va_P D vwCl [] s.heap := hP
  have hD : va_D A [] := by rw [← hAe]; exact hD.self
  have hl : lv_has ls 3 [(0, .int p0), (1, .int 1), (2, .int 4)] := hl
  refine lv_iload_n hx hb dX11_in_0 rfl (lv_at hl 0 rfl) ?_
  refine lv_iload_n hx hb dX11_in_1 rfl (lv_at hl 1 rfl) ?_
  refine lv_icmp_lt (tgt := 14) hx hb dX11_in_2 (by decide) (fun _ => ?_) (fun c => absurd f0 c)
  refine lv_iconst (v := 0) hx hb dX11_in_14 (by decide) ?_
  exact e_z hF hr (by decide) (Nat.le_of_ble_eq_true rfl) (Nat.le_of_ble_eq_true rfl) hS (qg_end hS (fun _ => 0) rfl [] hP rfl d_nil) dX11_in_15

set_option maxHeartbeats 4000000 in
set_option maxRecDepth 100000 in
theorem c14_X11_fails (l : Launch) (a0 : Nat) (z0 : Nat) (z1 : Nat) (z2 : Nat) (z3 : Nat) (z4 : Nat) (z5 : Nat) (z6 : Nat) (z7 : Nat) (z8 : Nat) (z9 : Nat) (z10 : Nat) (z11 : Nat) (z12 : Nat) (z13 : Nat) : CT l (.code yX11_fails cX11_fails 4 (some .boolean)) yX11_fails { frames := 0, cells := 0, slots := 0, locals := 0 } [.ref a0, .int 1, .int 1, .int 0] (fun y => [(a0, .inr (13, [.ref z0, .ref z1, .ref z2, .ref z3, .ref z4, .ref z5, .int 45, .ref z6, .ref z7, .ref z8, .int 0, .ref z9, .ref z10, .int 0, .int 0, .int 0, .int 0, .ref z11, .int 0, .null, .ref z12, .ref z13]))]) (fun y => [(a0, .inr (13, [.ref z0, .ref z1, .ref z2, .ref z3, .ref z4, .ref z5, .int 45, .ref z6, .ref z7, .ref z8, .int 0, .ref z9, .ref z10, .int 0, .int 0, .int 0, .int 0, .ref z11, .int 0, .null, .ref z12, .ref z13]))]) (fun u => some (.int 1)) (fun y u => [(a0, .inr (13, [.ref z0, .ref z1, .ref z2, .ref z3, .ref z4, .ref z5, .int 45, .ref z6, .ref z7, .ref z8, .int 0, .ref z9, .ref z10, .int 0, .int 0, .int 1, .int 0, .ref z11, .int 0, .null, .ref z12, .ref z13]))]) := by
  refine mkM (by decide) (Nat.le_of_ble_eq_true rfl) ?_
  intro p e s m args below meth c D y A ls hF hr hAe hP hD hS hl
  have hF : FX p e s m args meth c cX11_fails 4 RX11 "fails" D y A := hF
  obtain ⟨⟨hx, hb, hml, hown, hts⟩, hev, heh, hA, hlk, hnm⟩ := id hF
  have hK := hev.1
  have hP : va_P D vwCl [(a0, .inr (13, [.ref z0, .ref z1, .ref z2, .ref z3, .ref z4, .ref z5, .int 45, .ref z6, .ref z7, .ref z8, .int 0, .ref z9, .ref z10, .int 0, .int 0, .int 0, .int 0, .ref z11, .int 0, .null, .ref z12, .ref z13]))] s.heap := hP
  have hD : va_D A [(a0, .inr (13, [.ref z0, .ref z1, .ref z2, .ref z3, .ref z4, .ref z5, .int 45, .ref z6, .ref z7, .ref z8, .int 0, .ref z9, .ref z10, .int 0, .int 0, .int 0, .int 0, .ref z11, .int 0, .null, .ref z12, .ref z13]))] := by rw [← hAe]; exact hD.self
  have hl : lv_has ls 4 [(0, .ref a0), (1, .int 1), (2, .int 1), (3, .int 0)] := hl
  refine lv_aload_n hx hb dX11_fails_0 rfl (lv_at hl 0 rfl) ?_
  refine lv_iload_n hx hb dX11_fails_1 rfl (lv_at hl 1 rfl) ?_
  refine lv_if_eq (tgt := 9) hx hb dX11_fails_2 (by decide) (fun c => absurd c (by decide)) (fun _ => ?_)
  refine lv_iconst (v := 1) hx hb dX11_fails_5 (by decide) ?_
  refine lv_goto (tgt := 26) hx hb dX11_fails_6 (by decide) ?_
  refine va_put (D := D) (ci := 13) (v := .int 1) (ty := .int) (C := RX11) (T := TX11) (N := 22) hx hb hts inX11 tyX11 tyX11_ok nmX11 hown hK hP hD hS 0 rfl rfl 15 (by decide) (hts _ q_49) (fun _ h9 => h9) rfl (by decide +kernel) rfl rfl (Nat.le_of_ble_eq_true rfl) dX11_fails_26 (fun H locs hP hD hS => ?_)
  have hP : va_P D vwCl [(a0, .inr (13, [.ref z0, .ref z1, .ref z2, .ref z3, .ref z4, .ref z5, .int 45, .ref z6, .ref z7, .ref z8, .int 0, .ref z9, .ref z10, .int 0, .int 0, .int 1, .int 0, .ref z11, .int 0, .null, .ref z12, .ref z13]))] H := hP
  have hD : va_D A [(a0, .inr (13, [.ref z0, .ref z1, .ref z2, .ref z3, .ref z4, .ref z5, .int 45, .ref z6, .ref z7, .ref z8, .int 0, .ref z9, .ref z10, .int 0, .int 0, .int 1, .int 0, .ref z11, .int 0, .null, .ref z12, .ref z13]))] := hD
  refine lv_aload_n hx hb dX11_fails_29 rfl (lv_at hl 0 rfl) ?_
  refine va_get (D := D) (ci := 13) (v := .int 1) (C := RX11) (T := TX11) (N := 22) hx hb hts inX11 hown hK hP 0 rfl rfl 15 (by decide) (hts _ q_49) (fun _ h9 => h9) rfl dX11_fails_30 ?_
  refine lv_if_le (tgt := 40) hx hb dX11_fails_33 (by decide) (fun c => absurd c (by decide)) (fun _ => ?_)
  refine lv_iconst (v := 1) hx hb dX11_fails_36 (by decide) ?_
  refine lv_goto (tgt := 41) hx hb dX11_fails_37 (by decide) ?_
  exact e_z hF hr (by decide) (Nat.le_of_ble_eq_true rfl) (Nat.le_of_ble_eq_true rfl) hS (qg_end hS (fun _ => 0) rfl [0] hP rfl (hD.sub [0] rfl rfl)) dX11_fails_41

set_option maxHeartbeats 4000000 in
set_option maxRecDepth 100000 in
theorem c15_X11_in (l : Launch) (p0 : Int32) (f0 : ¬ p0 < 1) (f1 : 4 < p0) : CT l (.code yX11_in cX11_in 3 (some .boolean)) yX11_in { frames := 0, cells := 0, slots := 0, locals := 0 } [.int p0, .int 1, .int 4] (fun y => []) (fun _ => []) (fun u => some (.int 0)) (fun y u => []) := by
  refine mkM (by decide) (Nat.le_of_ble_eq_true rfl) ?_
  intro p e s m args below meth c D y A ls hF hr hAe hP hD hS hl
  have hF : FX p e s m args meth c cX11_in 3 RX11 "in" D y A := hF
  obtain ⟨⟨hx, hb, hml, hown, hts⟩, hev, heh, hA, hlk, hnm⟩ := id hF
  have hK := hev.1
  have hP : va_P D vwCl [] s.heap := hP
  have hD : va_D A [] := by rw [← hAe]; exact hD.self
  have hl : lv_has ls 3 [(0, .int p0), (1, .int 1), (2, .int 4)] := hl
  refine lv_iload_n hx hb dX11_in_0 rfl (lv_at hl 0 rfl) ?_
  refine lv_iload_n hx hb dX11_in_1 rfl (lv_at hl 1 rfl) ?_
  refine lv_icmp_lt (tgt := 14) hx hb dX11_in_2 (by decide) (fun c => absurd c f0) (fun _ => ?_)
  refine lv_iload_n hx hb dX11_in_5 rfl (lv_at hl 0 rfl) ?_
  refine lv_iload_n hx hb dX11_in_6 rfl (lv_at hl 2 rfl) ?_
  refine lv_icmp_gt (tgt := 14) hx hb dX11_in_7 (by decide) (fun _ => ?_) (fun c => absurd f1 c)
  refine lv_iconst (v := 0) hx hb dX11_in_14 (by decide) ?_
  exact e_z hF hr (by decide) (Nat.le_of_ble_eq_true rfl) (Nat.le_of_ble_eq_true rfl) hS (qg_end hS (fun _ => 0) rfl [] hP rfl d_nil) dX11_in_15

set_option maxHeartbeats 4000000 in
set_option maxRecDepth 100000 in
theorem c16_X11_in (l : Launch) (p0 : Int32) (f0 : ¬ p0 < 1) (f1 : ¬ 4 < p0) : CT l (.code yX11_in cX11_in 3 (some .boolean)) yX11_in { frames := 0, cells := 0, slots := 0, locals := 0 } [.int p0, .int 1, .int 4] (fun y => []) (fun _ => []) (fun u => some (.int 1)) (fun y u => []) := by
  refine mkM (by decide) (Nat.le_of_ble_eq_true rfl) ?_
  intro p e s m args below meth c D y A ls hF hr hAe hP hD hS hl
  have hF : FX p e s m args meth c cX11_in 3 RX11 "in" D y A := hF
  obtain ⟨⟨hx, hb, hml, hown, hts⟩, hev, heh, hA, hlk, hnm⟩ := id hF
  have hK := hev.1
  have hP : va_P D vwCl [] s.heap := hP
  have hD : va_D A [] := by rw [← hAe]; exact hD.self
  have hl : lv_has ls 3 [(0, .int p0), (1, .int 1), (2, .int 4)] := hl
  refine lv_iload_n hx hb dX11_in_0 rfl (lv_at hl 0 rfl) ?_
  refine lv_iload_n hx hb dX11_in_1 rfl (lv_at hl 1 rfl) ?_
  refine lv_icmp_lt (tgt := 14) hx hb dX11_in_2 (by decide) (fun c => absurd c f0) (fun _ => ?_)
  refine lv_iload_n hx hb dX11_in_5 rfl (lv_at hl 0 rfl) ?_
  refine lv_iload_n hx hb dX11_in_6 rfl (lv_at hl 2 rfl) ?_
  refine lv_icmp_gt (tgt := 14) hx hb dX11_in_7 (by decide) (fun c => absurd c f1) (fun _ => ?_)
  refine lv_iconst (v := 1) hx hb dX11_in_10 (by decide) ?_
  refine lv_goto (tgt := 15) hx hb dX11_in_11 (by decide) ?_
  exact e_z hF hr (by decide) (Nat.le_of_ble_eq_true rfl) (Nat.le_of_ble_eq_true rfl) hS (qg_end hS (fun _ => 0) rfl [] hP rfl d_nil) dX11_in_15

set_option maxHeartbeats 4000000 in
set_option maxRecDepth 100000 in
theorem c17_X11_fails (l : Launch) (a0 : Nat) (z0 : Nat) (z1 : Nat) (z2 : Nat) (z3 : Nat) (z4 : Nat) (z5 : Nat) (z6 : Nat) (z7 : Nat) (z8 : Nat) (z9 : Nat) (z10 : Nat) (z11 : Nat) (z12 : Nat) (z13 : Nat) : CT l (.code yX11_fails cX11_fails 4 (some .boolean)) yX11_fails { frames := 0, cells := 0, slots := 0, locals := 0 } [.ref a0, .int 1, .int 0, .int 0] (fun y => [(a0, .inr (13, [.ref z0, .ref z1, .ref z2, .ref z3, .ref z4, .ref z5, .int 45, .ref z6, .ref z7, .ref z8, .int 0, .ref z9, .ref z10, .int 0, .int 0, .int 0, .int 0, .ref z11, .int 0, .null, .ref z12, .ref z13]))]) (fun y => [(a0, .inr (13, [.ref z0, .ref z1, .ref z2, .ref z3, .ref z4, .ref z5, .int 45, .ref z6, .ref z7, .ref z8, .int 0, .ref z9, .ref z10, .int 0, .int 0, .int 0, .int 0, .ref z11, .int 0, .null, .ref z12, .ref z13]))]) (fun u => some (.int 1)) (fun y u => [(a0, .inr (13, [.ref z0, .ref z1, .ref z2, .ref z3, .ref z4, .ref z5, .int 45, .ref z6, .ref z7, .ref z8, .int 0, .ref z9, .ref z10, .int 0, .int 0, .int 1, .int 0, .ref z11, .int 0, .null, .ref z12, .ref z13]))]) := by
  refine mkM (by decide) (Nat.le_of_ble_eq_true rfl) ?_
  intro p e s m args below meth c D y A ls hF hr hAe hP hD hS hl
  have hF : FX p e s m args meth c cX11_fails 4 RX11 "fails" D y A := hF
  obtain ⟨⟨hx, hb, hml, hown, hts⟩, hev, heh, hA, hlk, hnm⟩ := id hF
  have hK := hev.1
  have hP : va_P D vwCl [(a0, .inr (13, [.ref z0, .ref z1, .ref z2, .ref z3, .ref z4, .ref z5, .int 45, .ref z6, .ref z7, .ref z8, .int 0, .ref z9, .ref z10, .int 0, .int 0, .int 0, .int 0, .ref z11, .int 0, .null, .ref z12, .ref z13]))] s.heap := hP
  have hD : va_D A [(a0, .inr (13, [.ref z0, .ref z1, .ref z2, .ref z3, .ref z4, .ref z5, .int 45, .ref z6, .ref z7, .ref z8, .int 0, .ref z9, .ref z10, .int 0, .int 0, .int 0, .int 0, .ref z11, .int 0, .null, .ref z12, .ref z13]))] := by rw [← hAe]; exact hD.self
  have hl : lv_has ls 4 [(0, .ref a0), (1, .int 1), (2, .int 0), (3, .int 0)] := hl
  refine lv_aload_n hx hb dX11_fails_0 rfl (lv_at hl 0 rfl) ?_
  refine lv_iload_n hx hb dX11_fails_1 rfl (lv_at hl 1 rfl) ?_
  refine lv_if_eq (tgt := 9) hx hb dX11_fails_2 (by decide) (fun c => absurd c (by decide)) (fun _ => ?_)
  refine lv_iconst (v := 1) hx hb dX11_fails_5 (by decide) ?_
  refine lv_goto (tgt := 26) hx hb dX11_fails_6 (by decide) ?_
  refine va_put (D := D) (ci := 13) (v := .int 1) (ty := .int) (C := RX11) (T := TX11) (N := 22) hx hb hts inX11 tyX11 tyX11_ok nmX11 hown hK hP hD hS 0 rfl rfl 15 (by decide) (hts _ q_49) (fun _ h9 => h9) rfl (by decide +kernel) rfl rfl (Nat.le_of_ble_eq_true rfl) dX11_fails_26 (fun H locs hP hD hS => ?_)
  have hP : va_P D vwCl [(a0, .inr (13, [.ref z0, .ref z1, .ref z2, .ref z3, .ref z4, .ref z5, .int 45, .ref z6, .ref z7, .ref z8, .int 0, .ref z9, .ref z10, .int 0, .int 0, .int 1, .int 0, .ref z11, .int 0, .null, .ref z12, .ref z13]))] H := hP
  have hD : va_D A [(a0, .inr (13, [.ref z0, .ref z1, .ref z2, .ref z3, .ref z4, .ref z5, .int 45, .ref z6, .ref z7, .ref z8, .int 0, .ref z9, .ref z10, .int 0, .int 0, .int 1, .int 0, .ref z11, .int 0, .null, .ref z12, .ref z13]))] := hD
  refine lv_aload_n hx hb dX11_fails_29 rfl (lv_at hl 0 rfl) ?_
  refine va_get (D := D) (ci := 13) (v := .int 1) (C := RX11) (T := TX11) (N := 22) hx hb hts inX11 hown hK hP 0 rfl rfl 15 (by decide) (hts _ q_49) (fun _ h9 => h9) rfl dX11_fails_30 ?_
  refine lv_if_le (tgt := 40) hx hb dX11_fails_33 (by decide) (fun c => absurd c (by decide)) (fun _ => ?_)
  refine lv_iconst (v := 1) hx hb dX11_fails_36 (by decide) ?_
  refine lv_goto (tgt := 41) hx hb dX11_fails_37 (by decide) ?_
  exact e_z hF hr (by decide) (Nat.le_of_ble_eq_true rfl) (Nat.le_of_ble_eq_true rfl) hS (qg_end hS (fun _ => 0) rfl [0] hP rfl (hD.sub [0] rfl rfl)) dX11_fails_41

set_option maxHeartbeats 4000000 in
set_option maxRecDepth 100000 in
theorem c10_X11_places (l : Launch) (a0 : Nat) (a1 : Nat) (z0 : Nat) (z1 : Nat) (z2 : Nat) (z3 : Nat) (z4 : Nat) (z5 : Nat) (z6 : Nat) (z7 : Nat) (z8 : Nat) (z9 : Nat) (z10 : Nat) (z11 : Nat) (z12 : Nat) (p0 : Int32) (p1 : Int32) : CT l (.code yX11_places cX11_places 4 (some .int)) yX11_places { frames := 2, cells := 0, slots := 0, locals := 43 } [.ref a0, .int p0, .int p1] (fun y => [(a0, .inr (13, [.ref a1, .ref z0, .ref z1, .ref z2, .ref z3, .ref z4, .int 45, .ref z5, .ref z6, .ref z7, .int 0, .ref z8, .ref z9, .int 0, .int 0, .int 0, .int 0, .ref z10, .int 0, .null, .ref z11, .ref z12])), (a1, .inl (y 0, 3, .inl (fun _ => 0)))]) (fun y => [(a0, .inr (13, [.ref a1, .ref z0, .ref z1, .ref z2, .ref z3, .ref z4, .int 45, .ref z5, .ref z6, .ref z7, .int 0, .ref z8, .ref z9, .int 0, .int 0, .int 0, .int 0, .ref z10, .int 0, .null, .ref z11, .ref z12])), (a1, .inl (y 0, 3, .inl (fun _ => 0)))]) (fun u => some (.int 0)) (fun y u => [(a0, .inr (13, [.ref a1, .ref z0, .ref z1, .ref z2, .ref z3, .ref z4, .int 45, .ref z5, .ref z6, .ref z7, .int 0, .ref z8, .ref z9, .int 0, .int 0, .int 1, .int 0, .ref z10, .int 0, .null, .ref z11, .ref z12])), (a1, .inl (y 0, 3, .inl (fun _ => 0)))]) := by
  refine mkM (by decide) (Nat.le_of_ble_eq_true rfl) ?_
  intro p e s m args below meth c D y A ls hF hr hAe hP hD hS hl
  have hF : FX p e s m args meth c cX11_places 4 RX11 "places" D y A := hF
  obtain ⟨⟨hx, hb, hml, hown, hts⟩, hev, heh, hA, hlk, hnm⟩ := id hF
  have hK := hev.1
  have hP : va_P D vwCl [(a0, .inr (13, [.ref a1, .ref z0, .ref z1, .ref z2, .ref z3, .ref z4, .int 45, .ref z5, .ref z6, .ref z7, .int 0, .ref z8, .ref z9, .int 0, .int 0, .int 0, .int 0, .ref z10, .int 0, .null, .ref z11, .ref z12])), (a1, .inl (y 0, 3, .inl (fun _ => 0)))] s.heap := hP
  have hD : va_D A [(a0, .inr (13, [.ref a1, .ref z0, .ref z1, .ref z2, .ref z3, .ref z4, .int 45, .ref z5, .ref z6, .ref z7, .int 0, .ref z8, .ref z9, .int 0, .int 0, .int 0, .int 0, .ref z10, .int 0, .null, .ref z11, .ref z12])), (a1, .inl (y 0, 3, .inl (fun _ => 0)))] := by rw [← hAe]; exact hD.self
  have hl : lv_has ls 4 [(0, .ref a0), (1, .int p0), (2, .int p1)] := hl
  refine lv_aload_n hx hb dX11_places_0 rfl (lv_at hl 0 rfl) ?_
  refine lv_aload_n hx hb dX11_places_1 rfl (lv_at hl 0 rfl) ?_
  refine lv_iload_n hx hb dX11_places_2 rfl (lv_at hl 1 rfl) ?_
  refine cV (l := l) (yM := yX11_isHouse) (C := RX11) (As := [.int p0]) (rest := [.ref a0]) (wr := [(a0, .inr (13, [.ref a1, .ref z0, .ref z1, .ref z2, .ref z3, .ref z4, .int 45, .ref z5, .ref z6, .ref z7, .int 0, .ref z8, .ref z9, .int 0, .int 0, .int 0, .int 0, .ref z10, .int 0, .null, .ref z11, .ref z12])), (a1, .inl (y 0, 3, .inl (fun _ => 0)))]) hF (c11_X11_isHouse l a0 a1 z0 z1 z2 z3 z4 z5 z6 z7 z8 z9 z10 z11 z12 p0) gv_RX11_135 1 (by decide +kernel) rfl ⟨(Nat.le_of_ble_eq_true rfl), (Nat.le_of_ble_eq_true rfl)⟩ hl.1 rfl (Nat.le_of_ble_eq_true rfl) dX11_places_3 ⟨(Nat.le_of_ble_eq_true rfl), (Nat.le_of_ble_eq_true rfl)⟩ hP hD hS (pA hA hS) (fun _ h => h) [0, 1] [] [0, 1] rfl rfl rfl rfl rfl (by decide) 0 (ci := 13) rfl rfl rfl (fun u_1 H locs hP hD hS => ?_)
  have hP : va_P D vwCl [(a0, .inr (13, [.ref a1, .ref z0, .ref z1, .ref z2, .ref z3, .ref z4, .int 45, .ref z5, .ref z6, .ref z7, .int 0, .ref z8, .ref z9, .int 0, .int 0, .int 0, .int 0, .ref z10, .int 0, .null, .ref z11, .ref z12])), (a1, .inl (y 0, 3, .inl (fun _ => 0)))] H := hP
  have hD : va_D A [(a0, .inr (13, [.ref a1, .ref z0, .ref z1, .ref z2, .ref z3, .ref z4, .int 45, .ref z5, .ref z6, .ref z7, .int 0, .ref z8, .ref z9, .int 0, .int 0, .int 0, .int 0, .ref z10, .int 0, .null, .ref z11, .ref z12])), (a1, .inl (y 0, 3, .inl (fun _ => 0)))] := hD
  refine W.widen (k := 0) (n := 0) (Nat.le_of_ble_eq_true rfl) (Nat.le_of_ble_eq_true rfl) ?_
  refine W.eq (g2 := F0 m 6 ls [.int 0, .ref a0]) rfl ?_
  refine lv_if_ne (tgt := 13) hx hb dX11_places_6 (by decide) (fun c => absurd (by decide) c) (fun _ => ?_)
  refine lv_iconst (v := 1) hx hb dX11_places_9 (by decide) ?_
  refine lv_goto (tgt := 14) hx hb dX11_places_10 (by decide) ?_
  refine lv_iload_n hx hb dX11_places_14 rfl (lv_at hl 2 rfl) ?_
  refine lv_iconst (v := 1) hx hb dX11_places_15 (by decide) ?_
  refine lv_iconst (v := 4) hx hb dX11_places_16 (by decide) ?_
  rcases Classical.em (p1 < 1) with c_2 | c_2
  · refine cS (l := l) (yM := yX11_in) (As := [.int p1, .int 1, .int 4]) (rest := [.int 1, .ref a0]) (wr := [(a0, .inr (13, [.ref a1, .ref z0, .ref z1, .ref z2, .ref z3, .ref z4, .int 45, .ref z5, .ref z6, .ref z7, .int 0, .ref z8, .ref z9, .int 0, .int 0, .int 0, .int 0, .ref z10, .int 0, .null, .ref z11, .ref z12])), (a1, .inl (y 0, 3, .inl (fun _ => 0)))]) hF (c13_X11_in l p1 c_2) gs_RX11_78 3 (by decide +kernel) rfl ⟨(Nat.le_of_ble_eq_true rfl), (Nat.le_of_ble_eq_true rfl)⟩ hl.1 rfl (Nat.le_of_ble_eq_true rfl) dX11_places_17 ⟨(Nat.le_of_ble_eq_true rfl), (Nat.le_of_ble_eq_true rfl)⟩ hP hD hS (pA hA hS) (fun _ h => h) [] [] [0, 1] rfl rfl rfl rfl rfl (by decide) (fun u_3 H locs hP hD hS => ?_)
    have hP : va_P D vwCl [(a0, .inr (13, [.ref a1, .ref z0, .ref z1, .ref z2, .ref z3, .ref z4, .int 45, .ref z5, .ref z6, .ref z7, .int 0, .ref z8, .ref z9, .int 0, .int 0, .int 0, .int 0, .ref z10, .int 0, .null, .ref z11, .ref z12])), (a1, .inl (y 0, 3, .inl (fun _ => 0)))] H := hP
    have hD : va_D A [(a0, .inr (13, [.ref a1, .ref z0, .ref z1, .ref z2, .ref z3, .ref z4, .int 45, .ref z5, .ref z6, .ref z7, .int 0, .ref z8, .ref z9, .int 0, .int 0, .int 0, .int 0, .ref z10, .int 0, .null, .ref z11, .ref z12])), (a1, .inl (y 0, 3, .inl (fun _ => 0)))] := hD
    refine W.widen (k := 0) (n := 0) (Nat.le_of_ble_eq_true rfl) (Nat.le_of_ble_eq_true rfl) ?_
    refine W.eq (g2 := F0 m 20 ls [.int 0, .int 1, .ref a0]) rfl ?_
    refine lv_if_ne (tgt := 27) hx hb dX11_places_20 (by decide) (fun c => absurd (by decide) c) (fun _ => ?_)
    refine lv_iconst (v := 1) hx hb dX11_places_23 (by decide) ?_
    refine lv_goto (tgt := 28) hx hb dX11_places_24 (by decide) ?_
    refine lv_iconst (v := 0) hx hb dX11_places_28 (by decide) ?_
    refine cV (l := l) (yM := yX11_fails) (C := RX11) (As := [.int 1, .int 1, .int 0]) (rest := []) (wr := [(a1, .inl (y 0, 3, .inl (fun _ => 0)))]) hF (c14_X11_fails l a0 a1 z0 z1 z2 z3 z4 z5 z6 z7 z8 z9 z10 z11 z12) gv_RX11_128 3 (by decide +kernel) rfl ⟨(Nat.le_of_ble_eq_true rfl), (Nat.le_of_ble_eq_true rfl)⟩ hl.1 rfl (Nat.le_of_ble_eq_true rfl) dX11_places_29 ⟨(Nat.le_of_ble_eq_true rfl), (Nat.le_of_ble_eq_true rfl)⟩ hP hD hS (va_free (wc := [(a0, .inr (13, [.ref a1, .ref z0, .ref z1, .ref z2, .ref z3, .ref z4, .int 45, .ref z5, .ref z6, .ref z7, .int 0, .ref z8, .ref z9, .int 0, .int 0, .int 0, .int 0, .ref z10, .int 0, .null, .ref z11, .ref z12]))]) hD hS hA [0] rfl) (fun _ h => h) [0] [0] [1] rfl rfl rfl rfl rfl (by decide) 0 (ci := 13) rfl rfl rfl (fun u_4 H locs hP hD hS => ?_)
    have hP : va_P D vwCl [(a1, .inl (y 0, 3, .inl (fun _ => 0))), (a0, .inr (13, [.ref a1, .ref z0, .ref z1, .ref z2, .ref z3, .ref z4, .int 45, .ref z5, .ref z6, .ref z7, .int 0, .ref z8, .ref z9, .int 0, .int 0, .int 1, .int 0, .ref z10, .int 0, .null, .ref z11, .ref z12]))] H := hP
    have hD : va_D A [(a1, .inl (y 0, 3, .inl (fun _ => 0))), (a0, .inr (13, [.ref a1, .ref z0, .ref z1, .ref z2, .ref z3, .ref z4, .int 45, .ref z5, .ref z6, .ref z7, .int 0, .ref z8, .ref z9, .int 0, .int 0, .int 1, .int 0, .ref z10, .int 0, .null, .ref z11, .ref z12]))] := hD
    refine W.widen (k := 0) (n := 0) (Nat.le_of_ble_eq_true rfl) (Nat.le_of_ble_eq_true rfl) ?_
    refine W.eq (g2 := F0 m 32 ls [.int 1]) rfl ?_
    refine lv_if_eq (tgt := 37) hx hb dX11_places_32 (by decide) (fun c => absurd c (by decide)) (fun _ => ?_)
    refine lv_iconst (v := 0) hx hb dX11_places_35 (by decide) ?_
    exact e_i hF hr (Nat.le_of_ble_eq_true rfl) (Nat.le_of_ble_eq_true rfl) hS (qg_end hS (fun _ => 0) rfl [1, 0] hP rfl (hD.sub [1, 0] rfl rfl)) dX11_places_36
  · rcases Classical.em (4 < p1) with c_5 | c_5
    · refine cS (l := l) (yM := yX11_in) (As := [.int p1, .int 1, .int 4]) (rest := [.int 1, .ref a0]) (wr := [(a0, .inr (13, [.ref a1, .ref z0, .ref z1, .ref z2, .ref z3, .ref z4, .int 45, .ref z5, .ref z6, .ref z7, .int 0, .ref z8, .ref z9, .int 0, .int 0, .int 0, .int 0, .ref z10, .int 0, .null, .ref z11, .ref z12])), (a1, .inl (y 0, 3, .inl (fun _ => 0)))]) hF (c15_X11_in l p1 c_2 c_5) gs_RX11_78 3 (by decide +kernel) rfl ⟨(Nat.le_of_ble_eq_true rfl), (Nat.le_of_ble_eq_true rfl)⟩ hl.1 rfl (Nat.le_of_ble_eq_true rfl) dX11_places_17 ⟨(Nat.le_of_ble_eq_true rfl), (Nat.le_of_ble_eq_true rfl)⟩ hP hD hS (pA hA hS) (fun _ h => h) [] [] [0, 1] rfl rfl rfl rfl rfl (by decide) (fun u_6 H locs hP hD hS => ?_)
      have hP : va_P D vwCl [(a0, .inr (13, [.ref a1, .ref z0, .ref z1, .ref z2, .ref z3, .ref z4, .int 45, .ref z5, .ref z6, .ref z7, .int 0, .ref z8, .ref z9, .int 0, .int 0, .int 0, .int 0, .ref z10, .int 0, .null, .ref z11, .ref z12])), (a1, .inl (y 0, 3, .inl (fun _ => 0)))] H := hP
      have hD : va_D A [(a0, .inr (13, [.ref a1, .ref z0, .ref z1, .ref z2, .ref z3, .ref z4, .int 45, .ref z5, .ref z6, .ref z7, .int 0, .ref z8, .ref z9, .int 0, .int 0, .int 0, .int 0, .ref z10, .int 0, .null, .ref z11, .ref z12])), (a1, .inl (y 0, 3, .inl (fun _ => 0)))] := hD
      refine W.widen (k := 0) (n := 0) (Nat.le_of_ble_eq_true rfl) (Nat.le_of_ble_eq_true rfl) ?_
      refine W.eq (g2 := F0 m 20 ls [.int 0, .int 1, .ref a0]) rfl ?_
      refine lv_if_ne (tgt := 27) hx hb dX11_places_20 (by decide) (fun c => absurd (by decide) c) (fun _ => ?_)
      refine lv_iconst (v := 1) hx hb dX11_places_23 (by decide) ?_
      refine lv_goto (tgt := 28) hx hb dX11_places_24 (by decide) ?_
      refine lv_iconst (v := 0) hx hb dX11_places_28 (by decide) ?_
      refine cV (l := l) (yM := yX11_fails) (C := RX11) (As := [.int 1, .int 1, .int 0]) (rest := []) (wr := [(a1, .inl (y 0, 3, .inl (fun _ => 0)))]) hF (c14_X11_fails l a0 a1 z0 z1 z2 z3 z4 z5 z6 z7 z8 z9 z10 z11 z12) gv_RX11_128 3 (by decide +kernel) rfl ⟨(Nat.le_of_ble_eq_true rfl), (Nat.le_of_ble_eq_true rfl)⟩ hl.1 rfl (Nat.le_of_ble_eq_true rfl) dX11_places_29 ⟨(Nat.le_of_ble_eq_true rfl), (Nat.le_of_ble_eq_true rfl)⟩ hP hD hS (va_free (wc := [(a0, .inr (13, [.ref a1, .ref z0, .ref z1, .ref z2, .ref z3, .ref z4, .int 45, .ref z5, .ref z6, .ref z7, .int 0, .ref z8, .ref z9, .int 0, .int 0, .int 0, .int 0, .ref z10, .int 0, .null, .ref z11, .ref z12]))]) hD hS hA [0] rfl) (fun _ h => h) [0] [0] [1] rfl rfl rfl rfl rfl (by decide) 0 (ci := 13) rfl rfl rfl (fun u_7 H locs hP hD hS => ?_)
      have hP : va_P D vwCl [(a1, .inl (y 0, 3, .inl (fun _ => 0))), (a0, .inr (13, [.ref a1, .ref z0, .ref z1, .ref z2, .ref z3, .ref z4, .int 45, .ref z5, .ref z6, .ref z7, .int 0, .ref z8, .ref z9, .int 0, .int 0, .int 1, .int 0, .ref z10, .int 0, .null, .ref z11, .ref z12]))] H := hP
      have hD : va_D A [(a1, .inl (y 0, 3, .inl (fun _ => 0))), (a0, .inr (13, [.ref a1, .ref z0, .ref z1, .ref z2, .ref z3, .ref z4, .int 45, .ref z5, .ref z6, .ref z7, .int 0, .ref z8, .ref z9, .int 0, .int 0, .int 1, .int 0, .ref z10, .int 0, .null, .ref z11, .ref z12]))] := hD
      refine W.widen (k := 0) (n := 0) (Nat.le_of_ble_eq_true rfl) (Nat.le_of_ble_eq_true rfl) ?_
      refine W.eq (g2 := F0 m 32 ls [.int 1]) rfl ?_
      refine lv_if_eq (tgt := 37) hx hb dX11_places_32 (by decide) (fun c => absurd c (by decide)) (fun _ => ?_)
      refine lv_iconst (v := 0) hx hb dX11_places_35 (by decide) ?_
      exact e_i hF hr (Nat.le_of_ble_eq_true rfl) (Nat.le_of_ble_eq_true rfl) hS (qg_end hS (fun _ => 0) rfl [1, 0] hP rfl (hD.sub [1, 0] rfl rfl)) dX11_places_36
    · refine cS (l := l) (yM := yX11_in) (As := [.int p1, .int 1, .int 4]) (rest := [.int 1, .ref a0]) (wr := [(a0, .inr (13, [.ref a1, .ref z0, .ref z1, .ref z2, .ref z3, .ref z4, .int 45, .ref z5, .ref z6, .ref z7, .int 0, .ref z8, .ref z9, .int 0, .int 0, .int 0, .int 0, .ref z10, .int 0, .null, .ref z11, .ref z12])), (a1, .inl (y 0, 3, .inl (fun _ => 0)))]) hF (c16_X11_in l p1 c_2 c_5) gs_RX11_78 3 (by decide +kernel) rfl ⟨(Nat.le_of_ble_eq_true rfl), (Nat.le_of_ble_eq_true rfl)⟩ hl.1 rfl (Nat.le_of_ble_eq_true rfl) dX11_places_17 ⟨(Nat.le_of_ble_eq_true rfl), (Nat.le_of_ble_eq_true rfl)⟩ hP hD hS (pA hA hS) (fun _ h => h) [] [] [0, 1] rfl rfl rfl rfl rfl (by decide) (fun u_8 H locs hP hD hS => ?_)
      have hP : va_P D vwCl [(a0, .inr (13, [.ref a1, .ref z0, .ref z1, .ref z2, .ref z3, .ref z4, .int 45, .ref z5, .ref z6, .ref z7, .int 0, .ref z8, .ref z9, .int 0, .int 0, .int 0, .int 0, .ref z10, .int 0, .null, .ref z11, .ref z12])), (a1, .inl (y 0, 3, .inl (fun _ => 0)))] H := hP
      have hD : va_D A [(a0, .inr (13, [.ref a1, .ref z0, .ref z1, .ref z2, .ref z3, .ref z4, .int 45, .ref z5, .ref z6, .ref z7, .int 0, .ref z8, .ref z9, .int 0, .int 0, .int 0, .int 0, .ref z10, .int 0, .null, .ref z11, .ref z12])), (a1, .inl (y 0, 3, .inl (fun _ => 0)))] := hD
      refine W.widen (k := 0) (n := 0) (Nat.le_of_ble_eq_true rfl) (Nat.le_of_ble_eq_true rfl) ?_
      refine W.eq (g2 := F0 m 20 ls [.int 1, .int 1, .ref a0]) rfl ?_
      refine lv_if_ne (tgt := 27) hx hb dX11_places_20 (by decide) (fun _ => ?_) (fun c => absurd c (by decide))
      refine lv_iconst (v := 0) hx hb dX11_places_27 (by decide) ?_
      refine lv_iconst (v := 0) hx hb dX11_places_28 (by decide) ?_
      refine cV (l := l) (yM := yX11_fails) (C := RX11) (As := [.int 1, .int 0, .int 0]) (rest := []) (wr := [(a1, .inl (y 0, 3, .inl (fun _ => 0)))]) hF (c17_X11_fails l a0 a1 z0 z1 z2 z3 z4 z5 z6 z7 z8 z9 z10 z11 z12) gv_RX11_128 3 (by decide +kernel) rfl ⟨(Nat.le_of_ble_eq_true rfl), (Nat.le_of_ble_eq_true rfl)⟩ hl.1 rfl (Nat.le_of_ble_eq_true rfl) dX11_places_29 ⟨(Nat.le_of_ble_eq_true rfl), (Nat.le_of_ble_eq_true rfl)⟩ hP hD hS (va_free (wc := [(a0, .inr (13, [.ref a1, .ref z0, .ref z1, .ref z2, .ref z3, .ref z4, .int 45, .ref z5, .ref z6, .ref z7, .int 0, .ref z8, .ref z9, .int 0, .int 0, .int 0, .int 0, .ref z10, .int 0, .null, .ref z11, .ref z12]))]) hD hS hA [0] rfl) (fun _ h => h) [0] [0] [1] rfl rfl rfl rfl rfl (by decide) 0 (ci := 13) rfl rfl rfl (fun u_9 H locs hP hD hS => ?_)
      have hP : va_P D vwCl [(a1, .inl (y 0, 3, .inl (fun _ => 0))), (a0, .inr (13, [.ref a1, .ref z0, .ref z1, .ref z2, .ref z3, .ref z4, .int 45, .ref z5, .ref z6, .ref z7, .int 0, .ref z8, .ref z9, .int 0, .int 0, .int 1, .int 0, .ref z10, .int 0, .null, .ref z11, .ref z12]))] H := hP
      have hD : va_D A [(a1, .inl (y 0, 3, .inl (fun _ => 0))), (a0, .inr (13, [.ref a1, .ref z0, .ref z1, .ref z2, .ref z3, .ref z4, .int 45, .ref z5, .ref z6, .ref z7, .int 0, .ref z8, .ref z9, .int 0, .int 0, .int 1, .int 0, .ref z10, .int 0, .null, .ref z11, .ref z12]))] := hD
      refine W.widen (k := 0) (n := 0) (Nat.le_of_ble_eq_true rfl) (Nat.le_of_ble_eq_true rfl) ?_
      refine W.eq (g2 := F0 m 32 ls [.int 1]) rfl ?_
      refine lv_if_eq (tgt := 37) hx hb dX11_places_32 (by decide) (fun c => absurd c (by decide)) (fun _ => ?_)
      refine lv_iconst (v := 0) hx hb dX11_places_35 (by decide) ?_
      exact e_i hF hr (Nat.le_of_ble_eq_true rfl) (Nat.le_of_ble_eq_true rfl) hS (qg_end hS (fun _ => 0) rfl [1, 0] hP rfl (hD.sub [1, 0] rfl rfl)) dX11_places_36

set_option maxHeartbeats 4000000 in
set_option maxRecDepth 100000 in
theorem c19_X10_needOfferSide (l : Launch) (z0 : Nat) : CT l (.code yX10_needOfferSide cX10_needOfferSide 2 none) yX10_needOfferSide { frames := 0, cells := 0, slots := 0, locals := 0 } [.ref z0, .int 112] (fun y => []) (fun _ => []) (fun u => none) (fun y u => []) := by
  refine mkM (by decide) (Nat.le_of_ble_eq_true rfl) ?_
  intro p e s m args below meth c D y A ls hF hr hAe hP hD hS hl
  have hF : FX p e s m args meth c cX10_needOfferSide 2 RX10 "needOfferSide" D y A := hF
  obtain ⟨⟨hx, hb, hml, hown, hts⟩, hev, heh, hA, hlk, hnm⟩ := id hF
  have hK := hev.1
  have hP : va_P D vwCl [] s.heap := hP
  have hD : va_D A [] := by rw [← hAe]; exact hD.self
  have hl : lv_has ls 2 [(0, .ref z0), (1, .int 112)] := hl
  refine lv_iload_n hx hb dX10_needOfferSide_0 rfl (lv_at hl 1 rfl) ?_
  refine lv_bipush (v := 112) hx hb dX10_needOfferSide_1 (by decide) ?_
  refine lv_icmp_eq (tgt := 23) hx hb dX10_needOfferSide_3 (by decide) (fun _ => ?_) (fun c => absurd (by decide) c)
  exact e_v hF hr (Nat.le_of_ble_eq_true rfl) (Nat.le_of_ble_eq_true rfl) hS (qg_end hS (fun _ => 0) rfl [] hP rfl d_nil) dX10_needOfferSide_23

set_option maxHeartbeats 4000000 in
set_option maxRecDepth 100000 in
theorem c21_J7_fill_53178 (l : Launch) (a0 : Nat) : CT l (.code yJ7_fill_53178 cJ7_fill_53178 4 none) yJ7_fill_53178 { frames := 0, cells := 0, slots := 0, locals := 0 } [.ref a0, .int (-1)] (fun y => [(a0, .inl (y 0, 10, .inl (fun _ => (-1))))]) (fun y => [(a0, .inl (y 0, 10, .inl (fun _ => (-1))))]) (fun u => none) (fun y u => [(a0, .inl (y 0, 10, .inl (fun _ => (-1))))]) := by
  refine mkM (by decide) (Nat.le_of_ble_eq_true rfl) ?_
  intro p e s m args below meth c D y A ls hF hr hAe hP hD hS hl
  have hF : FX p e s m args meth c cJ7_fill_53178 4 RJ7 "fill" D y A := hF
  obtain ⟨⟨hx, hb, hml, hown, hts⟩, hev, heh, hA, hlk, hnm⟩ := id hF
  have hK := hev.1
  have hP : va_P D vwCl [(a0, .inl (y 0, 10, .inl (fun _ => (-1))))] s.heap := hP
  have hD : va_D A [(a0, .inl (y 0, 10, .inl (fun _ => (-1))))] := by rw [← hAe]; exact hD.self
  have hl : lv_has ls 4 [(0, .ref a0), (1, .int (-1))] := hl
  refine lv_iconst (v := 0) hx hb dJ7_fill_53178_0 (by decide) ?_
  refine lv_istore_n (lv' := [(2, .int 0), (0, .ref a0), (1, .int (-1))]) hx hb dJ7_fill_53178_1 rfl hl (by decide) rfl (fun ls hl => ?_)
  refine lv_aload_n hx hb dJ7_fill_53178_2 rfl (lv_at hl 1 rfl) ?_
  refine va_alen (v := 10) hx hb hK hP 0 0 rfl rfl (by decide) dJ7_fill_53178_3 ?_
  refine lv_istore_n (lv' := [(3, .int 10), (2, .int 0), (0, .ref a0), (1, .int (-1))]) hx hb dJ7_fill_53178_4 rfl hl (by decide) rfl (fun ls hl => ?_)
  refine lp (N := 10) (Wd := fun i => [(a0, .inl (y 0, 10, .inl (fun _ => (-1))))]) (Lv := fun i => [(3, .int 10), (2, .int (nI i)), (0, .ref a0), (1, .int (-1))]) hP hD hS (lv_sub hl [0, 1, 2, 3] rfl) (fun i hi ih H locs ls hP hD hS hl => ?_) (fun H locs ls hP hD hS hl => ?_)
  · have hP : va_P D vwCl [(a0, .inl (y 0, 10, .inl (fun _ => (-1))))] H := hP
    have hD : va_D A [(a0, .inl (y 0, 10, .inl (fun _ => (-1))))] := hD
    have hl : lv_has ls 4 [(3, .int 10), (2, .int (nI i)), (0, .ref a0), (1, .int (-1))] := hl
    have hi1 : (nI i) < (10 : Int32) := nI_lt hi (by decide)
    have hi0 : ¬ (nI i) < (0 : Int32) := nI_pos (by omega)
    refine lv_iload_n hx hb dJ7_fill_53178_5 rfl (lv_at hl 1 rfl) ?_
    refine lv_iload_n hx hb dJ7_fill_53178_6 rfl (lv_at hl 0 rfl) ?_
    refine lv_icmp_ge (tgt := 20) hx hb dJ7_fill_53178_7 (by decide) (fun c => absurd c (by have e0 : (0 : Int32).toInt = 0 := (by decide); have e1 : (10 : Int32).toInt = 10 := (by decide); have h9 := And.intro hi1 hi0; simp only [Int32.lt_iff_toInt_lt, Int32.le_iff_toInt_le, ← Int32.toInt_inj, e0, e1] at h9 ⊢; omega)) (fun _ => ?_)
    refine lv_aload_n hx hb dJ7_fill_53178_10 rfl (lv_at hl 2 rfl) ?_
    refine lv_iload_n hx hb dJ7_fill_53178_11 rfl (lv_at hl 1 rfl) ?_
    refine lv_iload_n hx hb dJ7_fill_53178_12 rfl (lv_at hl 3 rfl) ?_
    refine va_iast hx hb hK hP hD hS 0 0 rfl rfl (vp_in_nI (by omega) (by decide)) dJ7_fill_53178_13 (fun H locs hP hD hS => ?_)
    obtain ⟨hP, hD⟩ := same_c (g := (fun _ => (-1))) hP hD 0 rfl (fun j _ => by simp [upd])
    have hP : va_P D vwCl [(a0, .inl (y 0, 10, .inl (fun _ => (-1))))] H := hP
    have hD : va_D A [(a0, .inl (y 0, 10, .inl (fun _ => (-1))))] := hD
    refine lv_iinc (v := nI (i + 1)) (lv' := [(2, .int (nI (i + 1))), (3, .int 10), (0, .ref a0), (1, .int (-1))]) hx hb dJ7_fill_53178_14 hl (k := 1) rfl (nI_inc i) (by decide) rfl (fun ls hl => ?_)
    refine lv_goto (tgt := 5) hx hb dJ7_fill_53178_17 (by decide) ?_
    exact ih _ _ _ hP hD hS (lv_sub hl [1, 0, 2, 3] rfl)
  · have hP : va_P D vwCl [(a0, .inl (y 0, 10, .inl (fun _ => (-1))))] H := hP
    have hD : va_D A [(a0, .inl (y 0, 10, .inl (fun _ => (-1))))] := hD
    have hl : lv_has ls 4 [(3, .int 10), (2, .int 10), (0, .ref a0), (1, .int (-1))] := hl
    refine lv_iload_n hx hb dJ7_fill_53178_5 rfl (lv_at hl 1 rfl) ?_
    refine lv_iload_n hx hb dJ7_fill_53178_6 rfl (lv_at hl 0 rfl) ?_
    refine lv_icmp_ge (tgt := 20) hx hb dJ7_fill_53178_7 (by decide) (fun _ => ?_) (fun c => absurd (by decide) c)
    exact e_v hF hr (Nat.le_of_ble_eq_true rfl) (Nat.le_of_ble_eq_true rfl) hS (qg_end hS (fun _ => 0) rfl [0] hP rfl (hD.sub [0] rfl rfl)) dJ7_fill_53178_20

set_option maxHeartbeats 4000000 in
set_option maxRecDepth 100000 in
theorem c22_J7_fill_53178 (l : Launch) (a0 : Nat) : CT l (.code yJ7_fill_53178 cJ7_fill_53178 4 none) yJ7_fill_53178 { frames := 0, cells := 0, slots := 0, locals := 0 } [.ref a0, .int 0] (fun y => [(a0, .inl (y 0, 10, .inl (fun _ => 0)))]) (fun y => [(a0, .inl (y 0, 10, .inl (fun _ => 0)))]) (fun u => none) (fun y u => [(a0, .inl (y 0, 10, .inl (fun _ => 0)))]) := by
  refine mkM (by decide) (Nat.le_of_ble_eq_true rfl) ?_
  intro p e s m args below meth c D y A ls hF hr hAe hP hD hS hl
  have hF : FX p e s m args meth c cJ7_fill_53178 4 RJ7 "fill" D y A := hF
  obtain ⟨⟨hx, hb, hml, hown, hts⟩, hev, heh, hA, hlk, hnm⟩ := id hF
  have hK := hev.1
  have hP : va_P D vwCl [(a0, .inl (y 0, 10, .inl (fun _ => 0)))] s.heap := hP
  have hD : va_D A [(a0, .inl (y 0, 10, .inl (fun _ => 0)))] := by rw [← hAe]; exact hD.self
  have hl : lv_has ls 4 [(0, .ref a0), (1, .int 0)] := hl
  refine lv_iconst (v := 0) hx hb dJ7_fill_53178_0 (by decide) ?_
  refine lv_istore_n (lv' := [(2, .int 0), (0, .ref a0), (1, .int 0)]) hx hb dJ7_fill_53178_1 rfl hl (by decide) rfl (fun ls hl => ?_)
  refine lv_aload_n hx hb dJ7_fill_53178_2 rfl (lv_at hl 1 rfl) ?_
  refine va_alen (v := 10) hx hb hK hP 0 0 rfl rfl (by decide) dJ7_fill_53178_3 ?_
  refine lv_istore_n (lv' := [(3, .int 10), (2, .int 0), (0, .ref a0), (1, .int 0)]) hx hb dJ7_fill_53178_4 rfl hl (by decide) rfl (fun ls hl => ?_)
  refine lp (N := 10) (Wd := fun i => [(a0, .inl (y 0, 10, .inl (fun _ => 0)))]) (Lv := fun i => [(3, .int 10), (2, .int (nI i)), (0, .ref a0), (1, .int 0)]) hP hD hS (lv_sub hl [0, 1, 2, 3] rfl) (fun i hi ih H locs ls hP hD hS hl => ?_) (fun H locs ls hP hD hS hl => ?_)
  · have hP : va_P D vwCl [(a0, .inl (y 0, 10, .inl (fun _ => 0)))] H := hP
    have hD : va_D A [(a0, .inl (y 0, 10, .inl (fun _ => 0)))] := hD
    have hl : lv_has ls 4 [(3, .int 10), (2, .int (nI i)), (0, .ref a0), (1, .int 0)] := hl
    have hi1 : (nI i) < (10 : Int32) := nI_lt hi (by decide)
    have hi0 : ¬ (nI i) < (0 : Int32) := nI_pos (by omega)
    refine lv_iload_n hx hb dJ7_fill_53178_5 rfl (lv_at hl 1 rfl) ?_
    refine lv_iload_n hx hb dJ7_fill_53178_6 rfl (lv_at hl 0 rfl) ?_
    refine lv_icmp_ge (tgt := 20) hx hb dJ7_fill_53178_7 (by decide) (fun c => absurd c (by have e0 : (0 : Int32).toInt = 0 := (by decide); have e1 : (10 : Int32).toInt = 10 := (by decide); have h9 := And.intro hi1 hi0; simp only [Int32.lt_iff_toInt_lt, Int32.le_iff_toInt_le, ← Int32.toInt_inj, e0, e1] at h9 ⊢; omega)) (fun _ => ?_)
    refine lv_aload_n hx hb dJ7_fill_53178_10 rfl (lv_at hl 2 rfl) ?_
    refine lv_iload_n hx hb dJ7_fill_53178_11 rfl (lv_at hl 1 rfl) ?_
    refine lv_iload_n hx hb dJ7_fill_53178_12 rfl (lv_at hl 3 rfl) ?_
    refine va_iast hx hb hK hP hD hS 0 0 rfl rfl (vp_in_nI (by omega) (by decide)) dJ7_fill_53178_13 (fun H locs hP hD hS => ?_)
    obtain ⟨hP, hD⟩ := same_c (g := (fun _ => 0)) hP hD 0 rfl (fun j _ => by simp [upd])
    have hP : va_P D vwCl [(a0, .inl (y 0, 10, .inl (fun _ => 0)))] H := hP
    have hD : va_D A [(a0, .inl (y 0, 10, .inl (fun _ => 0)))] := hD
    refine lv_iinc (v := nI (i + 1)) (lv' := [(2, .int (nI (i + 1))), (3, .int 10), (0, .ref a0), (1, .int 0)]) hx hb dJ7_fill_53178_14 hl (k := 1) rfl (nI_inc i) (by decide) rfl (fun ls hl => ?_)
    refine lv_goto (tgt := 5) hx hb dJ7_fill_53178_17 (by decide) ?_
    exact ih _ _ _ hP hD hS (lv_sub hl [1, 0, 2, 3] rfl)
  · have hP : va_P D vwCl [(a0, .inl (y 0, 10, .inl (fun _ => 0)))] H := hP
    have hD : va_D A [(a0, .inl (y 0, 10, .inl (fun _ => 0)))] := hD
    have hl : lv_has ls 4 [(3, .int 10), (2, .int 10), (0, .ref a0), (1, .int 0)] := hl
    refine lv_iload_n hx hb dJ7_fill_53178_5 rfl (lv_at hl 1 rfl) ?_
    refine lv_iload_n hx hb dJ7_fill_53178_6 rfl (lv_at hl 0 rfl) ?_
    refine lv_icmp_ge (tgt := 20) hx hb dJ7_fill_53178_7 (by decide) (fun _ => ?_) (fun c => absurd (by decide) c)
    exact e_v hF hr (Nat.le_of_ble_eq_true rfl) (Nat.le_of_ble_eq_true rfl) hS (qg_end hS (fun _ => 0) rfl [0] hP rfl (hD.sub [0] rfl rfl)) dJ7_fill_53178_20

set_option maxHeartbeats 4000000 in
set_option maxRecDepth 100000 in
theorem c20_X5_clear (l : Launch) (a0 : Nat) (a1 : Nat) (a2 : Nat) : CT l (.code yX5_clear cX5_clear 1 none) yX5_clear { frames := 1, cells := 0, slots := 0, locals := 23 } [.ref a0] (fun y => [(a0, .inr (7, [.ref a1, .ref a2])), (a1, .inl (y 0, 10, .inl (fun _ => (-1)))), (a2, .inl (y 0, 10, .inl (fun _ => 0)))]) (fun y => [(a0, .inr (7, [.ref a1, .ref a2])), (a1, .inl (y 0, 10, .inl (fun _ => (-1)))), (a2, .inl (y 0, 10, .inl (fun _ => 0)))]) (fun u => none) (fun y u => [(a0, .inr (7, [.ref a1, .ref a2])), (a1, .inl (y 0, 10, .inl (fun _ => (-1)))), (a2, .inl (y 0, 10, .inl (fun _ => 0)))]) := by
  refine mkM (by decide) (Nat.le_of_ble_eq_true rfl) ?_
  intro p e s m args below meth c D y A ls hF hr hAe hP hD hS hl
  have hF : FX p e s m args meth c cX5_clear 1 RX5 "clear" D y A := hF
  obtain ⟨⟨hx, hb, hml, hown, hts⟩, hev, heh, hA, hlk, hnm⟩ := id hF
  have hK := hev.1
  have hP : va_P D vwCl [(a0, .inr (7, [.ref a1, .ref a2])), (a1, .inl (y 0, 10, .inl (fun _ => (-1)))), (a2, .inl (y 0, 10, .inl (fun _ => 0)))] s.heap := hP
  have hD : va_D A [(a0, .inr (7, [.ref a1, .ref a2])), (a1, .inl (y 0, 10, .inl (fun _ => (-1)))), (a2, .inl (y 0, 10, .inl (fun _ => 0)))] := by rw [← hAe]; exact hD.self
  have hl : lv_has ls 1 [(0, .ref a0)] := hl
  refine lv_aload_n hx hb dX5_clear_0 rfl (lv_at hl 0 rfl) ?_
  refine va_get (D := D) (ci := 7) (v := .ref a1) (C := RX5) (T := TX5) (N := 2) hx hb hts inX5 hown hK hP 0 rfl rfl 0 (by decide) (hts _ q_58) (fun _ h9 => h9) rfl dX5_clear_1 ?_
  refine lv_iconst (v := (-1)) hx hb dX5_clear_4 (by decide) ?_
  refine cS (l := l) (yM := yJ7_fill_53178) (As := [.ref a1, .int (-1)]) (rest := []) (wr := [(a0, .inr (7, [.ref a1, .ref a2])), (a2, .inl (y 0, 10, .inl (fun _ => 0)))]) hF (c21_J7_fill_53178 l a1) gs_RX5_18 2 (by decide +kernel) rfl ⟨(Nat.le_of_ble_eq_true rfl), (Nat.le_of_ble_eq_true rfl)⟩ hl.1 rfl (Nat.le_of_ble_eq_true rfl) dX5_clear_5 ⟨(Nat.le_of_ble_eq_true rfl), (Nat.le_of_ble_eq_true rfl)⟩ hP hD hS (va_free (wc := [(a1, .inl (y 0, 10, .inl (fun _ => (-1))))]) hD hS hA [1] rfl) (fun _ h => h) [1] [1] [0, 2] rfl rfl rfl rfl rfl (by decide) (fun u_1 H locs hP hD hS => ?_)
  have hP : va_P D vwCl [(a0, .inr (7, [.ref a1, .ref a2])), (a2, .inl (y 0, 10, .inl (fun _ => 0))), (a1, .inl (y 0, 10, .inl (fun _ => (-1))))] H := hP
  have hD : va_D A [(a0, .inr (7, [.ref a1, .ref a2])), (a2, .inl (y 0, 10, .inl (fun _ => 0))), (a1, .inl (y 0, 10, .inl (fun _ => (-1))))] := hD
  refine W.widen (k := 0) (n := 0) (Nat.le_of_ble_eq_true rfl) (Nat.le_of_ble_eq_true rfl) ?_
  refine W.eq (g2 := F0 m 8 ls []) rfl ?_
  refine lv_aload_n hx hb dX5_clear_8 rfl (lv_at hl 0 rfl) ?_
  refine va_get (D := D) (ci := 7) (v := .ref a2) (C := RX5) (T := TX5) (N := 2) hx hb hts inX5 hown hK hP 0 rfl rfl 1 (by decide) (hts _ q_63) (fun _ h9 => h9) rfl dX5_clear_9 ?_
  refine lv_iconst (v := 0) hx hb dX5_clear_12 (by decide) ?_
  refine cS (l := l) (yM := yJ7_fill_53178) (As := [.ref a2, .int 0]) (rest := []) (wr := [(a0, .inr (7, [.ref a1, .ref a2])), (a1, .inl (y 0, 10, .inl (fun _ => (-1))))]) hF (c22_J7_fill_53178 l a2) gs_RX5_18 2 (by decide +kernel) rfl ⟨(Nat.le_of_ble_eq_true rfl), (Nat.le_of_ble_eq_true rfl)⟩ hl.1 rfl (Nat.le_of_ble_eq_true rfl) dX5_clear_13 ⟨(Nat.le_of_ble_eq_true rfl), (Nat.le_of_ble_eq_true rfl)⟩ hP hD hS (va_free (wc := [(a2, .inl (y 0, 10, .inl (fun _ => 0)))]) hD hS hA [1] rfl) (fun _ h => h) [1] [1] [0, 2] rfl rfl rfl rfl rfl (by decide) (fun u_2 H locs hP hD hS => ?_)
  have hP : va_P D vwCl [(a0, .inr (7, [.ref a1, .ref a2])), (a1, .inl (y 0, 10, .inl (fun _ => (-1)))), (a2, .inl (y 0, 10, .inl (fun _ => 0)))] H := hP
  have hD : va_D A [(a0, .inr (7, [.ref a1, .ref a2])), (a1, .inl (y 0, 10, .inl (fun _ => (-1)))), (a2, .inl (y 0, 10, .inl (fun _ => 0)))] := hD
  refine W.widen (k := 0) (n := 0) (Nat.le_of_ble_eq_true rfl) (Nat.le_of_ble_eq_true rfl) ?_
  refine W.eq (g2 := F0 m 16 ls []) rfl ?_
  exact e_v hF hr (Nat.le_of_ble_eq_true rfl) (Nat.le_of_ble_eq_true rfl) hS (qg_end hS (fun _ => 0) rfl [0, 1, 2] hP rfl (hD.sub [0, 1, 2] rfl rfl)) dX5_clear_16

set_option maxHeartbeats 4000000 in
set_option maxRecDepth 100000 in
theorem c23_X4_start (l : Launch) (a0 : Nat) (a1 : Nat) (z0 : Nat) (z1 : Nat) : CT l (.code yX4_start cX4_start 2 none) yX4_start { frames := 1, cells := 0, slots := 0, locals := 23 } [.ref a0, .int 112] (fun y => [(a0, .inr (6, [.int 0, .int 0, .int 0, .ref a1, .ref z0, .ref z1])), (a1, .inl (y 0, 10, .inl (fun _ => 0)))]) (fun y => [(a0, .inr (6, [.int 0, .int 0, .int 0, .ref a1, .ref z0, .ref z1])), (a1, .inl (y 0, 10, .inl (fun _ => 0)))]) (fun u => none) (fun y u => [(a0, .inr (6, [.int 1, .int 0, .int 0, .ref a1, .ref z0, .ref z1])), (a1, .inl (y 0, 10, .inl (fun _ => 0)))]) := by
  refine mkM (by decide) (Nat.le_of_ble_eq_true rfl) ?_
  intro p e s m args below meth c D y A ls hF hr hAe hP hD hS hl
  have hF : FX p e s m args meth c cX4_start 2 RX4 "start" D y A := hF
  obtain ⟨⟨hx, hb, hml, hown, hts⟩, hev, heh, hA, hlk, hnm⟩ := id hF
  have hK := hev.1
  have hP : va_P D vwCl [(a0, .inr (6, [.int 0, .int 0, .int 0, .ref a1, .ref z0, .ref z1])), (a1, .inl (y 0, 10, .inl (fun _ => 0)))] s.heap := hP
  have hD : va_D A [(a0, .inr (6, [.int 0, .int 0, .int 0, .ref a1, .ref z0, .ref z1])), (a1, .inl (y 0, 10, .inl (fun _ => 0)))] := by rw [← hAe]; exact hD.self
  have hl : lv_has ls 2 [(0, .ref a0), (1, .int 112)] := hl
  refine lv_aload_n hx hb dX4_start_0 rfl (lv_at hl 0 rfl) ?_
  refine lv_iconst (v := 1) hx hb dX4_start_1 (by decide) ?_
  refine va_put (D := D) (ci := 6) (v := .int 1) (ty := .boolean) (C := RX4) (T := TX4) (N := 6) hx hb hts inX4 tyX4 tyX4_ok nmX4 hown hK hP hD hS 0 rfl rfl 0 (by decide) (hts _ q_69) (fun _ h9 => h9) rfl (by decide +kernel) (by decide) (by decide) (Nat.le_of_ble_eq_true rfl) dX4_start_2 (fun H locs hP hD hS => ?_)
  have hP : va_P D vwCl [(a0, .inr (6, [.int 1, .int 0, .int 0, .ref a1, .ref z0, .ref z1])), (a1, .inl (y 0, 10, .inl (fun _ => 0)))] H := hP
  have hD : va_D A [(a0, .inr (6, [.int 1, .int 0, .int 0, .ref a1, .ref z0, .ref z1])), (a1, .inl (y 0, 10, .inl (fun _ => 0)))] := hD
  refine lv_aload_n hx hb dX4_start_5 rfl (lv_at hl 0 rfl) ?_
  refine lv_iload_n hx hb dX4_start_6 rfl (lv_at hl 1 rfl) ?_
  refine lv_bipush (v := 104) hx hb dX4_start_7 (by decide) ?_
  refine lv_icmp_ne (tgt := 16) hx hb dX4_start_9 (by decide) (fun _ => ?_) (fun c => absurd c (by decide))
  refine lv_iconst (v := 0) hx hb dX4_start_16 (by decide) ?_
  refine va_put (D := D) (ci := 6) (v := .int 0) (ty := .boolean) (C := RX4) (T := TX4) (N := 6) hx hb hts inX4 tyX4 tyX4_ok nmX4 hown hK hP hD hS 0 rfl rfl 1 (by decide) (hts _ q_70) (fun _ h9 => h9) rfl (by decide +kernel) (by decide) (by decide) (Nat.le_of_ble_eq_true rfl) dX4_start_17 (fun H locs hP hD hS => ?_)
  have hP : va_P D vwCl [(a0, .inr (6, [.int 1, .int 0, .int 0, .ref a1, .ref z0, .ref z1])), (a1, .inl (y 0, 10, .inl (fun _ => 0)))] H := hP
  have hD : va_D A [(a0, .inr (6, [.int 1, .int 0, .int 0, .ref a1, .ref z0, .ref z1])), (a1, .inl (y 0, 10, .inl (fun _ => 0)))] := hD
  refine lv_aload_n hx hb dX4_start_20 rfl (lv_at hl 0 rfl) ?_
  refine lv_iconst (v := 0) hx hb dX4_start_21 (by decide) ?_
  refine va_put (D := D) (ci := 6) (v := .int 0) (ty := .int) (C := RX4) (T := TX4) (N := 6) hx hb hts inX4 tyX4 tyX4_ok nmX4 hown hK hP hD hS 0 rfl rfl 2 (by decide) (hts _ q_71) (fun _ h9 => h9) rfl (by decide +kernel) rfl rfl (Nat.le_of_ble_eq_true rfl) dX4_start_22 (fun H locs hP hD hS => ?_)
  have hP : va_P D vwCl [(a0, .inr (6, [.int 1, .int 0, .int 0, .ref a1, .ref z0, .ref z1])), (a1, .inl (y 0, 10, .inl (fun _ => 0)))] H := hP
  have hD : va_D A [(a0, .inr (6, [.int 1, .int 0, .int 0, .ref a1, .ref z0, .ref z1])), (a1, .inl (y 0, 10, .inl (fun _ => 0)))] := hD
  refine lv_aload_n hx hb dX4_start_25 rfl (lv_at hl 0 rfl) ?_
  refine va_get (D := D) (ci := 6) (v := .ref a1) (C := RX4) (T := TX4) (N := 6) hx hb hts inX4 hown hK hP 0 rfl rfl 3 (by decide) (hts _ q_72) (fun _ h9 => h9) rfl dX4_start_26 ?_
  refine lv_iconst (v := 0) hx hb dX4_start_29 (by decide) ?_
  refine cS (l := l) (yM := yJ7_fill_53178) (As := [.ref a1, .int 0]) (rest := []) (wr := [(a0, .inr (6, [.int 1, .int 0, .int 0, .ref a1, .ref z0, .ref z1]))]) hF (c22_J7_fill_53178 l a1) gs_RX4_33 2 (by decide +kernel) rfl ⟨(Nat.le_of_ble_eq_true rfl), (Nat.le_of_ble_eq_true rfl)⟩ hl.1 rfl (Nat.le_of_ble_eq_true rfl) dX4_start_30 ⟨(Nat.le_of_ble_eq_true rfl), (Nat.le_of_ble_eq_true rfl)⟩ hP hD hS (va_free (wc := [(a1, .inl (y 0, 10, .inl (fun _ => 0)))]) hD hS hA [1] rfl) (fun _ h => h) [1] [1] [0] rfl rfl rfl rfl rfl (by decide) (fun u_1 H locs hP hD hS => ?_)
  have hP : va_P D vwCl [(a0, .inr (6, [.int 1, .int 0, .int 0, .ref a1, .ref z0, .ref z1])), (a1, .inl (y 0, 10, .inl (fun _ => 0)))] H := hP
  have hD : va_D A [(a0, .inr (6, [.int 1, .int 0, .int 0, .ref a1, .ref z0, .ref z1])), (a1, .inl (y 0, 10, .inl (fun _ => 0)))] := hD
  refine W.widen (k := 0) (n := 0) (Nat.le_of_ble_eq_true rfl) (Nat.le_of_ble_eq_true rfl) ?_
  refine W.eq (g2 := F0 m 33 ls []) rfl ?_
  exact e_v hF hr (Nat.le_of_ble_eq_true rfl) (Nat.le_of_ble_eq_true rfl) hS (qg_end hS (fun _ => 0) rfl [0, 1] hP rfl (hD.sub [0, 1] rfl rfl)) dX4_start_33

set_option maxHeartbeats 4000000 in
set_option maxRecDepth 100000 in
theorem c26_X4_offerers (l : Launch) (a0 : Nat) (a1 : Nat) (z0 : Nat) (z1 : Nat) (z2 : Nat) (z3 : Nat) (z4 : Nat) (z5 : Nat) : CT l (.code yX4_offerers cX4_offerers 2 (some (.object "StablepairBureau$Lists"))) yX4_offerers { frames := 0, cells := 0, slots := 0, locals := 0 } [.ref a1, .ref a0] (fun y => [(a0, .inr (5, [.ref z0, .ref z1, .ref z2])), (a1, .inr (6, [.int 1, .int 0, .int 0, .ref z3, .ref z4, .ref z5]))]) (fun _ => []) (fun u => some (.ref z0)) (fun y u => []) := by
  refine mkM (by decide) (Nat.le_of_ble_eq_true rfl) ?_
  intro p e s m args below meth c D y A ls hF hr hAe hP hD hS hl
  have hF : FX p e s m args meth c cX4_offerers 2 RX4 "offerers" D y A := hF
  obtain ⟨⟨hx, hb, hml, hown, hts⟩, hev, heh, hA, hlk, hnm⟩ := id hF
  have hK := hev.1
  have hP : va_P D vwCl [(a0, .inr (5, [.ref z0, .ref z1, .ref z2])), (a1, .inr (6, [.int 1, .int 0, .int 0, .ref z3, .ref z4, .ref z5]))] s.heap := hP
  have hD : va_D (fun _ => True) [(a0, .inr (5, [.ref z0, .ref z1, .ref z2])), (a1, .inr (6, [.int 1, .int 0, .int 0, .ref z3, .ref z4, .ref z5]))] := hD
  have hl : lv_has ls 2 [(0, .ref a1), (1, .ref a0)] := hl
  refine lv_aload_n hx hb dX4_offerers_0 rfl (lv_at hl 0 rfl) ?_
  refine va_get (D := D) (ci := 6) (v := .int 0) (C := RX4) (T := TX4) (N := 6) hx hb hts inX4 hown hK hP 1 rfl rfl 1 (by decide) (hts _ q_70) (fun _ h9 => h9) rfl dX4_offerers_1 ?_
  refine lv_if_eq (tgt := 14) hx hb dX4_offerers_4 (by decide) (fun _ => ?_) (fun c => absurd (by decide) c)
  refine lv_aload_n hx hb dX4_offerers_14 rfl (lv_at hl 1 rfl) ?_
  refine va_getN (D := D) (ci := 5) (v := .ref z0) (C := RX3) (T := TX3) (N := 3) hx hb hts inX3 hown hK hP 0 rfl rfl 0 (by decide) (va_Nw.use (A := args) rfl (hev.2.1 (RX4, 45, RX3, "persons", "LStablepairBureau$Lists;") (List.mem_of_getElem? (i := 6) rfl))) (fun _ h9 => h9) rfl dX4_offerers_15 ?_
  exact e_a hF hr (Or.inl ⟨_, rfl⟩) (Nat.le_of_ble_eq_true rfl) (Nat.le_of_ble_eq_true rfl) hS (qg_end hS (fun _ => 0) rfl [] hP rfl d_nil) dX4_offerers_18

set_option maxHeartbeats 4000000 in
set_option maxRecDepth 100000 in
theorem c27_X2_sizeOf (l : Launch) (a0 : Nat) (z0 : Nat) (z1 : Nat) (z2 : Nat) (p0 : Int32) : CT l (.code yX2_sizeOf cX2_sizeOf 2 (some .int)) yX2_sizeOf { frames := 0, cells := 0, slots := 0, locals := 0 } [.ref a0, .int p0] (fun y => [(a0, .inr (4, [.int 0, .ref z0, .ref z1, .ref z2]))]) (fun _ => []) (fun u => some (.int 0)) (fun y u => []) := by
  refine mkM (by decide) (Nat.le_of_ble_eq_true rfl) ?_
  intro p e s m args below meth c D y A ls hF hr hAe hP hD hS hl
  have hF : FX p e s m args meth c cX2_sizeOf 2 RX2 "sizeOf" D y A := hF
  obtain ⟨⟨hx, hb, hml, hown, hts⟩, hev, heh, hA, hlk, hnm⟩ := id hF
  have hK := hev.1
  have hP : va_P D vwCl [(a0, .inr (4, [.int 0, .ref z0, .ref z1, .ref z2]))] s.heap := hP
  have hD : va_D (fun _ => True) [(a0, .inr (4, [.int 0, .ref z0, .ref z1, .ref z2]))] := hD
  have hl : lv_has ls 2 [(0, .ref a0), (1, .int p0)] := hl
  refine lv_iload_n hx hb dX2_sizeOf_0 rfl (lv_at hl 1 rfl) ?_
  refine lv_if_lt (tgt := 27) hx hb dX2_sizeOf_1 (by decide) (fun c_1 => ?_) (fun c_1 => ?_)
  · refine lv_iconst (v := 0) hx hb dX2_sizeOf_27 (by decide) ?_
    exact e_i hF hr (Nat.le_of_ble_eq_true rfl) (Nat.le_of_ble_eq_true rfl) hS (qg_end hS (fun _ => 0) rfl [] hP rfl d_nil) dX2_sizeOf_28
  · refine lv_iload_n hx hb dX2_sizeOf_4 rfl (lv_at hl 1 rfl) ?_
    refine lv_aload_n hx hb dX2_sizeOf_5 rfl (lv_at hl 0 rfl) ?_
    refine va_get (D := D) (ci := 4) (v := .int 0) (C := RX2) (T := TX2) (N := 4) hx hb hts inX2 hown hK hP 0 rfl rfl 0 (by decide) (hts _ q_2) (fun _ h9 => h9) rfl dX2_sizeOf_6 ?_
    refine lv_icmp_ge (tgt := 27) hx hb dX2_sizeOf_9 (by decide) (fun _ => ?_) (fun c => absurd (by have e0 : (0 : Int32).toInt = 0 := (by decide); have h9 := c_1; simp only [Int32.lt_iff_toInt_lt, Int32.le_iff_toInt_le, ← Int32.toInt_inj, e0] at h9 ⊢; omega) c)
    refine lv_iconst (v := 0) hx hb dX2_sizeOf_27 (by decide) ?_
    exact e_i hF hr (Nat.le_of_ble_eq_true rfl) (Nat.le_of_ble_eq_true rfl) hS (qg_end hS (fun _ => 0) rfl [] hP rfl d_nil) dX2_sizeOf_28

set_option maxHeartbeats 4000000 in
set_option maxRecDepth 100000 in
theorem c25_X4_canMake (l : Launch) (a0 : Nat) (a1 : Nat) (a2 : Nat) (a3 : Nat) (z0 : Nat) (z1 : Nat) (z2 : Nat) (z3 : Nat) (z4 : Nat) (z5 : Nat) (z6 : Nat) (z7 : Nat) (p0 : Int32) : CT l (.code yX4_canMake cX4_canMake 4 (some .boolean)) yX4_canMake { frames := 1, cells := 0, slots := 0, locals := 21 } [.ref a2, .ref a0, .ref z7, .int p0] (fun y => [(a0, .inr (5, [.ref a1, .ref z0, .ref z1])), (a1, .inr (4, [.int 0, .ref z2, .ref z3, .ref z4])), (a2, .inr (6, [.int 1, .int 0, .int 0, .ref a3, .ref z5, .ref z6])), (a3, .inl (y 0, 10, .inl (fun _ => 0)))]) (fun _ => []) (fun u => some (.int 0)) (fun y u => []) := by
  refine mkM (by decide) (Nat.le_of_ble_eq_true rfl) ?_
  intro p e s m args below meth c D y A ls hF hr hAe hP hD hS hl
  have hF : FX p e s m args meth c cX4_canMake 4 RX4 "canMake" D y A := hF
  obtain ⟨⟨hx, hb, hml, hown, hts⟩, hev, heh, hA, hlk, hnm⟩ := id hF
  have hK := hev.1
  have hP : va_P D vwCl [(a0, .inr (5, [.ref a1, .ref z0, .ref z1])), (a1, .inr (4, [.int 0, .ref z2, .ref z3, .ref z4])), (a2, .inr (6, [.int 1, .int 0, .int 0, .ref a3, .ref z5, .ref z6])), (a3, .inl (y 0, 10, .inl (fun _ => 0)))] s.heap := hP
  have hD : va_D (fun _ => True) [(a0, .inr (5, [.ref a1, .ref z0, .ref z1])), (a1, .inr (4, [.int 0, .ref z2, .ref z3, .ref z4])), (a2, .inr (6, [.int 1, .int 0, .int 0, .ref a3, .ref z5, .ref z6])), (a3, .inl (y 0, 10, .inl (fun _ => 0)))] := hD
  have hl : lv_has ls 4 [(0, .ref a2), (1, .ref a0), (2, .ref z7), (3, .int p0)] := hl
  refine lv_iload_n hx hb dX4_canMake_0 rfl (lv_at hl 3 rfl) ?_
  refine lv_if_lt (tgt := 28) hx hb dX4_canMake_1 (by decide) (fun c_1 => ?_) (fun c_1 => ?_)
  · refine lv_iconst (v := 0) hx hb dX4_canMake_28 (by decide) ?_
    exact e_z hF hr (by decide) (Nat.le_of_ble_eq_true rfl) (Nat.le_of_ble_eq_true rfl) hS (qg_end hS (fun _ => 0) rfl [] hP rfl d_nil) dX4_canMake_29
  · refine lv_iload_n hx hb dX4_canMake_4 rfl (lv_at hl 3 rfl) ?_
    refine lv_bipush (v := 10) hx hb dX4_canMake_5 (by decide) ?_
    refine lv_icmp_ge (tgt := 28) hx hb dX4_canMake_7 (by decide) (fun c_2 => ?_) (fun c_2 => ?_)
    · refine lv_iconst (v := 0) hx hb dX4_canMake_28 (by decide) ?_
      exact e_z hF hr (by decide) (Nat.le_of_ble_eq_true rfl) (Nat.le_of_ble_eq_true rfl) hS (qg_end hS (fun _ => 0) rfl [] hP rfl d_nil) dX4_canMake_29
    · refine lv_aload_n hx hb dX4_canMake_10 rfl (lv_at hl 0 rfl) ?_
      refine va_get (D := D) (ci := 6) (v := .ref a3) (C := RX4) (T := TX4) (N := 6) hx hb hts inX4 hown hK hP 2 rfl rfl 3 (by decide) (hts _ q_72) (fun _ h9 => h9) rfl dX4_canMake_11 ?_
      refine lv_iload_n hx hb dX4_canMake_14 rfl (lv_at hl 3 rfl) ?_
      refine va_iald hx hb hK hP 3 0 rfl rfl (vin2 (n := 10) c_1 c_2 (by decide)) dX4_canMake_15 ?_
      refine tp_i (v := 0) rfl ?_
      refine lv_aload_n hx hb dX4_canMake_16 rfl (lv_at hl 0 rfl) ?_
      refine lv_aload_n hx hb dX4_canMake_17 rfl (lv_at hl 1 rfl) ?_
      refine cV (l := l) (yM := yX4_offerers) (C := RX4) (As := [.ref a0]) (rest := [.int 0]) (wr := [(a0, .inr (5, [.ref a1, .ref z0, .ref z1])), (a1, .inr (4, [.int 0, .ref z2, .ref z3, .ref z4])), (a2, .inr (6, [.int 1, .int 0, .int 0, .ref a3, .ref z5, .ref z6])), (a3, .inl (y 0, 10, .inl (fun _ => 0)))]) hF (c26_X4_offerers l a0 a2 a1 z0 z1 a3 z5 z6) gv_RX4_48 1 (by decide +kernel) rfl ⟨(Nat.le_of_ble_eq_true rfl), (Nat.le_of_ble_eq_true rfl)⟩ hl.1 rfl (Nat.le_of_ble_eq_true rfl) dX4_canMake_18 ⟨(Nat.le_of_ble_eq_true rfl), (Nat.le_of_ble_eq_true rfl)⟩ hP hD hS (pA hA hS) (fun _ _ => trivial) [0, 2] [] [0, 1, 2, 3] rfl rfl rfl rfl rfl (by decide) 2 (ci := 6) rfl rfl rfl (fun u_3 H locs hP hD hS => ?_)
      have hP : va_P D vwCl [(a0, .inr (5, [.ref a1, .ref z0, .ref z1])), (a1, .inr (4, [.int 0, .ref z2, .ref z3, .ref z4])), (a2, .inr (6, [.int 1, .int 0, .int 0, .ref a3, .ref z5, .ref z6])), (a3, .inl (y 0, 10, .inl (fun _ => 0)))] H := hP
      have hD : va_D (fun _ => True) [(a0, .inr (5, [.ref a1, .ref z0, .ref z1])), (a1, .inr (4, [.int 0, .ref z2, .ref z3, .ref z4])), (a2, .inr (6, [.int 1, .int 0, .int 0, .ref a3, .ref z5, .ref z6])), (a3, .inl (y 0, 10, .inl (fun _ => 0)))] := hD
      refine W.widen (k := 0) (n := 0) (Nat.le_of_ble_eq_true rfl) (Nat.le_of_ble_eq_true rfl) ?_
      refine W.eq (g2 := F0 m 21 ls [.ref a1, .int 0]) rfl ?_
      refine lv_iload_n hx hb dX4_canMake_21 rfl (lv_at hl 3 rfl) ?_
      refine cV (l := l) (yM := yX2_sizeOf) (C := RX2) (As := [.int p0]) (rest := [.int 0]) (wr := [(a0, .inr (5, [.ref a1, .ref z0, .ref z1])), (a1, .inr (4, [.int 0, .ref z2, .ref z3, .ref z4])), (a2, .inr (6, [.int 1, .int 0, .int 0, .ref a3, .ref z5, .ref z6])), (a3, .inl (y 0, 10, .inl (fun _ => 0)))]) hF (c27_X2_sizeOf l a1 z2 z3 z4 p0) gv_RX4_52 1 (by decide +kernel) rfl ⟨(Nat.le_of_ble_eq_true rfl), (Nat.le_of_ble_eq_true rfl)⟩ hl.1 rfl (Nat.le_of_ble_eq_true rfl) dX4_canMake_22 ⟨(Nat.le_of_ble_eq_true rfl), (Nat.le_of_ble_eq_true rfl)⟩ hP hD hS (pA hA hS) (fun _ _ => trivial) [1] [] [0, 1, 2, 3] rfl rfl rfl rfl rfl (by decide) 1 (ci := 4) rfl rfl rfl (fun u_4 H locs hP hD hS => ?_)
      have hP : va_P D vwCl [(a0, .inr (5, [.ref a1, .ref z0, .ref z1])), (a1, .inr (4, [.int 0, .ref z2, .ref z3, .ref z4])), (a2, .inr (6, [.int 1, .int 0, .int 0, .ref a3, .ref z5, .ref z6])), (a3, .inl (y 0, 10, .inl (fun _ => 0)))] H := hP
      have hD : va_D (fun _ => True) [(a0, .inr (5, [.ref a1, .ref z0, .ref z1])), (a1, .inr (4, [.int 0, .ref z2, .ref z3, .ref z4])), (a2, .inr (6, [.int 1, .int 0, .int 0, .ref a3, .ref z5, .ref z6])), (a3, .inl (y 0, 10, .inl (fun _ => 0)))] := hD
      refine W.widen (k := 0) (n := 0) (Nat.le_of_ble_eq_true rfl) (Nat.le_of_ble_eq_true rfl) ?_
      refine W.eq (g2 := F0 m 25 ls [.int 0, .int 0]) rfl ?_
      refine lv_icmp_lt (tgt := 30) hx hb dX4_canMake_25 (by decide) (fun c => absurd c (by decide)) (fun _ => ?_)
      refine lv_iconst (v := 0) hx hb dX4_canMake_28 (by decide) ?_
      exact e_z hF hr (by decide) (Nat.le_of_ble_eq_true rfl) (Nat.le_of_ble_eq_true rfl) hS (qg_end hS (fun _ => 0) rfl [] hP rfl d_nil) dX4_canMake_29

set_option maxHeartbeats 4000000 in
set_option maxRecDepth 100000 in
theorem c24_X4_countAble (l : Launch) (a0 : Nat) (a1 : Nat) (a2 : Nat) (a3 : Nat) (z0 : Nat) (z1 : Nat) (z2 : Nat) (z3 : Nat) (z4 : Nat) (z5 : Nat) (z6 : Nat) (z7 : Nat) : CT l (.code yX4_countAble cX4_countAble 5 (some .int)) yX4_countAble { frames := 2, cells := 0, slots := 0, locals := 44 } [.ref a2, .ref a0, .ref z7] (fun y => [(a0, .inr (5, [.ref a1, .ref z0, .ref z1])), (a1, .inr (4, [.int 0, .ref z2, .ref z3, .ref z4])), (a2, .inr (6, [.int 1, .int 0, .int 0, .ref a3, .ref z5, .ref z6])), (a3, .inl (y 0, 10, .inl (fun _ => 0)))]) (fun _ => []) (fun u => some (.int 0)) (fun y u => []) := by
  refine mkM (by decide) (Nat.le_of_ble_eq_true rfl) ?_
  intro p e s m args below meth c D y A ls hF hr hAe hP hD hS hl
  have hF : FX p e s m args meth c cX4_countAble 5 RX4 "countAble" D y A := hF
  obtain ⟨⟨hx, hb, hml, hown, hts⟩, hev, heh, hA, hlk, hnm⟩ := id hF
  have hK := hev.1
  have hP : va_P D vwCl [(a0, .inr (5, [.ref a1, .ref z0, .ref z1])), (a1, .inr (4, [.int 0, .ref z2, .ref z3, .ref z4])), (a2, .inr (6, [.int 1, .int 0, .int 0, .ref a3, .ref z5, .ref z6])), (a3, .inl (y 0, 10, .inl (fun _ => 0)))] s.heap := hP
  have hD : va_D (fun _ => True) [(a0, .inr (5, [.ref a1, .ref z0, .ref z1])), (a1, .inr (4, [.int 0, .ref z2, .ref z3, .ref z4])), (a2, .inr (6, [.int 1, .int 0, .int 0, .ref a3, .ref z5, .ref z6])), (a3, .inl (y 0, 10, .inl (fun _ => 0)))] := hD
  have hl : lv_has ls 5 [(0, .ref a2), (1, .ref a0), (2, .ref z7)] := hl
  refine lv_iconst (v := 0) hx hb dX4_countAble_0 (by decide) ?_
  refine lv_istore_n (lv' := [(3, .int 0), (0, .ref a2), (1, .ref a0), (2, .ref z7)]) hx hb dX4_countAble_1 rfl hl (by decide) rfl (fun ls hl => ?_)
  refine lv_iconst (v := 0) hx hb dX4_countAble_2 (by decide) ?_
  refine lv_istore (lv' := [(4, .int 0), (3, .int 0), (0, .ref a2), (1, .ref a0), (2, .ref z7)]) hx hb dX4_countAble_3 hl (by decide) rfl (fun ls hl => ?_)
  refine lp (N := 10) (Wd := fun i => [(a0, .inr (5, [.ref a1, .ref z0, .ref z1])), (a1, .inr (4, [.int 0, .ref z2, .ref z3, .ref z4])), (a2, .inr (6, [.int 1, .int 0, .int 0, .ref a3, .ref z5, .ref z6])), (a3, .inl (y 0, 10, .inl (fun _ => 0)))]) (Lv := fun i => [(4, .int (nI i)), (3, .int 0), (0, .ref a2), (1, .ref a0), (2, .ref z7)]) hP hD hS (lv_sub hl [0, 1, 2, 3, 4] rfl) (fun i hi ih H locs ls hP hD hS hl => ?_) (fun H locs ls hP hD hS hl => ?_)
  · have hP : va_P D vwCl [(a0, .inr (5, [.ref a1, .ref z0, .ref z1])), (a1, .inr (4, [.int 0, .ref z2, .ref z3, .ref z4])), (a2, .inr (6, [.int 1, .int 0, .int 0, .ref a3, .ref z5, .ref z6])), (a3, .inl (y 0, 10, .inl (fun _ => 0)))] H := hP
    have hD : va_D (fun _ => True) [(a0, .inr (5, [.ref a1, .ref z0, .ref z1])), (a1, .inr (4, [.int 0, .ref z2, .ref z3, .ref z4])), (a2, .inr (6, [.int 1, .int 0, .int 0, .ref a3, .ref z5, .ref z6])), (a3, .inl (y 0, 10, .inl (fun _ => 0)))] := hD
    have hl : lv_has ls 5 [(4, .int (nI i)), (3, .int 0), (0, .ref a2), (1, .ref a0), (2, .ref z7)] := hl
    have hi1 : (nI i) < (10 : Int32) := nI_lt hi (by decide)
    have hi0 : ¬ (nI i) < (0 : Int32) := nI_pos (by omega)
    refine lv_iload hx hb dX4_countAble_5 (lv_at hl 0 rfl) ?_
    refine lv_bipush (v := 10) hx hb dX4_countAble_7 (by decide) ?_
    refine lv_icmp_ge (tgt := 32) hx hb dX4_countAble_9 (by decide) (fun c => absurd c (by have e0 : (0 : Int32).toInt = 0 := (by decide); have e1 : (10 : Int32).toInt = 10 := (by decide); have h9 := And.intro hi1 hi0; simp only [Int32.lt_iff_toInt_lt, Int32.le_iff_toInt_le, ← Int32.toInt_inj, e0, e1] at h9 ⊢; omega)) (fun _ => ?_)
    refine lv_aload_n hx hb dX4_countAble_12 rfl (lv_at hl 2 rfl) ?_
    refine lv_aload_n hx hb dX4_countAble_13 rfl (lv_at hl 3 rfl) ?_
    refine lv_aload_n hx hb dX4_countAble_14 rfl (lv_at hl 4 rfl) ?_
    refine lv_iload hx hb dX4_countAble_15 (lv_at hl 0 rfl) ?_
    refine cV (l := l) (yM := yX4_canMake) (C := RX4) (As := [.ref a0, .ref z7, .int (nI i)]) (rest := []) (wr := [(a0, .inr (5, [.ref a1, .ref z0, .ref z1])), (a1, .inr (4, [.int 0, .ref z2, .ref z3, .ref z4])), (a2, .inr (6, [.int 1, .int 0, .int 0, .ref a3, .ref z5, .ref z6])), (a3, .inl (y 0, 10, .inl (fun _ => 0)))]) hF (c25_X4_canMake l a0 a1 a2 a3 z0 z1 z2 z3 z4 z5 z6 z7 (nI i)) gv_RX4_67 3 (by decide +kernel) rfl ⟨(Nat.le_of_ble_eq_true rfl), (Nat.le_of_ble_eq_true rfl)⟩ hl.1 rfl (Nat.le_of_ble_eq_true rfl) dX4_countAble_17 ⟨(Nat.le_of_ble_eq_true rfl), (Nat.le_of_ble_eq_true rfl)⟩ hP hD hS (pA hA hS) (fun _ _ => trivial) [0, 1, 2, 3] [] [0, 1, 2, 3] rfl rfl rfl rfl rfl (by decide) 2 (ci := 6) rfl rfl rfl (fun u_1 H locs hP hD hS => ?_)
    have hP : va_P D vwCl [(a0, .inr (5, [.ref a1, .ref z0, .ref z1])), (a1, .inr (4, [.int 0, .ref z2, .ref z3, .ref z4])), (a2, .inr (6, [.int 1, .int 0, .int 0, .ref a3, .ref z5, .ref z6])), (a3, .inl (y 0, 10, .inl (fun _ => 0)))] H := hP
    have hD : va_D (fun _ => True) [(a0, .inr (5, [.ref a1, .ref z0, .ref z1])), (a1, .inr (4, [.int 0, .ref z2, .ref z3, .ref z4])), (a2, .inr (6, [.int 1, .int 0, .int 0, .ref a3, .ref z5, .ref z6])), (a3, .inl (y 0, 10, .inl (fun _ => 0)))] := hD
    refine W.widen (k := 0) (n := 0) (Nat.le_of_ble_eq_true rfl) (Nat.le_of_ble_eq_true rfl) ?_
    refine W.eq (g2 := F0 m 20 ls [.int 0]) rfl ?_
    refine lv_if_eq (tgt := 26) hx hb dX4_countAble_20 (by decide) (fun _ => ?_) (fun c => absurd (by decide) c)
    refine lv_iinc (v := nI (i + 1)) (lv' := [(4, .int (nI (i + 1))), (3, .int 0), (0, .ref a2), (1, .ref a0), (2, .ref z7)]) hx hb dX4_countAble_26 hl (k := 0) rfl (nI_inc i) (by decide) rfl (fun ls hl => ?_)
    refine lv_goto (tgt := 5) hx hb dX4_countAble_29 (by decide) ?_
    exact ih _ _ _ hP hD hS (lv_sub hl [0, 1, 2, 3, 4] rfl)
  · have hP : va_P D vwCl [(a0, .inr (5, [.ref a1, .ref z0, .ref z1])), (a1, .inr (4, [.int 0, .ref z2, .ref z3, .ref z4])), (a2, .inr (6, [.int 1, .int 0, .int 0, .ref a3, .ref z5, .ref z6])), (a3, .inl (y 0, 10, .inl (fun _ => 0)))] H := hP
    have hD : va_D (fun _ => True) [(a0, .inr (5, [.ref a1, .ref z0, .ref z1])), (a1, .inr (4, [.int 0, .ref z2, .ref z3, .ref z4])), (a2, .inr (6, [.int 1, .int 0, .int 0, .ref a3, .ref z5, .ref z6])), (a3, .inl (y 0, 10, .inl (fun _ => 0)))] := hD
    have hl : lv_has ls 5 [(4, .int 10), (3, .int 0), (0, .ref a2), (1, .ref a0), (2, .ref z7)] := hl
    refine lv_iload hx hb dX4_countAble_5 (lv_at hl 0 rfl) ?_
    refine lv_bipush (v := 10) hx hb dX4_countAble_7 (by decide) ?_
    refine lv_icmp_ge (tgt := 32) hx hb dX4_countAble_9 (by decide) (fun _ => ?_) (fun c => absurd (by decide) c)
    refine lv_iload_n hx hb dX4_countAble_32 rfl (lv_at hl 1 rfl) ?_
    exact e_i hF hr (Nat.le_of_ble_eq_true rfl) (Nat.le_of_ble_eq_true rfl) hS (qg_end hS (fun _ => 0) rfl [] hP rfl d_nil) dX4_countAble_33

set_option maxHeartbeats 4000000 in
set_option maxRecDepth 100000 in
theorem c18_X10_begin (l : Launch) (a0 : Nat) (a1 : Nat) (a2 : Nat) (a3 : Nat) (a4 : Nat) (a5 : Nat) (a6 : Nat) (a7 : Nat) (z0 : Nat) (z1 : Nat) (z2 : Nat) (z3 : Nat) (z4 : Nat) (z5 : Nat) (z6 : Nat) (z7 : Nat) (z8 : Nat) (z9 : Nat) (z10 : Nat) (z11 : Nat) (z12 : Nat) (z13 : Nat) (z14 : Nat) (z15 : Nat) (z16 : Nat) (z17 : Nat) (z18 : Nat) : CT l (.code yX10_begin cX10_begin 2 (some .int)) yX10_begin { frames := 3, cells := 0, slots := 0, locals := 68 } [.ref a0, .int 112] (fun y => [(a0, .inr (12, [.ref a1, .ref z0, .ref z1, .ref z2, .ref a3, .ref a6, .ref z3, .ref z4, .ref z5, .ref z6, .ref z7, .ref z8, .ref z9, .ref z10, .ref z11])), (a1, .inr (5, [.ref a2, .ref z12, .ref z13])), (a2, .inr (4, [.int 0, .ref z14, .ref z15, .ref z16])), (a3, .inr (7, [.ref a4, .ref a5])), (a4, .inl (y 0, 10, .inl (fun _ => (-1)))), (a5, .inl (y 0, 10, .inl (fun _ => 0))), (a6, .inr (6, [.int 0, .int 0, .int 0, .ref a7, .ref z17, .ref z18])), (a7, .inl (y 0, 10, .inl (fun _ => 0)))]) (fun y => [(a0, .inr (12, [.ref a1, .ref z0, .ref z1, .ref z2, .ref a3, .ref a6, .ref z3, .ref z4, .ref z5, .ref z6, .ref z7, .ref z8, .ref z9, .ref z10, .ref z11])), (a1, .inr (5, [.ref a2, .ref z12, .ref z13])), (a2, .inr (4, [.int 0, .ref z14, .ref z15, .ref z16])), (a3, .inr (7, [.ref a4, .ref a5])), (a4, .inl (y 0, 10, .inl (fun _ => (-1)))), (a5, .inl (y 0, 10, .inl (fun _ => 0))), (a6, .inr (6, [.int 0, .int 0, .int 0, .ref a7, .ref z17, .ref z18])), (a7, .inl (y 0, 10, .inl (fun _ => 0)))]) (fun u => some (.int 0)) (fun y u => [(a0, .inr (12, [.ref a1, .ref z0, .ref z1, .ref z2, .ref a3, .ref a6, .ref z3, .ref z4, .ref z5, .ref z6, .ref z7, .ref z8, .ref z9, .ref z10, .ref z11])), (a1, .inr (5, [.ref a2, .ref z12, .ref z13])), (a2, .inr (4, [.int 0, .ref z14, .ref z15, .ref z16])), (a3, .inr (7, [.ref a4, .ref a5])), (a4, .inl (y 0, 10, .inl (fun _ => (-1)))), (a5, .inl (y 0, 10, .inl (fun _ => 0))), (a6, .inr (6, [.int 1, .int 0, .int 0, .ref a7, .ref z17, .ref z18])), (a7, .inl (y 0, 10, .inl (fun _ => 0)))]) := by
  refine mkM (by decide) (Nat.le_of_ble_eq_true rfl) ?_
  intro p e s m args below meth c D y A ls hF hr hAe hP hD hS hl
  have hF : FX p e s m args meth c cX10_begin 2 RX10 "begin" D y A := hF
  obtain ⟨⟨hx, hb, hml, hown, hts⟩, hev, heh, hA, hlk, hnm⟩ := id hF
  have hK := hev.1
  have hP : va_P D vwCl [(a0, .inr (12, [.ref a1, .ref z0, .ref z1, .ref z2, .ref a3, .ref a6, .ref z3, .ref z4, .ref z5, .ref z6, .ref z7, .ref z8, .ref z9, .ref z10, .ref z11])), (a1, .inr (5, [.ref a2, .ref z12, .ref z13])), (a2, .inr (4, [.int 0, .ref z14, .ref z15, .ref z16])), (a3, .inr (7, [.ref a4, .ref a5])), (a4, .inl (y 0, 10, .inl (fun _ => (-1)))), (a5, .inl (y 0, 10, .inl (fun _ => 0))), (a6, .inr (6, [.int 0, .int 0, .int 0, .ref a7, .ref z17, .ref z18])), (a7, .inl (y 0, 10, .inl (fun _ => 0)))] s.heap := hP
  have hD : va_D A [(a0, .inr (12, [.ref a1, .ref z0, .ref z1, .ref z2, .ref a3, .ref a6, .ref z3, .ref z4, .ref z5, .ref z6, .ref z7, .ref z8, .ref z9, .ref z10, .ref z11])), (a1, .inr (5, [.ref a2, .ref z12, .ref z13])), (a2, .inr (4, [.int 0, .ref z14, .ref z15, .ref z16])), (a3, .inr (7, [.ref a4, .ref a5])), (a4, .inl (y 0, 10, .inl (fun _ => (-1)))), (a5, .inl (y 0, 10, .inl (fun _ => 0))), (a6, .inr (6, [.int 0, .int 0, .int 0, .ref a7, .ref z17, .ref z18])), (a7, .inl (y 0, 10, .inl (fun _ => 0)))] := by rw [← hAe]; exact hD.self
  have hl : lv_has ls 2 [(0, .ref a0), (1, .int 112)] := hl
  refine lv_aload_n hx hb dX10_begin_0 rfl (lv_at hl 0 rfl) ?_
  refine lv_iload_n hx hb dX10_begin_1 rfl (lv_at hl 1 rfl) ?_
  refine cV (l := l) (yM := yX10_needOfferSide) (C := RX10) (As := [.int 112]) (rest := []) (wr := [(a0, .inr (12, [.ref a1, .ref z0, .ref z1, .ref z2, .ref a3, .ref a6, .ref z3, .ref z4, .ref z5, .ref z6, .ref z7, .ref z8, .ref z9, .ref z10, .ref z11])), (a1, .inr (5, [.ref a2, .ref z12, .ref z13])), (a2, .inr (4, [.int 0, .ref z14, .ref z15, .ref z16])), (a3, .inr (7, [.ref a4, .ref a5])), (a4, .inl (y 0, 10, .inl (fun _ => (-1)))), (a5, .inl (y 0, 10, .inl (fun _ => 0))), (a6, .inr (6, [.int 0, .int 0, .int 0, .ref a7, .ref z17, .ref z18])), (a7, .inl (y 0, 10, .inl (fun _ => 0)))]) hF (c19_X10_needOfferSide l a0) gv_RX10_198 1 (by decide +kernel) rfl ⟨(Nat.le_of_ble_eq_true rfl), (Nat.le_of_ble_eq_true rfl)⟩ hl.1 rfl (Nat.le_of_ble_eq_true rfl) dX10_begin_2 ⟨(Nat.le_of_ble_eq_true rfl), (Nat.le_of_ble_eq_true rfl)⟩ hP hD hS (pA hA hS) (fun _ h => h) [] [] [0, 1, 2, 3, 4, 5, 6, 7] rfl rfl rfl rfl rfl (by decide) 0 (ci := 12) rfl rfl rfl (fun u_1 H locs hP hD hS => ?_)
  have hP : va_P D vwCl [(a0, .inr (12, [.ref a1, .ref z0, .ref z1, .ref z2, .ref a3, .ref a6, .ref z3, .ref z4, .ref z5, .ref z6, .ref z7, .ref z8, .ref z9, .ref z10, .ref z11])), (a1, .inr (5, [.ref a2, .ref z12, .ref z13])), (a2, .inr (4, [.int 0, .ref z14, .ref z15, .ref z16])), (a3, .inr (7, [.ref a4, .ref a5])), (a4, .inl (y 0, 10, .inl (fun _ => (-1)))), (a5, .inl (y 0, 10, .inl (fun _ => 0))), (a6, .inr (6, [.int 0, .int 0, .int 0, .ref a7, .ref z17, .ref z18])), (a7, .inl (y 0, 10, .inl (fun _ => 0)))] H := hP
  have hD : va_D A [(a0, .inr (12, [.ref a1, .ref z0, .ref z1, .ref z2, .ref a3, .ref a6, .ref z3, .ref z4, .ref z5, .ref z6, .ref z7, .ref z8, .ref z9, .ref z10, .ref z11])), (a1, .inr (5, [.ref a2, .ref z12, .ref z13])), (a2, .inr (4, [.int 0, .ref z14, .ref z15, .ref z16])), (a3, .inr (7, [.ref a4, .ref a5])), (a4, .inl (y 0, 10, .inl (fun _ => (-1)))), (a5, .inl (y 0, 10, .inl (fun _ => 0))), (a6, .inr (6, [.int 0, .int 0, .int 0, .ref a7, .ref z17, .ref z18])), (a7, .inl (y 0, 10, .inl (fun _ => 0)))] := hD
  refine W.widen (k := 0) (n := 0) (Nat.le_of_ble_eq_true rfl) (Nat.le_of_ble_eq_true rfl) ?_
  refine W.eq (g2 := F0 m 5 ls []) rfl ?_
  refine lv_aload_n hx hb dX10_begin_5 rfl (lv_at hl 0 rfl) ?_
  refine va_get (D := D) (ci := 12) (v := .ref a3) (C := RX10) (T := TX10) (N := 15) hx hb hts inX10 hown hK hP 0 rfl rfl 4 (by decide) (hts _ q_20) (fun _ h9 => h9) rfl dX10_begin_6 ?_
  refine cV (l := l) (yM := yX5_clear) (C := RX5) (As := []) (rest := []) (wr := [(a0, .inr (12, [.ref a1, .ref z0, .ref z1, .ref z2, .ref a3, .ref a6, .ref z3, .ref z4, .ref z5, .ref z6, .ref z7, .ref z8, .ref z9, .ref z10, .ref z11])), (a1, .inr (5, [.ref a2, .ref z12, .ref z13])), (a2, .inr (4, [.int 0, .ref z14, .ref z15, .ref z16])), (a6, .inr (6, [.int 0, .int 0, .int 0, .ref a7, .ref z17, .ref z18])), (a7, .inl (y 0, 10, .inl (fun _ => 0)))]) hF (c20_X5_clear l a3 a4 a5) gv_RX10_201 0 (by decide +kernel) rfl ⟨(Nat.le_of_ble_eq_true rfl), (Nat.le_of_ble_eq_true rfl)⟩ hl.1 rfl (Nat.le_of_ble_eq_true rfl) dX10_begin_9 ⟨(Nat.le_of_ble_eq_true rfl), (Nat.le_of_ble_eq_true rfl)⟩ hP hD hS (va_free (wc := [(a3, .inr (7, [.ref a4, .ref a5])), (a4, .inl (y 0, 10, .inl (fun _ => (-1)))), (a5, .inl (y 0, 10, .inl (fun _ => 0)))]) hD hS hA [3, 4, 5] rfl) (fun _ h => h) [3, 4, 5] [3, 4, 5] [0, 1, 2, 6, 7] rfl rfl rfl rfl rfl (by decide) 3 (ci := 7) rfl rfl rfl (fun u_2 H locs hP hD hS => ?_)
  have hP : va_P D vwCl [(a0, .inr (12, [.ref a1, .ref z0, .ref z1, .ref z2, .ref a3, .ref a6, .ref z3, .ref z4, .ref z5, .ref z6, .ref z7, .ref z8, .ref z9, .ref z10, .ref z11])), (a1, .inr (5, [.ref a2, .ref z12, .ref z13])), (a2, .inr (4, [.int 0, .ref z14, .ref z15, .ref z16])), (a6, .inr (6, [.int 0, .int 0, .int 0, .ref a7, .ref z17, .ref z18])), (a7, .inl (y 0, 10, .inl (fun _ => 0))), (a3, .inr (7, [.ref a4, .ref a5])), (a4, .inl (y 0, 10, .inl (fun _ => (-1)))), (a5, .inl (y 0, 10, .inl (fun _ => 0)))] H := hP
  have hD : va_D A [(a0, .inr (12, [.ref a1, .ref z0, .ref z1, .ref z2, .ref a3, .ref a6, .ref z3, .ref z4, .ref z5, .ref z6, .ref z7, .ref z8, .ref z9, .ref z10, .ref z11])), (a1, .inr (5, [.ref a2, .ref z12, .ref z13])), (a2, .inr (4, [.int 0, .ref z14, .ref z15, .ref z16])), (a6, .inr (6, [.int 0, .int 0, .int 0, .ref a7, .ref z17, .ref z18])), (a7, .inl (y 0, 10, .inl (fun _ => 0))), (a3, .inr (7, [.ref a4, .ref a5])), (a4, .inl (y 0, 10, .inl (fun _ => (-1)))), (a5, .inl (y 0, 10, .inl (fun _ => 0)))] := hD
  refine W.widen (k := 0) (n := 0) (Nat.le_of_ble_eq_true rfl) (Nat.le_of_ble_eq_true rfl) ?_
  refine W.eq (g2 := F0 m 12 ls []) rfl ?_
  refine lv_aload_n hx hb dX10_begin_12 rfl (lv_at hl 0 rfl) ?_
  refine va_get (D := D) (ci := 12) (v := .ref a6) (C := RX10) (T := TX10) (N := 15) hx hb hts inX10 hown hK hP 0 rfl rfl 5 (by decide) (hts _ q_68) (fun _ h9 => h9) rfl dX10_begin_13 ?_
  refine lv_iload_n hx hb dX10_begin_16 rfl (lv_at hl 1 rfl) ?_
  refine cV (l := l) (yM := yX4_start) (C := RX4) (As := [.int 112]) (rest := []) (wr := [(a0, .inr (12, [.ref a1, .ref z0, .ref z1, .ref z2, .ref a3, .ref a6, .ref z3, .ref z4, .ref z5, .ref z6, .ref z7, .ref z8, .ref z9, .ref z10, .ref z11])), (a1, .inr (5, [.ref a2, .ref z12, .ref z13])), (a2, .inr (4, [.int 0, .ref z14, .ref z15, .ref z16])), (a3, .inr (7, [.ref a4, .ref a5])), (a4, .inl (y 0, 10, .inl (fun _ => (-1)))), (a5, .inl (y 0, 10, .inl (fun _ => 0)))]) hF (c23_X4_start l a6 a7 z17 z18) gv_RX10_202 1 (by decide +kernel) rfl ⟨(Nat.le_of_ble_eq_true rfl), (Nat.le_of_ble_eq_true rfl)⟩ hl.1 rfl (Nat.le_of_ble_eq_true rfl) dX10_begin_17 ⟨(Nat.le_of_ble_eq_true rfl), (Nat.le_of_ble_eq_true rfl)⟩ hP hD hS (va_free (wc := [(a6, .inr (6, [.int 0, .int 0, .int 0, .ref a7, .ref z17, .ref z18])), (a7, .inl (y 0, 10, .inl (fun _ => 0)))]) hD hS hA [3, 4] rfl) (fun _ h => h) [3, 4] [3, 4] [0, 1, 2, 5, 6, 7] rfl rfl rfl rfl rfl (by decide) 3 (ci := 6) rfl rfl rfl (fun u_3 H locs hP hD hS => ?_)
  have hP : va_P D vwCl [(a0, .inr (12, [.ref a1, .ref z0, .ref z1, .ref z2, .ref a3, .ref a6, .ref z3, .ref z4, .ref z5, .ref z6, .ref z7, .ref z8, .ref z9, .ref z10, .ref z11])), (a1, .inr (5, [.ref a2, .ref z12, .ref z13])), (a2, .inr (4, [.int 0, .ref z14, .ref z15, .ref z16])), (a3, .inr (7, [.ref a4, .ref a5])), (a4, .inl (y 0, 10, .inl (fun _ => (-1)))), (a5, .inl (y 0, 10, .inl (fun _ => 0))), (a6, .inr (6, [.int 1, .int 0, .int 0, .ref a7, .ref z17, .ref z18])), (a7, .inl (y 0, 10, .inl (fun _ => 0)))] H := hP
  have hD : va_D A [(a0, .inr (12, [.ref a1, .ref z0, .ref z1, .ref z2, .ref a3, .ref a6, .ref z3, .ref z4, .ref z5, .ref z6, .ref z7, .ref z8, .ref z9, .ref z10, .ref z11])), (a1, .inr (5, [.ref a2, .ref z12, .ref z13])), (a2, .inr (4, [.int 0, .ref z14, .ref z15, .ref z16])), (a3, .inr (7, [.ref a4, .ref a5])), (a4, .inl (y 0, 10, .inl (fun _ => (-1)))), (a5, .inl (y 0, 10, .inl (fun _ => 0))), (a6, .inr (6, [.int 1, .int 0, .int 0, .ref a7, .ref z17, .ref z18])), (a7, .inl (y 0, 10, .inl (fun _ => 0)))] := hD
  refine W.widen (k := 0) (n := 0) (Nat.le_of_ble_eq_true rfl) (Nat.le_of_ble_eq_true rfl) ?_
  refine W.eq (g2 := F0 m 20 ls []) rfl ?_
  refine lv_aload_n hx hb dX10_begin_20 rfl (lv_at hl 0 rfl) ?_
  refine va_get (D := D) (ci := 12) (v := .ref a6) (C := RX10) (T := TX10) (N := 15) hx hb hts inX10 hown hK hP 0 rfl rfl 5 (by decide) (hts _ q_68) (fun _ h9 => h9) rfl dX10_begin_21 ?_
  refine lv_aload_n hx hb dX10_begin_24 rfl (lv_at hl 0 rfl) ?_
  refine va_get (D := D) (ci := 12) (v := .ref a1) (C := RX10) (T := TX10) (N := 15) hx hb hts inX10 hown hK hP 0 rfl rfl 0 (by decide) (hts _ q_1) (fun _ h9 => h9) rfl dX10_begin_25 ?_
  refine lv_aload_n hx hb dX10_begin_28 rfl (lv_at hl 0 rfl) ?_
  refine va_get (D := D) (ci := 12) (v := .ref a3) (C := RX10) (T := TX10) (N := 15) hx hb hts inX10 hown hK hP 0 rfl rfl 4 (by decide) (hts _ q_20) (fun _ h9 => h9) rfl dX10_begin_29 ?_
  refine cV (l := l) (yM := yX4_countAble) (C := RX4) (As := [.ref a1, .ref a3]) (rest := []) (wr := [(a0, .inr (12, [.ref a1, .ref z0, .ref z1, .ref z2, .ref a3, .ref a6, .ref z3, .ref z4, .ref z5, .ref z6, .ref z7, .ref z8, .ref z9, .ref z10, .ref z11])), (a1, .inr (5, [.ref a2, .ref z12, .ref z13])), (a2, .inr (4, [.int 0, .ref z14, .ref z15, .ref z16])), (a3, .inr (7, [.ref a4, .ref a5])), (a4, .inl (y 0, 10, .inl (fun _ => (-1)))), (a5, .inl (y 0, 10, .inl (fun _ => 0))), (a6, .inr (6, [.int 1, .int 0, .int 0, .ref a7, .ref z17, .ref z18])), (a7, .inl (y 0, 10, .inl (fun _ => 0)))]) hF (c24_X4_countAble l a1 a2 a6 a7 z12 z13 z14 z15 z16 z17 z18 a3) gv_RX10_205 2 (by decide +kernel) rfl ⟨(Nat.le_of_ble_eq_true rfl), (Nat.le_of_ble_eq_true rfl)⟩ hl.1 rfl (Nat.le_of_ble_eq_true rfl) dX10_begin_32 ⟨(Nat.le_of_ble_eq_true rfl), (Nat.le_of_ble_eq_true rfl)⟩ hP hD hS (pA hA hS) (fun _ h => h) [1, 2, 6, 7] [] [0, 1, 2, 3, 4, 5, 6, 7] rfl rfl rfl rfl rfl (by decide) 6 (ci := 6) rfl rfl rfl (fun u_4 H locs hP hD hS => ?_)
  have hP : va_P D vwCl [(a0, .inr (12, [.ref a1, .ref z0, .ref z1, .ref z2, .ref a3, .ref a6, .ref z3, .ref z4, .ref z5, .ref z6, .ref z7, .ref z8, .ref z9, .ref z10, .ref z11])), (a1, .inr (5, [.ref a2, .ref z12, .ref z13])), (a2, .inr (4, [.int 0, .ref z14, .ref z15, .ref z16])), (a3, .inr (7, [.ref a4, .ref a5])), (a4, .inl (y 0, 10, .inl (fun _ => (-1)))), (a5, .inl (y 0, 10, .inl (fun _ => 0))), (a6, .inr (6, [.int 1, .int 0, .int 0, .ref a7, .ref z17, .ref z18])), (a7, .inl (y 0, 10, .inl (fun _ => 0)))] H := hP
  have hD : va_D A [(a0, .inr (12, [.ref a1, .ref z0, .ref z1, .ref z2, .ref a3, .ref a6, .ref z3, .ref z4, .ref z5, .ref z6, .ref z7, .ref z8, .ref z9, .ref z10, .ref z11])), (a1, .inr (5, [.ref a2, .ref z12, .ref z13])), (a2, .inr (4, [.int 0, .ref z14, .ref z15, .ref z16])), (a3, .inr (7, [.ref a4, .ref a5])), (a4, .inl (y 0, 10, .inl (fun _ => (-1)))), (a5, .inl (y 0, 10, .inl (fun _ => 0))), (a6, .inr (6, [.int 1, .int 0, .int 0, .ref a7, .ref z17, .ref z18])), (a7, .inl (y 0, 10, .inl (fun _ => 0)))] := hD
  refine W.widen (k := 0) (n := 0) (Nat.le_of_ble_eq_true rfl) (Nat.le_of_ble_eq_true rfl) ?_
  refine W.eq (g2 := F0 m 35 ls [.int 0]) rfl ?_
  exact e_i hF hr (Nat.le_of_ble_eq_true rfl) (Nat.le_of_ble_eq_true rfl) hS (qg_end hS (fun _ => 0) rfl [0, 1, 2, 3, 4, 5, 6, 7] hP rfl (hD.sub [0, 1, 2, 3, 4, 5, 6, 7] rfl rfl)) dX10_begin_35

