set_option maxHeartbeats 4000000 in
set_option maxRecDepth 100000 in
theorem c73_X10_many (l : Launch) (a0 : Nat) (a1 : Nat) (a2 : Nat) (z0 : Nat) (z1 : Nat) (z2 : Nat) (z3 : Nat) (z4 : Nat) (z5 : Nat) (z6 : Nat) (z7 : Nat) (z8 : Nat) (z9 : Nat) (z10 : Nat) (z11 : Nat) (z12 : Nat) (z13 : Nat) (z14 : Nat) (z15 : Nat) (z16 : Nat) (z17 : Nat) (z18 : Nat) : CT l (.code yX10_many cX10_many 2 (some .int)) yX10_many { frames := 1, cells := 0, slots := 0, locals := 21 } [.ref a0, .int 104] (fun y => [(a0, .inr (12, [.ref a1, .ref z0, .ref z1, .ref z2, .ref z3, .ref z4, .ref z5, .ref z6, .ref z7, .ref z8, .ref z9, .ref z10, .ref z11, .ref z12, .ref z13])), (a1, .inr (5, [.ref z14, .ref a2, .ref z15])), (a2, .inr (4, [.int 0, .ref z16, .ref z17, .ref z18]))]) (fun _ => []) (fun u => some (.int 0)) (fun y u => []) := by
  refine mkM (by decide) (Nat.le_of_ble_eq_true rfl) ?_
  intro p e s m args below meth c D y A ls hF hr hAe hP hD hS hl
  have hF : FX p e s m args meth c cX10_many 2 RX10 "many" D y A := hF
  obtain ⟨⟨hx, hb, hml, hown, hts⟩, hev, heh, hA, hlk, hnm⟩ := id hF
  have hK := hev.1
  have hP : va_P D vwCl [(a0, .inr (12, [.ref a1, .ref z0, .ref z1, .ref z2, .ref z3, .ref z4, .ref z5, .ref z6, .ref z7, .ref z8, .ref z9, .ref z10, .ref z11, .ref z12, .ref z13])), (a1, .inr (5, [.ref z14, .ref a2, .ref z15])), (a2, .inr (4, [.int 0, .ref z16, .ref z17, .ref z18]))] s.heap := hP
  have hD : va_D (fun _ => True) [(a0, .inr (12, [.ref a1, .ref z0, .ref z1, .ref z2, .ref z3, .ref z4, .ref z5, .ref z6, .ref z7, .ref z8, .ref z9, .ref z10, .ref z11, .ref z12, .ref z13])), (a1, .inr (5, [.ref z14, .ref a2, .ref z15])), (a2, .inr (4, [.int 0, .ref z16, .ref z17, .ref z18]))] := hD
  have hl : lv_has ls 2 [(0, .ref a0), (1, .int 104)] := hl
  refine lv_aload_n hx hb dX10_many_0 rfl (lv_at hl 0 rfl) ?_
  refine lv_iload_n hx hb dX10_many_1 rfl (lv_at hl 1 rfl) ?_
  refine cV (l := l) (yM := yX10_needSide) (C := RX10) (As := [.int 104]) (rest := []) (wr := [(a0, .inr (12, [.ref a1, .ref z0, .ref z1, .ref z2, .ref z3, .ref z4, .ref z5, .ref z6, .ref z7, .ref z8, .ref z9, .ref z10, .ref z11, .ref z12, .ref z13])), (a1, .inr (5, [.ref z14, .ref a2, .ref z15])), (a2, .inr (4, [.int 0, .ref z16, .ref z17, .ref z18]))]) hF (c36_X10_needSide l a0 a1 z0 z1 z2 z3 z4 z5 z6 z7 z8 z9 z10 z11 z12 z13 z14 a2 z15) gv_RX10_95 1 (by decide +kernel) rfl ⟨(Nat.le_of_ble_eq_true rfl), (Nat.le_of_ble_eq_true rfl)⟩ hl.1 rfl (Nat.le_of_ble_eq_true rfl) dX10_many_2 ⟨(Nat.le_of_ble_eq_true rfl), (Nat.le_of_ble_eq_true rfl)⟩ hP hD hS (pA hA hS) (fun _ _ => trivial) [0, 1] [] [0, 1, 2] rfl rfl rfl rfl rfl (by decide) 0 (ci := 12) rfl rfl rfl (fun u_1 H locs hP hD hS => ?_)
  have hP : va_P D vwCl [(a0, .inr (12, [.ref a1, .ref z0, .ref z1, .ref z2, .ref z3, .ref z4, .ref z5, .ref z6, .ref z7, .ref z8, .ref z9, .ref z10, .ref z11, .ref z12, .ref z13])), (a1, .inr (5, [.ref z14, .ref a2, .ref z15])), (a2, .inr (4, [.int 0, .ref z16, .ref z17, .ref z18]))] H := hP
  have hD : va_D (fun _ => True) [(a0, .inr (12, [.ref a1, .ref z0, .ref z1, .ref z2, .ref z3, .ref z4, .ref z5, .ref z6, .ref z7, .ref z8, .ref z9, .ref z10, .ref z11, .ref z12, .ref z13])), (a1, .inr (5, [.ref z14, .ref a2, .ref z15])), (a2, .inr (4, [.int 0, .ref z16, .ref z17, .ref z18]))] := hD
  refine W.widen (k := 0) (n := 0) (Nat.le_of_ble_eq_true rfl) (Nat.le_of_ble_eq_true rfl) ?_
  refine W.eq (g2 := F0 m 5 ls [.ref a2]) rfl ?_
  refine va_getN (D := D) (ci := 4) (v := .int 0) (C := RX2) (T := TX2) (N := 4) hx hb hts inX2 hown hK hP 2 rfl rfl 0 (by decide) (va_Nw.use (A := args) rfl (hev.2.1 (RX10, 99, RX2, "count", "I") (List.mem_of_getElem? (i := 0) rfl))) (fun _ h9 => h9) rfl dX10_many_5 ?_
  exact e_i hF hr (Nat.le_of_ble_eq_true rfl) (Nat.le_of_ble_eq_true rfl) hS (qg_end hS (fun _ => 0) rfl [] hP rfl d_nil) dX10_many_8

set_option maxHeartbeats 4000000 in
set_option maxRecDepth 100000 in
theorem c73_L_many (l : Launch) (a0 : Nat) (a1 : Nat) (a2 : Nat) (a3 : Nat) (z0 : Nat) (z1 : Nat) (z2 : Nat) (z3 : Nat) (z4 : Nat) (z5 : Nat) (z6 : Nat) (z7 : Nat) (z8 : Nat) (z9 : Nat) (z10 : Nat) (z11 : Nat) (z12 : Nat) (z13 : Nat) (z14 : Nat) (z15 : Nat) (z16 : Nat) (z17 : Nat) (z18 : Nat) : CT l (.codeWith yL_many cL_many 4 (some .int) [(0, 9, 12, 13)]) yL_many { frames := 2, cells := 0, slots := 0, locals := 42 } [.ref a0, .int 104, .ref a3] (fun y => [(a0, .inr (12, [.ref a1, .ref z0, .ref z1, .ref z2, .ref z3, .ref z4, .ref z5, .ref z6, .ref z7, .ref z8, .ref z9, .ref z10, .ref z11, .ref z12, .ref z13])), (a1, .inr (5, [.ref z14, .ref a2, .ref z15])), (a2, .inr (4, [.int 0, .ref z16, .ref z17, .ref z18])), (a3, .inl (y 2, 1, .inr (.inl (fun _ => 0))))]) (fun y => [(a0, .inr (12, [.ref a1, .ref z0, .ref z1, .ref z2, .ref z3, .ref z4, .ref z5, .ref z6, .ref z7, .ref z8, .ref z9, .ref z10, .ref z11, .ref z12, .ref z13])), (a1, .inr (5, [.ref z14, .ref a2, .ref z15])), (a2, .inr (4, [.int 0, .ref z16, .ref z17, .ref z18])), (a3, .inl (y 2, 1, .inr (.inl (fun _ => 0))))]) (fun u => some (.int 0)) (fun y u => [(a0, .inr (12, [.ref a1, .ref z0, .ref z1, .ref z2, .ref z3, .ref z4, .ref z5, .ref z6, .ref z7, .ref z8, .ref z9, .ref z10, .ref z11, .ref z12, .ref z13])), (a1, .inr (5, [.ref z14, .ref a2, .ref z15])), (a2, .inr (4, [.int 0, .ref z16, .ref z17, .ref z18])), (a3, .inl (y 2, 1, .inr (.inl (fun _ => 0))))]) := by
  refine mkH (by decide) (Nat.le_of_ble_eq_true rfl) ?_
  intro p e s m args below meth c D y A ls hF htab hr hAe hP hD hS hl
  have hF : FX p e s m args meth c cL_many 4 RL "many" D y A := hF
  obtain ⟨⟨hx, hb, hml, hown, hts⟩, hev, heh, hA, hlk, hnm⟩ := id hF
  have hK := hev.1
  have hP : va_P D vwCl [(a0, .inr (12, [.ref a1, .ref z0, .ref z1, .ref z2, .ref z3, .ref z4, .ref z5, .ref z6, .ref z7, .ref z8, .ref z9, .ref z10, .ref z11, .ref z12, .ref z13])), (a1, .inr (5, [.ref z14, .ref a2, .ref z15])), (a2, .inr (4, [.int 0, .ref z16, .ref z17, .ref z18])), (a3, .inl (y 2, 1, .inr (.inl (fun _ => 0))))] s.heap := hP
  have hD : va_D A [(a0, .inr (12, [.ref a1, .ref z0, .ref z1, .ref z2, .ref z3, .ref z4, .ref z5, .ref z6, .ref z7, .ref z8, .ref z9, .ref z10, .ref z11, .ref z12, .ref z13])), (a1, .inr (5, [.ref z14, .ref a2, .ref z15])), (a2, .inr (4, [.int 0, .ref z16, .ref z17, .ref z18])), (a3, .inl (y 2, 1, .inr (.inl (fun _ => 0))))] := by rw [← hAe]; exact hD.self
  have hl : lv_has ls 4 [(0, .ref a0), (1, .int 104), (2, .ref a3)] := hl
  refine lv_aload_n hx hb dL_many_0 rfl (lv_at hl 2 rfl) ?_
  refine lv_iconst (v := 0) hx hb dL_many_1 (by decide) ?_
  refine lv_aload_n hx hb dL_many_2 rfl (lv_at hl 0 rfl) ?_
  refine lv_iload_n hx hb dL_many_3 rfl (lv_at hl 1 rfl) ?_
  refine cV (l := l) (yM := yX10_many) (C := RX10) (As := [.int 104]) (rest := [.int 0, .ref a3]) (wr := [(a0, .inr (12, [.ref a1, .ref z0, .ref z1, .ref z2, .ref z3, .ref z4, .ref z5, .ref z6, .ref z7, .ref z8, .ref z9, .ref z10, .ref z11, .ref z12, .ref z13])), (a1, .inr (5, [.ref z14, .ref a2, .ref z15])), (a2, .inr (4, [.int 0, .ref z16, .ref z17, .ref z18])), (a3, .inl (y 2, 1, .inr (.inl (fun _ => 0))))]) hF (c73_X10_many l a0 a1 a2 z0 z1 z2 z3 z4 z5 z6 z7 z8 z9 z10 z11 z12 z13 z14 z15 z16 z17 z18) gv_RL_17 1 (by decide +kernel) rfl ⟨(Nat.le_of_ble_eq_true rfl), (Nat.le_of_ble_eq_true rfl)⟩ hl.1 rfl (Nat.le_of_ble_eq_true rfl) dL_many_4 ⟨(Nat.le_of_ble_eq_true rfl), (Nat.le_of_ble_eq_true rfl)⟩ hP hD hS (pA hA hS) (fun _ h => h) [0, 1, 2] [] [0, 1, 2, 3] rfl rfl rfl rfl rfl (by decide) 0 (ci := 12) rfl rfl rfl (fun u_1 H locs hP hD hS => ?_)
  have hP : va_P D vwCl [(a0, .inr (12, [.ref a1, .ref z0, .ref z1, .ref z2, .ref z3, .ref z4, .ref z5, .ref z6, .ref z7, .ref z8, .ref z9, .ref z10, .ref z11, .ref z12, .ref z13])), (a1, .inr (5, [.ref z14, .ref a2, .ref z15])), (a2, .inr (4, [.int 0, .ref z16, .ref z17, .ref z18])), (a3, .inl (y 2, 1, .inr (.inl (fun _ => 0))))] H := hP
  have hD : va_D A [(a0, .inr (12, [.ref a1, .ref z0, .ref z1, .ref z2, .ref z3, .ref z4, .ref z5, .ref z6, .ref z7, .ref z8, .ref z9, .ref z10, .ref z11, .ref z12, .ref z13])), (a1, .inr (5, [.ref z14, .ref a2, .ref z15])), (a2, .inr (4, [.int 0, .ref z16, .ref z17, .ref z18])), (a3, .inl (y 2, 1, .inr (.inl (fun _ => 0))))] := hD
  refine W.widen (k := 0) (n := 0) (Nat.le_of_ble_eq_true rfl) (Nat.le_of_ble_eq_true rfl) ?_
  refine W.eq (g2 := F0 m 7 ls [.int 0, .int 0, .ref a3]) rfl ?_
  refine lv_i2l (v := 0) hx hb dL_many_7 (by decide) ?_
  refine va_last hx hb hK hP hD hS 3 2 rfl rfl (vp_in_nI (n := 0) (by decide) (by decide)) dL_many_8 (fun H locs hP hD hS => ?_)
  obtain ⟨hP, hD⟩ := same_l (g := (fun _ => 0)) hP hD 3 rfl (fun j _ => up_l rfl)
  have hP : va_P D vwCl [(a0, .inr (12, [.ref a1, .ref z0, .ref z1, .ref z2, .ref z3, .ref z4, .ref z5, .ref z6, .ref z7, .ref z8, .ref z9, .ref z10, .ref z11, .ref z12, .ref z13])), (a1, .inr (5, [.ref z14, .ref a2, .ref z15])), (a2, .inr (4, [.int 0, .ref z16, .ref z17, .ref z18])), (a3, .inl (y 2, 1, .inr (.inl (fun _ => 0))))] H := hP
  have hD : va_D A [(a0, .inr (12, [.ref a1, .ref z0, .ref z1, .ref z2, .ref z3, .ref z4, .ref z5, .ref z6, .ref z7, .ref z8, .ref z9, .ref z10, .ref z11, .ref z12, .ref z13])), (a1, .inr (5, [.ref z14, .ref a2, .ref z15])), (a2, .inr (4, [.int 0, .ref z16, .ref z17, .ref z18])), (a3, .inl (y 2, 1, .inr (.inl (fun _ => 0))))] := hD
  refine lv_goto (tgt := 15) hx hb dL_many_9 (by decide) ?_
  refine lv_iconst (v := 0) hx hb dL_many_15 (by decide) ?_
  exact e_i hF hr (Nat.le_of_ble_eq_true rfl) (Nat.le_of_ble_eq_true rfl) hS (qg_end hS (fun _ => 0) rfl [0, 1, 2, 3] hP rfl (hD.sub [0, 1, 2, 3] rfl rfl)) dL_many_16

set_option maxHeartbeats 4000000 in
set_option maxRecDepth 100000 in
theorem c75_X11_many (l : Launch) (a0 : Nat) (a1 : Nat) (z0 : Nat) (z1 : Nat) (z2 : Nat) (z3 : Nat) (z4 : Nat) (z5 : Nat) (z6 : Nat) (z7 : Nat) (z8 : Nat) (z9 : Nat) (z10 : Nat) (z11 : Nat) (z12 : Nat) : CT l (.code yX11_many cX11_many 2 (some .int)) yX11_many { frames := 5, cells := 0, slots := 0, locals := 111 } [.ref a0, .int 104] (fun y => [(a0, .inr (13, [.ref a1, .ref z0, .ref z1, .ref z2, .ref z3, .ref z4, .int 45, .ref z5, .ref z6, .ref z7, .int 0, .ref z8, .ref z9, .int 0, .int 0, .int 0, .int 0, .ref z10, .int 0, .null, .ref z11, .ref z12])), (a1, .inl (y 0, 3, .inl (fun _ => 0)))]) (fun y => [(a0, .inr (13, [.ref a1, .ref z0, .ref z1, .ref z2, .ref z3, .ref z4, .int 45, .ref z5, .ref z6, .ref z7, .int 0, .ref z8, .ref z9, .int 0, .int 0, .int 0, .int 0, .ref z10, .int 0, .null, .ref z11, .ref z12])), (a1, .inl (y 0, 3, .inl (fun _ => 0)))]) (fun u => some (.int 0)) (fun y u => [(a0, .inr (13, [.ref a1, .ref z0, .ref z1, .ref z2, .ref z3, .ref z4, .int 45, .ref z5, .ref z6, .ref z7, .int 0, .ref z8, .ref z9, .int 0, .int 0, .int 0, .int 0, .ref z10, .int 0, .null, .ref z11, .ref z12])), (a1, .inl (y 0, 3, .inl (fun _ => 0)))]) := by
  refine mkM (by decide) (Nat.le_of_ble_eq_true rfl) ?_
  intro p e s m args below meth c D y A ls hF hr hAe hP hD hS hl
  have hF : FX p e s m args meth c cX11_many 2 RX11 "many" D y A := hF
  obtain ⟨⟨hx, hb, hml, hown, hts⟩, hev, heh, hA, hlk, hnm⟩ := id hF
  have hK := hev.1
  have hP : va_P D vwCl [(a0, .inr (13, [.ref a1, .ref z0, .ref z1, .ref z2, .ref z3, .ref z4, .int 45, .ref z5, .ref z6, .ref z7, .int 0, .ref z8, .ref z9, .int 0, .int 0, .int 0, .int 0, .ref z10, .int 0, .null, .ref z11, .ref z12])), (a1, .inl (y 0, 3, .inl (fun _ => 0)))] s.heap := hP
  have hD : va_D A [(a0, .inr (13, [.ref a1, .ref z0, .ref z1, .ref z2, .ref z3, .ref z4, .int 45, .ref z5, .ref z6, .ref z7, .int 0, .ref z8, .ref z9, .int 0, .int 0, .int 0, .int 0, .ref z10, .int 0, .null, .ref z11, .ref z12])), (a1, .inl (y 0, 3, .inl (fun _ => 0)))] := by rw [← hAe]; exact hD.self
  have hl : lv_has ls 2 [(0, .ref a0), (1, .int 104)] := hl
  refine lv_aload_n hx hb dX11_many_0 rfl (lv_at hl 0 rfl) ?_
  refine lv_iload_n hx hb dX11_many_1 rfl (lv_at hl 1 rfl) ?_
  refine cS (l := l) (yM := yX11_sideOf) (As := [.int 104]) (rest := [.ref a0]) (wr := [(a0, .inr (13, [.ref a1, .ref z0, .ref z1, .ref z2, .ref z3, .ref z4, .int 45, .ref z5, .ref z6, .ref z7, .int 0, .ref z8, .ref z9, .int 0, .int 0, .int 0, .int 0, .ref z10, .int 0, .null, .ref z11, .ref z12])), (a1, .inl (y 0, 3, .inl (fun _ => 0)))]) hF (c39_X11_sideOf l) gs_RX11_124 1 (by decide +kernel) rfl ⟨(Nat.le_of_ble_eq_true rfl), (Nat.le_of_ble_eq_true rfl)⟩ hl.1 rfl (Nat.le_of_ble_eq_true rfl) dX11_many_2 ⟨(Nat.le_of_ble_eq_true rfl), (Nat.le_of_ble_eq_true rfl)⟩ hP hD hS (pA hA hS) (fun _ h => h) [] [] [0, 1] rfl rfl rfl rfl rfl (by decide) (fun u_1 H locs hP hD hS => ?_)
  have hP : va_P D vwCl [(a0, .inr (13, [.ref a1, .ref z0, .ref z1, .ref z2, .ref z3, .ref z4, .int 45, .ref z5, .ref z6, .ref z7, .int 0, .ref z8, .ref z9, .int 0, .int 0, .int 0, .int 0, .ref z10, .int 0, .null, .ref z11, .ref z12])), (a1, .inl (y 0, 3, .inl (fun _ => 0)))] H := hP
  have hD : va_D A [(a0, .inr (13, [.ref a1, .ref z0, .ref z1, .ref z2, .ref z3, .ref z4, .int 45, .ref z5, .ref z6, .ref z7, .int 0, .ref z8, .ref z9, .int 0, .int 0, .int 0, .int 0, .ref z10, .int 0, .null, .ref z11, .ref z12])), (a1, .inl (y 0, 3, .inl (fun _ => 0)))] := hD
  refine W.widen (k := 0) (n := 0) (Nat.le_of_ble_eq_true rfl) (Nat.le_of_ble_eq_true rfl) ?_
  refine W.eq (g2 := F0 m 5 ls [.int 1, .ref a0]) rfl ?_
  refine lv_if_ge (tgt := 12) hx hb dX11_many_5 (by decide) (fun _ => ?_) (fun c => absurd (by decide) c)
  refine lv_iconst (v := 0) hx hb dX11_many_12 (by decide) ?_
  refine lv_iconst (v := 0) hx hb dX11_many_13 (by decide) ?_
  refine lv_iconst (v := 0) hx hb dX11_many_14 (by decide) ?_
  refine cV (l := l) (yM := yX11_fails) (C := RX11) (As := [.int 0, .int 0, .int 0]) (rest := []) (wr := [(a1, .inl (y 0, 3, .inl (fun _ => 0)))]) hF (c32_X11_fails l a0 a1 z0 z1 z2 z3 z4 z5 z6 z7 z8 z9 z10 z11 z12) gv_RX11_128 3 (by decide +kernel) rfl ⟨(Nat.le_of_ble_eq_true rfl), (Nat.le_of_ble_eq_true rfl)⟩ hl.1 rfl (Nat.le_of_ble_eq_true rfl) dX11_many_15 ⟨(Nat.le_of_ble_eq_true rfl), (Nat.le_of_ble_eq_true rfl)⟩ hP hD hS (va_free (wc := [(a0, .inr (13, [.ref a1, .ref z0, .ref z1, .ref z2, .ref z3, .ref z4, .int 45, .ref z5, .ref z6, .ref z7, .int 0, .ref z8, .ref z9, .int 0, .int 0, .int 0, .int 0, .ref z10, .int 0, .null, .ref z11, .ref z12]))]) hD hS hA [0] rfl) (fun _ h => h) [0] [0] [1] rfl rfl rfl rfl rfl (by decide) 0 (ci := 13) rfl rfl rfl (fun u_2 H locs hP hD hS => ?_)
  have hP : va_P D vwCl [(a1, .inl (y 0, 3, .inl (fun _ => 0))), (a0, .inr (13, [.ref a1, .ref z0, .ref z1, .ref z2, .ref z3, .ref z4, .int 45, .ref z5, .ref z6, .ref z7, .int 0, .ref z8, .ref z9, .int 0, .int 0, .int 0, .int 0, .ref z10, .int 0, .null, .ref z11, .ref z12]))] H := hP
  have hD : va_D A [(a1, .inl (y 0, 3, .inl (fun _ => 0))), (a0, .inr (13, [.ref a1, .ref z0, .ref z1, .ref z2, .ref z3, .ref z4, .int 45, .ref z5, .ref z6, .ref z7, .int 0, .ref z8, .ref z9, .int 0, .int 0, .int 0, .int 0, .ref z10, .int 0, .null, .ref z11, .ref z12]))] := hD
  refine W.widen (k := 0) (n := 0) (Nat.le_of_ble_eq_true rfl) (Nat.le_of_ble_eq_true rfl) ?_
  refine W.eq (g2 := F0 m 18 ls [.int 0]) rfl ?_
  refine lv_if_eq (tgt := 25) hx hb dX11_many_18 (by decide) (fun _ => ?_) (fun c => absurd (by decide) c)
  refine lv_aload_n hx hb dX11_many_25 rfl (lv_at hl 0 rfl) ?_
  refine va_get (D := D) (ci := 13) (v := .ref a1) (C := RX11) (T := TX11) (N := 22) hx hb hts inX11 hown hK hP 1 rfl rfl 0 (by decide) (hts _ wd_115) (fun _ h9 => h9) rfl dX11_many_26 ?_
  refine lv_iload_n hx hb dX11_many_29 rfl (lv_at hl 1 rfl) ?_
  refine cS (l := l) (yM := yX11_sideOf) (As := [.int 104]) (rest := [.ref a1]) (wr := [(a1, .inl (y 0, 3, .inl (fun _ => 0))), (a0, .inr (13, [.ref a1, .ref z0, .ref z1, .ref z2, .ref z3, .ref z4, .int 45, .ref z5, .ref z6, .ref z7, .int 0, .ref z8, .ref z9, .int 0, .int 0, .int 0, .int 0, .ref z10, .int 0, .null, .ref z11, .ref z12]))]) hF (c39_X11_sideOf l) gs_RX11_124 1 (by decide +kernel) rfl ⟨(Nat.le_of_ble_eq_true rfl), (Nat.le_of_ble_eq_true rfl)⟩ hl.1 rfl (Nat.le_of_ble_eq_true rfl) dX11_many_30 ⟨(Nat.le_of_ble_eq_true rfl), (Nat.le_of_ble_eq_true rfl)⟩ hP hD hS (pA hA hS) (fun _ h => h) [] [] [0, 1] rfl rfl rfl rfl rfl (by decide) (fun u_3 H locs hP hD hS => ?_)
  have hP : va_P D vwCl [(a1, .inl (y 0, 3, .inl (fun _ => 0))), (a0, .inr (13, [.ref a1, .ref z0, .ref z1, .ref z2, .ref z3, .ref z4, .int 45, .ref z5, .ref z6, .ref z7, .int 0, .ref z8, .ref z9, .int 0, .int 0, .int 0, .int 0, .ref z10, .int 0, .null, .ref z11, .ref z12]))] H := hP
  have hD : va_D A [(a1, .inl (y 0, 3, .inl (fun _ => 0))), (a0, .inr (13, [.ref a1, .ref z0, .ref z1, .ref z2, .ref z3, .ref z4, .int 45, .ref z5, .ref z6, .ref z7, .int 0, .ref z8, .ref z9, .int 0, .int 0, .int 0, .int 0, .ref z10, .int 0, .null, .ref z11, .ref z12]))] := hD
  refine W.widen (k := 0) (n := 0) (Nat.le_of_ble_eq_true rfl) (Nat.le_of_ble_eq_true rfl) ?_
  refine W.eq (g2 := F0 m 33 ls [.int 1, .ref a1]) rfl ?_
  refine va_iald hx hb hK hP 0 0 rfl rfl (vp_in_nI (n := 1) (by decide) (by decide)) dX11_many_33 ?_
  refine tp_i (v := 0) rfl ?_
  exact e_i hF hr (Nat.le_of_ble_eq_true rfl) (Nat.le_of_ble_eq_true rfl) hS (qg_end hS (fun _ => 0) rfl [1, 0] hP rfl (hD.sub [1, 0] rfl rfl)) dX11_many_34

set_option maxHeartbeats 4000000 in
set_option maxRecDepth 100000 in
theorem c76_X10_many (l : Launch) (a0 : Nat) (a1 : Nat) (z0 : Nat) (z1 : Nat) (z2 : Nat) (z3 : Nat) (z4 : Nat) (z5 : Nat) (z6 : Nat) (z7 : Nat) (z8 : Nat) (z9 : Nat) (z10 : Nat) (z11 : Nat) (z12 : Nat) (z13 : Nat) (z14 : Nat) (z15 : Nat) (z16 : Nat) : CT l (.code yX10_many cX10_many 2 (some .int)) yX10_many { frames := 1, cells := 0, slots := 0, locals := 21 } [.ref a0, .int 109] (fun y => [(a0, .inr (12, [.ref z0, .ref a1, .ref z1, .ref z2, .ref z3, .ref z4, .ref z5, .ref z6, .ref z7, .ref z8, .ref z9, .ref z10, .ref z11, .ref z12, .ref z13])), (a1, .inr (4, [.int 0, .ref z14, .ref z15, .ref z16]))]) (fun _ => []) (fun u => some (.int 0)) (fun y u => []) := by
  refine mkM (by decide) (Nat.le_of_ble_eq_true rfl) ?_
  intro p e s m args below meth c D y A ls hF hr hAe hP hD hS hl
  have hF : FX p e s m args meth c cX10_many 2 RX10 "many" D y A := hF
  obtain ⟨⟨hx, hb, hml, hown, hts⟩, hev, heh, hA, hlk, hnm⟩ := id hF
  have hK := hev.1
  have hP : va_P D vwCl [(a0, .inr (12, [.ref z0, .ref a1, .ref z1, .ref z2, .ref z3, .ref z4, .ref z5, .ref z6, .ref z7, .ref z8, .ref z9, .ref z10, .ref z11, .ref z12, .ref z13])), (a1, .inr (4, [.int 0, .ref z14, .ref z15, .ref z16]))] s.heap := hP
  have hD : va_D (fun _ => True) [(a0, .inr (12, [.ref z0, .ref a1, .ref z1, .ref z2, .ref z3, .ref z4, .ref z5, .ref z6, .ref z7, .ref z8, .ref z9, .ref z10, .ref z11, .ref z12, .ref z13])), (a1, .inr (4, [.int 0, .ref z14, .ref z15, .ref z16]))] := hD
  have hl : lv_has ls 2 [(0, .ref a0), (1, .int 109)] := hl
  refine lv_aload_n hx hb dX10_many_0 rfl (lv_at hl 0 rfl) ?_
  refine lv_iload_n hx hb dX10_many_1 rfl (lv_at hl 1 rfl) ?_
  refine cV (l := l) (yM := yX10_needSide) (C := RX10) (As := [.int 109]) (rest := []) (wr := [(a0, .inr (12, [.ref z0, .ref a1, .ref z1, .ref z2, .ref z3, .ref z4, .ref z5, .ref z6, .ref z7, .ref z8, .ref z9, .ref z10, .ref z11, .ref z12, .ref z13])), (a1, .inr (4, [.int 0, .ref z14, .ref z15, .ref z16]))]) hF (c46_X10_needSide l a0 z0 a1 z1 z2 z3 z4 z5 z6 z7 z8 z9 z10 z11 z12 z13) gv_RX10_95 1 (by decide +kernel) rfl ⟨(Nat.le_of_ble_eq_true rfl), (Nat.le_of_ble_eq_true rfl)⟩ hl.1 rfl (Nat.le_of_ble_eq_true rfl) dX10_many_2 ⟨(Nat.le_of_ble_eq_true rfl), (Nat.le_of_ble_eq_true rfl)⟩ hP hD hS (pA hA hS) (fun _ _ => trivial) [0] [] [0, 1] rfl rfl rfl rfl rfl (by decide) 0 (ci := 12) rfl rfl rfl (fun u_1 H locs hP hD hS => ?_)
  have hP : va_P D vwCl [(a0, .inr (12, [.ref z0, .ref a1, .ref z1, .ref z2, .ref z3, .ref z4, .ref z5, .ref z6, .ref z7, .ref z8, .ref z9, .ref z10, .ref z11, .ref z12, .ref z13])), (a1, .inr (4, [.int 0, .ref z14, .ref z15, .ref z16]))] H := hP
  have hD : va_D (fun _ => True) [(a0, .inr (12, [.ref z0, .ref a1, .ref z1, .ref z2, .ref z3, .ref z4, .ref z5, .ref z6, .ref z7, .ref z8, .ref z9, .ref z10, .ref z11, .ref z12, .ref z13])), (a1, .inr (4, [.int 0, .ref z14, .ref z15, .ref z16]))] := hD
  refine W.widen (k := 0) (n := 0) (Nat.le_of_ble_eq_true rfl) (Nat.le_of_ble_eq_true rfl) ?_
  refine W.eq (g2 := F0 m 5 ls [.ref a1]) rfl ?_
  refine va_getN (D := D) (ci := 4) (v := .int 0) (C := RX2) (T := TX2) (N := 4) hx hb hts inX2 hown hK hP 1 rfl rfl 0 (by decide) (va_Nw.use (A := args) rfl (hev.2.1 (RX10, 99, RX2, "count", "I") (List.mem_of_getElem? (i := 0) rfl))) (fun _ h9 => h9) rfl dX10_many_5 ?_
  exact e_i hF hr (Nat.le_of_ble_eq_true rfl) (Nat.le_of_ble_eq_true rfl) hS (qg_end hS (fun _ => 0) rfl [] hP rfl d_nil) dX10_many_8

set_option maxHeartbeats 4000000 in
set_option maxRecDepth 100000 in
theorem c76_L_many (l : Launch) (a0 : Nat) (a1 : Nat) (a2 : Nat) (z0 : Nat) (z1 : Nat) (z2 : Nat) (z3 : Nat) (z4 : Nat) (z5 : Nat) (z6 : Nat) (z7 : Nat) (z8 : Nat) (z9 : Nat) (z10 : Nat) (z11 : Nat) (z12 : Nat) (z13 : Nat) (z14 : Nat) (z15 : Nat) (z16 : Nat) : CT l (.codeWith yL_many cL_many 4 (some .int) [(0, 9, 12, 13)]) yL_many { frames := 2, cells := 0, slots := 0, locals := 42 } [.ref a0, .int 109, .ref a2] (fun y => [(a0, .inr (12, [.ref z0, .ref a1, .ref z1, .ref z2, .ref z3, .ref z4, .ref z5, .ref z6, .ref z7, .ref z8, .ref z9, .ref z10, .ref z11, .ref z12, .ref z13])), (a1, .inr (4, [.int 0, .ref z14, .ref z15, .ref z16])), (a2, .inl (y 2, 1, .inr (.inl (fun _ => 0))))]) (fun y => [(a0, .inr (12, [.ref z0, .ref a1, .ref z1, .ref z2, .ref z3, .ref z4, .ref z5, .ref z6, .ref z7, .ref z8, .ref z9, .ref z10, .ref z11, .ref z12, .ref z13])), (a1, .inr (4, [.int 0, .ref z14, .ref z15, .ref z16])), (a2, .inl (y 2, 1, .inr (.inl (fun _ => 0))))]) (fun u => some (.int 0)) (fun y u => [(a0, .inr (12, [.ref z0, .ref a1, .ref z1, .ref z2, .ref z3, .ref z4, .ref z5, .ref z6, .ref z7, .ref z8, .ref z9, .ref z10, .ref z11, .ref z12, .ref z13])), (a1, .inr (4, [.int 0, .ref z14, .ref z15, .ref z16])), (a2, .inl (y 2, 1, .inr (.inl (fun _ => 0))))]) := by
  refine mkH (by decide) (Nat.le_of_ble_eq_true rfl) ?_
  intro p e s m args below meth c D y A ls hF htab hr hAe hP hD hS hl
  have hF : FX p e s m args meth c cL_many 4 RL "many" D y A := hF
  obtain ⟨⟨hx, hb, hml, hown, hts⟩, hev, heh, hA, hlk, hnm⟩ := id hF
  have hK := hev.1
  have hP : va_P D vwCl [(a0, .inr (12, [.ref z0, .ref a1, .ref z1, .ref z2, .ref z3, .ref z4, .ref z5, .ref z6, .ref z7, .ref z8, .ref z9, .ref z10, .ref z11, .ref z12, .ref z13])), (a1, .inr (4, [.int 0, .ref z14, .ref z15, .ref z16])), (a2, .inl (y 2, 1, .inr (.inl (fun _ => 0))))] s.heap := hP
  have hD : va_D A [(a0, .inr (12, [.ref z0, .ref a1, .ref z1, .ref z2, .ref z3, .ref z4, .ref z5, .ref z6, .ref z7, .ref z8, .ref z9, .ref z10, .ref z11, .ref z12, .ref z13])), (a1, .inr (4, [.int 0, .ref z14, .ref z15, .ref z16])), (a2, .inl (y 2, 1, .inr (.inl (fun _ => 0))))] := by rw [← hAe]; exact hD.self
  have hl : lv_has ls 4 [(0, .ref a0), (1, .int 109), (2, .ref a2)] := hl
  refine lv_aload_n hx hb dL_many_0 rfl (lv_at hl 2 rfl) ?_
  refine lv_iconst (v := 0) hx hb dL_many_1 (by decide) ?_
  refine lv_aload_n hx hb dL_many_2 rfl (lv_at hl 0 rfl) ?_
  refine lv_iload_n hx hb dL_many_3 rfl (lv_at hl 1 rfl) ?_
  refine cV (l := l) (yM := yX10_many) (C := RX10) (As := [.int 109]) (rest := [.int 0, .ref a2]) (wr := [(a0, .inr (12, [.ref z0, .ref a1, .ref z1, .ref z2, .ref z3, .ref z4, .ref z5, .ref z6, .ref z7, .ref z8, .ref z9, .ref z10, .ref z11, .ref z12, .ref z13])), (a1, .inr (4, [.int 0, .ref z14, .ref z15, .ref z16])), (a2, .inl (y 2, 1, .inr (.inl (fun _ => 0))))]) hF (c76_X10_many l a0 a1 z0 z1 z2 z3 z4 z5 z6 z7 z8 z9 z10 z11 z12 z13 z14 z15 z16) gv_RL_17 1 (by decide +kernel) rfl ⟨(Nat.le_of_ble_eq_true rfl), (Nat.le_of_ble_eq_true rfl)⟩ hl.1 rfl (Nat.le_of_ble_eq_true rfl) dL_many_4 ⟨(Nat.le_of_ble_eq_true rfl), (Nat.le_of_ble_eq_true rfl)⟩ hP hD hS (pA hA hS) (fun _ h => h) [0, 1] [] [0, 1, 2] rfl rfl rfl rfl rfl (by decide) 0 (ci := 12) rfl rfl rfl (fun u_1 H locs hP hD hS => ?_)
  have hP : va_P D vwCl [(a0, .inr (12, [.ref z0, .ref a1, .ref z1, .ref z2, .ref z3, .ref z4, .ref z5, .ref z6, .ref z7, .ref z8, .ref z9, .ref z10, .ref z11, .ref z12, .ref z13])), (a1, .inr (4, [.int 0, .ref z14, .ref z15, .ref z16])), (a2, .inl (y 2, 1, .inr (.inl (fun _ => 0))))] H := hP
  have hD : va_D A [(a0, .inr (12, [.ref z0, .ref a1, .ref z1, .ref z2, .ref z3, .ref z4, .ref z5, .ref z6, .ref z7, .ref z8, .ref z9, .ref z10, .ref z11, .ref z12, .ref z13])), (a1, .inr (4, [.int 0, .ref z14, .ref z15, .ref z16])), (a2, .inl (y 2, 1, .inr (.inl (fun _ => 0))))] := hD
  refine W.widen (k := 0) (n := 0) (Nat.le_of_ble_eq_true rfl) (Nat.le_of_ble_eq_true rfl) ?_
  refine W.eq (g2 := F0 m 7 ls [.int 0, .int 0, .ref a2]) rfl ?_
  refine lv_i2l (v := 0) hx hb dL_many_7 (by decide) ?_
  refine va_last hx hb hK hP hD hS 2 2 rfl rfl (vp_in_nI (n := 0) (by decide) (by decide)) dL_many_8 (fun H locs hP hD hS => ?_)
  obtain ⟨hP, hD⟩ := same_l (g := (fun _ => 0)) hP hD 2 rfl (fun j _ => up_l rfl)
  have hP : va_P D vwCl [(a0, .inr (12, [.ref z0, .ref a1, .ref z1, .ref z2, .ref z3, .ref z4, .ref z5, .ref z6, .ref z7, .ref z8, .ref z9, .ref z10, .ref z11, .ref z12, .ref z13])), (a1, .inr (4, [.int 0, .ref z14, .ref z15, .ref z16])), (a2, .inl (y 2, 1, .inr (.inl (fun _ => 0))))] H := hP
  have hD : va_D A [(a0, .inr (12, [.ref z0, .ref a1, .ref z1, .ref z2, .ref z3, .ref z4, .ref z5, .ref z6, .ref z7, .ref z8, .ref z9, .ref z10, .ref z11, .ref z12, .ref z13])), (a1, .inr (4, [.int 0, .ref z14, .ref z15, .ref z16])), (a2, .inl (y 2, 1, .inr (.inl (fun _ => 0))))] := hD
  refine lv_goto (tgt := 15) hx hb dL_many_9 (by decide) ?_
  refine lv_iconst (v := 0) hx hb dL_many_15 (by decide) ?_
  exact e_i hF hr (Nat.le_of_ble_eq_true rfl) (Nat.le_of_ble_eq_true rfl) hS (qg_end hS (fun _ => 0) rfl [0, 1, 2] hP rfl (hD.sub [0, 1, 2] rfl rfl)) dL_many_16

set_option maxHeartbeats 4000000 in
set_option maxRecDepth 100000 in
theorem c78_X11_many (l : Launch) (a0 : Nat) (a1 : Nat) (z0 : Nat) (z1 : Nat) (z2 : Nat) (z3 : Nat) (z4 : Nat) (z5 : Nat) (z6 : Nat) (z7 : Nat) (z8 : Nat) (z9 : Nat) (z10 : Nat) (z11 : Nat) (z12 : Nat) : CT l (.code yX11_many cX11_many 2 (some .int)) yX11_many { frames := 5, cells := 0, slots := 0, locals := 111 } [.ref a0, .int 109] (fun y => [(a0, .inr (13, [.ref a1, .ref z0, .ref z1, .ref z2, .ref z3, .ref z4, .int 45, .ref z5, .ref z6, .ref z7, .int 0, .ref z8, .ref z9, .int 0, .int 0, .int 0, .int 0, .ref z10, .int 0, .null, .ref z11, .ref z12])), (a1, .inl (y 0, 3, .inl (fun _ => 0)))]) (fun y => [(a0, .inr (13, [.ref a1, .ref z0, .ref z1, .ref z2, .ref z3, .ref z4, .int 45, .ref z5, .ref z6, .ref z7, .int 0, .ref z8, .ref z9, .int 0, .int 0, .int 0, .int 0, .ref z10, .int 0, .null, .ref z11, .ref z12])), (a1, .inl (y 0, 3, .inl (fun _ => 0)))]) (fun u => some (.int 0)) (fun y u => [(a0, .inr (13, [.ref a1, .ref z0, .ref z1, .ref z2, .ref z3, .ref z4, .int 45, .ref z5, .ref z6, .ref z7, .int 0, .ref z8, .ref z9, .int 0, .int 0, .int 0, .int 0, .ref z10, .int 0, .null, .ref z11, .ref z12])), (a1, .inl (y 0, 3, .inl (fun _ => 0)))]) := by
  refine mkM (by decide) (Nat.le_of_ble_eq_true rfl) ?_
  intro p e s m args below meth c D y A ls hF hr hAe hP hD hS hl
  have hF : FX p e s m args meth c cX11_many 2 RX11 "many" D y A := hF
  obtain ⟨⟨hx, hb, hml, hown, hts⟩, hev, heh, hA, hlk, hnm⟩ := id hF
  have hK := hev.1
  have hP : va_P D vwCl [(a0, .inr (13, [.ref a1, .ref z0, .ref z1, .ref z2, .ref z3, .ref z4, .int 45, .ref z5, .ref z6, .ref z7, .int 0, .ref z8, .ref z9, .int 0, .int 0, .int 0, .int 0, .ref z10, .int 0, .null, .ref z11, .ref z12])), (a1, .inl (y 0, 3, .inl (fun _ => 0)))] s.heap := hP
  have hD : va_D A [(a0, .inr (13, [.ref a1, .ref z0, .ref z1, .ref z2, .ref z3, .ref z4, .int 45, .ref z5, .ref z6, .ref z7, .int 0, .ref z8, .ref z9, .int 0, .int 0, .int 0, .int 0, .ref z10, .int 0, .null, .ref z11, .ref z12])), (a1, .inl (y 0, 3, .inl (fun _ => 0)))] := by rw [← hAe]; exact hD.self
  have hl : lv_has ls 2 [(0, .ref a0), (1, .int 109)] := hl
  refine lv_aload_n hx hb dX11_many_0 rfl (lv_at hl 0 rfl) ?_
  refine lv_iload_n hx hb dX11_many_1 rfl (lv_at hl 1 rfl) ?_
  refine cS (l := l) (yM := yX11_sideOf) (As := [.int 109]) (rest := [.ref a0]) (wr := [(a0, .inr (13, [.ref a1, .ref z0, .ref z1, .ref z2, .ref z3, .ref z4, .int 45, .ref z5, .ref z6, .ref z7, .int 0, .ref z8, .ref z9, .int 0, .int 0, .int 0, .int 0, .ref z10, .int 0, .null, .ref z11, .ref z12])), (a1, .inl (y 0, 3, .inl (fun _ => 0)))]) hF (c49_X11_sideOf l) gs_RX11_124 1 (by decide +kernel) rfl ⟨(Nat.le_of_ble_eq_true rfl), (Nat.le_of_ble_eq_true rfl)⟩ hl.1 rfl (Nat.le_of_ble_eq_true rfl) dX11_many_2 ⟨(Nat.le_of_ble_eq_true rfl), (Nat.le_of_ble_eq_true rfl)⟩ hP hD hS (pA hA hS) (fun _ h => h) [] [] [0, 1] rfl rfl rfl rfl rfl (by decide) (fun u_1 H locs hP hD hS => ?_)
  have hP : va_P D vwCl [(a0, .inr (13, [.ref a1, .ref z0, .ref z1, .ref z2, .ref z3, .ref z4, .int 45, .ref z5, .ref z6, .ref z7, .int 0, .ref z8, .ref z9, .int 0, .int 0, .int 0, .int 0, .ref z10, .int 0, .null, .ref z11, .ref z12])), (a1, .inl (y 0, 3, .inl (fun _ => 0)))] H := hP
  have hD : va_D A [(a0, .inr (13, [.ref a1, .ref z0, .ref z1, .ref z2, .ref z3, .ref z4, .int 45, .ref z5, .ref z6, .ref z7, .int 0, .ref z8, .ref z9, .int 0, .int 0, .int 0, .int 0, .ref z10, .int 0, .null, .ref z11, .ref z12])), (a1, .inl (y 0, 3, .inl (fun _ => 0)))] := hD
  refine W.widen (k := 0) (n := 0) (Nat.le_of_ble_eq_true rfl) (Nat.le_of_ble_eq_true rfl) ?_
  refine W.eq (g2 := F0 m 5 ls [.int 2, .ref a0]) rfl ?_
  refine lv_if_ge (tgt := 12) hx hb dX11_many_5 (by decide) (fun _ => ?_) (fun c => absurd (by decide) c)
  refine lv_iconst (v := 0) hx hb dX11_many_12 (by decide) ?_
  refine lv_iconst (v := 0) hx hb dX11_many_13 (by decide) ?_
  refine lv_iconst (v := 0) hx hb dX11_many_14 (by decide) ?_
  refine cV (l := l) (yM := yX11_fails) (C := RX11) (As := [.int 0, .int 0, .int 0]) (rest := []) (wr := [(a1, .inl (y 0, 3, .inl (fun _ => 0)))]) hF (c32_X11_fails l a0 a1 z0 z1 z2 z3 z4 z5 z6 z7 z8 z9 z10 z11 z12) gv_RX11_128 3 (by decide +kernel) rfl ⟨(Nat.le_of_ble_eq_true rfl), (Nat.le_of_ble_eq_true rfl)⟩ hl.1 rfl (Nat.le_of_ble_eq_true rfl) dX11_many_15 ⟨(Nat.le_of_ble_eq_true rfl), (Nat.le_of_ble_eq_true rfl)⟩ hP hD hS (va_free (wc := [(a0, .inr (13, [.ref a1, .ref z0, .ref z1, .ref z2, .ref z3, .ref z4, .int 45, .ref z5, .ref z6, .ref z7, .int 0, .ref z8, .ref z9, .int 0, .int 0, .int 0, .int 0, .ref z10, .int 0, .null, .ref z11, .ref z12]))]) hD hS hA [0] rfl) (fun _ h => h) [0] [0] [1] rfl rfl rfl rfl rfl (by decide) 0 (ci := 13) rfl rfl rfl (fun u_2 H locs hP hD hS => ?_)
  have hP : va_P D vwCl [(a1, .inl (y 0, 3, .inl (fun _ => 0))), (a0, .inr (13, [.ref a1, .ref z0, .ref z1, .ref z2, .ref z3, .ref z4, .int 45, .ref z5, .ref z6, .ref z7, .int 0, .ref z8, .ref z9, .int 0, .int 0, .int 0, .int 0, .ref z10, .int 0, .null, .ref z11, .ref z12]))] H := hP
  have hD : va_D A [(a1, .inl (y 0, 3, .inl (fun _ => 0))), (a0, .inr (13, [.ref a1, .ref z0, .ref z1, .ref z2, .ref z3, .ref z4, .int 45, .ref z5, .ref z6, .ref z7, .int 0, .ref z8, .ref z9, .int 0, .int 0, .int 0, .int 0, .ref z10, .int 0, .null, .ref z11, .ref z12]))] := hD
  refine W.widen (k := 0) (n := 0) (Nat.le_of_ble_eq_true rfl) (Nat.le_of_ble_eq_true rfl) ?_
  refine W.eq (g2 := F0 m 18 ls [.int 0]) rfl ?_
  refine lv_if_eq (tgt := 25) hx hb dX11_many_18 (by decide) (fun _ => ?_) (fun c => absurd (by decide) c)
  refine lv_aload_n hx hb dX11_many_25 rfl (lv_at hl 0 rfl) ?_
  refine va_get (D := D) (ci := 13) (v := .ref a1) (C := RX11) (T := TX11) (N := 22) hx hb hts inX11 hown hK hP 1 rfl rfl 0 (by decide) (hts _ wd_115) (fun _ h9 => h9) rfl dX11_many_26 ?_
  refine lv_iload_n hx hb dX11_many_29 rfl (lv_at hl 1 rfl) ?_
  refine cS (l := l) (yM := yX11_sideOf) (As := [.int 109]) (rest := [.ref a1]) (wr := [(a1, .inl (y 0, 3, .inl (fun _ => 0))), (a0, .inr (13, [.ref a1, .ref z0, .ref z1, .ref z2, .ref z3, .ref z4, .int 45, .ref z5, .ref z6, .ref z7, .int 0, .ref z8, .ref z9, .int 0, .int 0, .int 0, .int 0, .ref z10, .int 0, .null, .ref z11, .ref z12]))]) hF (c49_X11_sideOf l) gs_RX11_124 1 (by decide +kernel) rfl ⟨(Nat.le_of_ble_eq_true rfl), (Nat.le_of_ble_eq_true rfl)⟩ hl.1 rfl (Nat.le_of_ble_eq_true rfl) dX11_many_30 ⟨(Nat.le_of_ble_eq_true rfl), (Nat.le_of_ble_eq_true rfl)⟩ hP hD hS (pA hA hS) (fun _ h => h) [] [] [0, 1] rfl rfl rfl rfl rfl (by decide) (fun u_3 H locs hP hD hS => ?_)
  have hP : va_P D vwCl [(a1, .inl (y 0, 3, .inl (fun _ => 0))), (a0, .inr (13, [.ref a1, .ref z0, .ref z1, .ref z2, .ref z3, .ref z4, .int 45, .ref z5, .ref z6, .ref z7, .int 0, .ref z8, .ref z9, .int 0, .int 0, .int 0, .int 0, .ref z10, .int 0, .null, .ref z11, .ref z12]))] H := hP
  have hD : va_D A [(a1, .inl (y 0, 3, .inl (fun _ => 0))), (a0, .inr (13, [.ref a1, .ref z0, .ref z1, .ref z2, .ref z3, .ref z4, .int 45, .ref z5, .ref z6, .ref z7, .int 0, .ref z8, .ref z9, .int 0, .int 0, .int 0, .int 0, .ref z10, .int 0, .null, .ref z11, .ref z12]))] := hD
  refine W.widen (k := 0) (n := 0) (Nat.le_of_ble_eq_true rfl) (Nat.le_of_ble_eq_true rfl) ?_
  refine W.eq (g2 := F0 m 33 ls [.int 2, .ref a1]) rfl ?_
  refine va_iald hx hb hK hP 0 0 rfl rfl (vp_in_nI (n := 2) (by decide) (by decide)) dX11_many_33 ?_
  refine tp_i (v := 0) rfl ?_
  exact e_i hF hr (Nat.le_of_ble_eq_true rfl) (Nat.le_of_ble_eq_true rfl) hS (qg_end hS (fun _ => 0) rfl [1, 0] hP rfl (hD.sub [1, 0] rfl rfl)) dX11_many_34

set_option maxHeartbeats 4000000 in
set_option maxRecDepth 100000 in
theorem c79_X10_many (l : Launch) (hlt : l.stackTraces = false) (a0 : Nat) (z0 : Nat) (z1 : Nat) (z2 : Nat) (z3 : Nat) (z4 : Nat) (z5 : Nat) (z6 : Nat) (z7 : Nat) (z8 : Nat) (z9 : Nat) (z10 : Nat) (z11 : Nat) (z12 : Nat) (z13 : Nat) (z14 : Nat) (p0 : Int32) (f0 : ¬ p0 = 112) (f1 : ¬ p0 = 104) (f2 : ¬ p0 = 109) : CX l (.code yX10_many cX10_many 2 (some .int)) yX10_many { frames := 7, cells := 1, slots := 6, locals := 111 } [.ref a0, .int p0] (fun y => [(a0, .inr (12, [.ref z0, .ref z1, .ref z2, .ref z3, .ref z4, .ref z5, .ref z6, .ref z7, .ref z8, .ref z9, .ref z10, .ref z11, .ref z12, .ref z13, .ref z14]))]) (fun _ => []) "java/lang/IllegalArgumentException" := by
  refine mkX (by decide) (Nat.le_of_ble_eq_true rfl) ?_
  intro p e s m args below meth c D y A ls hF htb hAe hP hD hS hl
  have hF : FX p e s m args meth c cX10_many 2 RX10 "many" D y A := hF
  obtain ⟨⟨hx, hb, hml, hown, hts⟩, hev, heh, hA, hlk, hnm⟩ := id hF
  have hK := hev.1
  have hP : va_P D vwCl [(a0, .inr (12, [.ref z0, .ref z1, .ref z2, .ref z3, .ref z4, .ref z5, .ref z6, .ref z7, .ref z8, .ref z9, .ref z10, .ref z11, .ref z12, .ref z13, .ref z14]))] s.heap := hP
  have hD : va_D (fun _ => True) [(a0, .inr (12, [.ref z0, .ref z1, .ref z2, .ref z3, .ref z4, .ref z5, .ref z6, .ref z7, .ref z8, .ref z9, .ref z10, .ref z11, .ref z12, .ref z13, .ref z14]))] := hD
  have hl : lv_has ls 2 [(0, .ref a0), (1, .int p0)] := hl
  refine lv_aload_n hx hb dX10_many_0 rfl (lv_at hl 0 rfl) ?_
  refine lv_iload_n hx hb dX10_many_1 rfl (lv_at hl 1 rfl) ?_
  exact xV (l := l) (yM := yX10_needSide) (C := RX10) (As := [.int p0]) (rest := []) hF htb (c56_X10_needSide l hlt a0 p0 f0 f1 f2) gv_RX10_95 1 (by decide +kernel) rfl ⟨(Nat.le_of_ble_eq_true rfl), (Nat.le_of_ble_eq_true rfl)⟩ hl.1 rfl (Nat.le_of_ble_eq_true rfl) dX10_many_2 ⟨(Nat.le_of_ble_eq_true rfl), (Nat.le_of_ble_eq_true rfl)⟩ hP hD hS (pA hA hS) [] rfl rfl 0 (ci := 12) rfl rfl rfl ⟨(Nat.le_of_ble_eq_true rfl), (Nat.le_of_ble_eq_true rfl)⟩

set_option maxHeartbeats 4000000 in
set_option maxRecDepth 100000 in
theorem c79_L_many (l : Launch) (hlt : l.stackTraces = false) (a0 : Nat) (z0 : Nat) (z1 : Nat) (z2 : Nat) (z3 : Nat) (z4 : Nat) (z5 : Nat) (z6 : Nat) (z7 : Nat) (z8 : Nat) (z9 : Nat) (z10 : Nat) (z11 : Nat) (z12 : Nat) (z13 : Nat) (z14 : Nat) (p0 : Int32) (z15 : Nat) (f0 : ¬ p0 = 112) (f1 : ¬ p0 = 104) (f2 : ¬ p0 = 109) : CT l (.codeWith yL_many cL_many 4 (some .int) [(0, 9, 12, 13)]) yL_many { frames := 8, cells := 1, slots := 6, locals := 132 } [.ref a0, .int p0, .ref z15] (fun y => [(a0, .inr (12, [.ref z0, .ref z1, .ref z2, .ref z3, .ref z4, .ref z5, .ref z6, .ref z7, .ref z8, .ref z9, .ref z10, .ref z11, .ref z12, .ref z13, .ref z14]))]) (fun _ => []) (fun u => some (.int 1)) (fun y u => []) := by
  refine mkH (by decide) (Nat.le_of_ble_eq_true rfl) ?_
  intro p e s m args below meth c D y A ls hF htab hr hAe hP hD hS hl
  have hF : FX p e s m args meth c cL_many 4 RL "many" D y A := hF
  obtain ⟨⟨hx, hb, hml, hown, hts⟩, hev, heh, hA, hlk, hnm⟩ := id hF
  have hK := hev.1
  have hP : va_P D vwCl [(a0, .inr (12, [.ref z0, .ref z1, .ref z2, .ref z3, .ref z4, .ref z5, .ref z6, .ref z7, .ref z8, .ref z9, .ref z10, .ref z11, .ref z12, .ref z13, .ref z14]))] s.heap := hP
  have hD : va_D (fun _ => True) [(a0, .inr (12, [.ref z0, .ref z1, .ref z2, .ref z3, .ref z4, .ref z5, .ref z6, .ref z7, .ref z8, .ref z9, .ref z10, .ref z11, .ref z12, .ref z13, .ref z14]))] := hD
  have hl : lv_has ls 4 [(0, .ref a0), (1, .int p0), (2, .ref z15)] := hl
  refine lv_aload_n hx hb dL_many_0 rfl (lv_at hl 2 rfl) ?_
  refine lv_iconst (v := 0) hx hb dL_many_1 (by decide) ?_
  refine lv_aload_n hx hb dL_many_2 rfl (lv_at hl 0 rfl) ?_
  refine lv_iload_n hx hb dL_many_3 rfl (lv_at hl 1 rfl) ?_
  refine hV (wr := [(a0, .inr (12, [.ref z0, .ref z1, .ref z2, .ref z3, .ref z4, .ref z5, .ref z6, .ref z7, .ref z8, .ref z9, .ref z10, .ref z11, .ref z12, .ref z13, .ref z14]))]) (name := "java/lang/IllegalArgumentException") (E0 := "java/lang/IllegalArgumentException") (l := l) (yM := yX10_many) (C := RX10) (As := [.int p0]) (rest := [.int 0, .ref z15]) hF (c79_X10_many l hlt a0 z0 z1 z2 z3 z4 z5 z6 z7 z8 z9 z10 z11 z12 z13 z14 p0 f0 f1 f2) gv_RL_17 1 (by decide +kernel) rfl ⟨(Nat.le_of_ble_eq_true rfl), (Nat.le_of_ble_eq_true rfl)⟩ hl.1 rfl (Nat.le_of_ble_eq_true rfl) dL_many_4 ⟨(Nat.le_of_ble_eq_true rfl), (Nat.le_of_ble_eq_true rfl)⟩ hP hD hS (pA hA hS) (fun _ _ => trivial) [0] [] [0] rfl rfl rfl rfl rfl (by decide) 0 (ci := 12) rfl rfl rfl [] ⟨0, 9, 12, 13⟩ [] htab (fun z hz => nomatch hz) (by decide) (by decide) wd_235 (by decide) (fun q9 H locs hP hD hS => ?_)
  have hP : va_P D vwCl [(a0, .inr (12, [.ref z0, .ref z1, .ref z2, .ref z3, .ref z4, .ref z5, .ref z6, .ref z7, .ref z8, .ref z9, .ref z10, .ref z11, .ref z12, .ref z13, .ref z14]))] H := hP
  have hD : va_D (fun _ => True) [(a0, .inr (12, [.ref z0, .ref z1, .ref z2, .ref z3, .ref z4, .ref z5, .ref z6, .ref z7, .ref z8, .ref z9, .ref z10, .ref z11, .ref z12, .ref z13, .ref z14]))] := hD
  refine W.widen (k := 1) (n := 6) (Nat.le_of_ble_eq_true rfl) (Nat.le_of_ble_eq_true rfl) ?_
  refine W.eq (g2 := F0 m 12 ls [.ref q9]) rfl ?_
  refine lv_astore_n (lv' := [(3, .ref q9), (0, .ref a0), (1, .int p0), (2, .ref z15)]) hx hb dL_many_12 rfl hl (by decide) rfl (fun ls hl => ?_)
  refine lv_iconst (v := 1) hx hb dL_many_13 (by decide) ?_
  exact e_i hF hr (Nat.le_of_ble_eq_true rfl) (Nat.le_of_ble_eq_true rfl) hS (qg_end hS (fun _ => 0) rfl [] hP rfl d_nil) dL_many_14

set_option maxHeartbeats 4000000 in
set_option maxRecDepth 100000 in
theorem c81_X11_many (l : Launch) (a0 : Nat) (z0 : Nat) (z1 : Nat) (z2 : Nat) (z3 : Nat) (z4 : Nat) (z5 : Nat) (z6 : Nat) (z7 : Nat) (z8 : Nat) (z9 : Nat) (z10 : Nat) (z11 : Nat) (z12 : Nat) (z13 : Nat) (p0 : Int32) (f0 : ¬ p0 = 112) (f1 : ¬ p0 = 104) (f2 : ¬ p0 = 109) : CT l (.code yX11_many cX11_many 2 (some .int)) yX11_many { frames := 5, cells := 0, slots := 0, locals := 111 } [.ref a0, .int p0] (fun y => [(a0, .inr (13, [.ref z0, .ref z1, .ref z2, .ref z3, .ref z4, .ref z5, .int 45, .ref z6, .ref z7, .ref z8, .int 0, .ref z9, .ref z10, .int 0, .int 0, .int 0, .int 0, .ref z11, .int 0, .null, .ref z12, .ref z13]))]) (fun y => [(a0, .inr (13, [.ref z0, .ref z1, .ref z2, .ref z3, .ref z4, .ref z5, .int 45, .ref z6, .ref z7, .ref z8, .int 0, .ref z9, .ref z10, .int 0, .int 0, .int 0, .int 0, .ref z11, .int 0, .null, .ref z12, .ref z13]))]) (fun u => some (.int 0)) (fun y u => [(a0, .inr (13, [.ref z0, .ref z1, .ref z2, .ref z3, .ref z4, .ref z5, .int 45, .ref z6, .ref z7, .ref z8, .int 0, .ref z9, .ref z10, .int 0, .int 0, .int 1, .int 0, .ref z11, .int 0, .null, .ref z12, .ref z13]))]) := by
  refine mkM (by decide) (Nat.le_of_ble_eq_true rfl) ?_
  intro p e s m args below meth c D y A ls hF hr hAe hP hD hS hl
  have hF : FX p e s m args meth c cX11_many 2 RX11 "many" D y A := hF
  obtain ⟨⟨hx, hb, hml, hown, hts⟩, hev, heh, hA, hlk, hnm⟩ := id hF
  have hK := hev.1
  have hP : va_P D vwCl [(a0, .inr (13, [.ref z0, .ref z1, .ref z2, .ref z3, .ref z4, .ref z5, .int 45, .ref z6, .ref z7, .ref z8, .int 0, .ref z9, .ref z10, .int 0, .int 0, .int 0, .int 0, .ref z11, .int 0, .null, .ref z12, .ref z13]))] s.heap := hP
  have hD : va_D A [(a0, .inr (13, [.ref z0, .ref z1, .ref z2, .ref z3, .ref z4, .ref z5, .int 45, .ref z6, .ref z7, .ref z8, .int 0, .ref z9, .ref z10, .int 0, .int 0, .int 0, .int 0, .ref z11, .int 0, .null, .ref z12, .ref z13]))] := by rw [← hAe]; exact hD.self
  have hl : lv_has ls 2 [(0, .ref a0), (1, .int p0)] := hl
  refine lv_aload_n hx hb dX11_many_0 rfl (lv_at hl 0 rfl) ?_
  refine lv_iload_n hx hb dX11_many_1 rfl (lv_at hl 1 rfl) ?_
  refine cS (l := l) (yM := yX11_sideOf) (As := [.int p0]) (rest := [.ref a0]) (wr := [(a0, .inr (13, [.ref z0, .ref z1, .ref z2, .ref z3, .ref z4, .ref z5, .int 45, .ref z6, .ref z7, .ref z8, .int 0, .ref z9, .ref z10, .int 0, .int 0, .int 0, .int 0, .ref z11, .int 0, .null, .ref z12, .ref z13]))]) hF (c59_X11_sideOf l p0 f0 f1 f2) gs_RX11_124 1 (by decide +kernel) rfl ⟨(Nat.le_of_ble_eq_true rfl), (Nat.le_of_ble_eq_true rfl)⟩ hl.1 rfl (Nat.le_of_ble_eq_true rfl) dX11_many_2 ⟨(Nat.le_of_ble_eq_true rfl), (Nat.le_of_ble_eq_true rfl)⟩ hP hD hS (pA hA hS) (fun _ h => h) [] [] [0] rfl rfl rfl rfl rfl (by decide) (fun u_1 H locs hP hD hS => ?_)
  have hP : va_P D vwCl [(a0, .inr (13, [.ref z0, .ref z1, .ref z2, .ref z3, .ref z4, .ref z5, .int 45, .ref z6, .ref z7, .ref z8, .int 0, .ref z9, .ref z10, .int 0, .int 0, .int 0, .int 0, .ref z11, .int 0, .null, .ref z12, .ref z13]))] H := hP
  have hD : va_D A [(a0, .inr (13, [.ref z0, .ref z1, .ref z2, .ref z3, .ref z4, .ref z5, .int 45, .ref z6, .ref z7, .ref z8, .int 0, .ref z9, .ref z10, .int 0, .int 0, .int 0, .int 0, .ref z11, .int 0, .null, .ref z12, .ref z13]))] := hD
  refine W.widen (k := 0) (n := 0) (Nat.le_of_ble_eq_true rfl) (Nat.le_of_ble_eq_true rfl) ?_
  refine W.eq (g2 := F0 m 5 ls [.int (-1), .ref a0]) rfl ?_
  refine lv_if_ge (tgt := 12) hx hb dX11_many_5 (by decide) (fun c => absurd c (by decide)) (fun _ => ?_)
  refine lv_iconst (v := 1) hx hb dX11_many_8 (by decide) ?_
  refine lv_goto (tgt := 13) hx hb dX11_many_9 (by decide) ?_
  refine lv_iconst (v := 0) hx hb dX11_many_13 (by decide) ?_
  refine lv_iconst (v := 0) hx hb dX11_many_14 (by decide) ?_
  refine cV (l := l) (yM := yX11_fails) (C := RX11) (As := [.int 1, .int 0, .int 0]) (rest := []) (wr := []) hF (c67_X11_fails l a0 z0 z1 z2 z3 z4 z5 z6 z7 z8 z9 z10 z11 z12 z13) gv_RX11_128 3 (by decide +kernel) rfl ⟨(Nat.le_of_ble_eq_true rfl), (Nat.le_of_ble_eq_true rfl)⟩ hl.1 rfl (Nat.le_of_ble_eq_true rfl) dX11_many_15 ⟨(Nat.le_of_ble_eq_true rfl), (Nat.le_of_ble_eq_true rfl)⟩ hP hD hS (va_free (wc := [(a0, .inr (13, [.ref z0, .ref z1, .ref z2, .ref z3, .ref z4, .ref z5, .int 45, .ref z6, .ref z7, .ref z8, .int 0, .ref z9, .ref z10, .int 0, .int 0, .int 0, .int 0, .ref z11, .int 0, .null, .ref z12, .ref z13]))]) hD hS hA [0] rfl) (fun _ h => h) [0] [0] [] rfl rfl rfl rfl rfl (by decide) 0 (ci := 13) rfl rfl rfl (fun u_2 H locs hP hD hS => ?_)
  have hP : va_P D vwCl [(a0, .inr (13, [.ref z0, .ref z1, .ref z2, .ref z3, .ref z4, .ref z5, .int 45, .ref z6, .ref z7, .ref z8, .int 0, .ref z9, .ref z10, .int 0, .int 0, .int 1, .int 0, .ref z11, .int 0, .null, .ref z12, .ref z13]))] H := hP
  have hD : va_D A [(a0, .inr (13, [.ref z0, .ref z1, .ref z2, .ref z3, .ref z4, .ref z5, .int 45, .ref z6, .ref z7, .ref z8, .int 0, .ref z9, .ref z10, .int 0, .int 0, .int 1, .int 0, .ref z11, .int 0, .null, .ref z12, .ref z13]))] := hD
  refine W.widen (k := 0) (n := 0) (Nat.le_of_ble_eq_true rfl) (Nat.le_of_ble_eq_true rfl) ?_
  refine W.eq (g2 := F0 m 18 ls [.int 1]) rfl ?_
  refine lv_if_eq (tgt := 25) hx hb dX11_many_18 (by decide) (fun c => absurd c (by decide)) (fun _ => ?_)
  refine lv_iconst (v := 0) hx hb dX11_many_21 (by decide) ?_
  refine lv_goto (tgt := 34) hx hb dX11_many_22 (by decide) ?_
  exact e_i hF hr (Nat.le_of_ble_eq_true rfl) (Nat.le_of_ble_eq_true rfl) hS (qg_end hS (fun _ => 0) rfl [0] hP rfl (hD.sub [0] rfl rfl)) dX11_many_34

set_option maxHeartbeats 4000000 in
set_option maxRecDepth 100000 in
theorem c82_X2_has (l : Launch) (a0 : Nat) (z0 : Nat) (z1 : Nat) (z2 : Nat) (p0 : Int32) : CT l (.code yX2_has cX2_has 2 (some .boolean)) yX2_has { frames := 0, cells := 0, slots := 0, locals := 0 } [.ref a0, .int p0] (fun y => [(a0, .inr (4, [.int 0, .ref z0, .ref z1, .ref z2]))]) (fun _ => []) (fun u => some (.int 0)) (fun y u => []) := by
  refine mkM (by decide) (Nat.le_of_ble_eq_true rfl) ?_
  intro p e s m args below meth c D y A ls hF hr hAe hP hD hS hl
  have hF : FX p e s m args meth c cX2_has 2 RX2 "has" D y A := hF
  obtain ⟨⟨hx, hb, hml, hown, hts⟩, hev, heh, hA, hlk, hnm⟩ := id hF
  have hK := hev.1
  have hP : va_P D vwCl [(a0, .inr (4, [.int 0, .ref z0, .ref z1, .ref z2]))] s.heap := hP
  have hD : va_D (fun _ => True) [(a0, .inr (4, [.int 0, .ref z0, .ref z1, .ref z2]))] := hD
  have hl : lv_has ls 2 [(0, .ref a0), (1, .int p0)] := hl
  refine lv_iload_n hx hb dX2_has_0 rfl (lv_at hl 1 rfl) ?_
  refine lv_if_lt (tgt := 22) hx hb dX2_has_1 (by decide) (fun c_1 => ?_) (fun c_1 => ?_)
  · refine lv_iconst (v := 0) hx hb dX2_has_22 (by decide) ?_
    exact e_z hF hr (by decide) (Nat.le_of_ble_eq_true rfl) (Nat.le_of_ble_eq_true rfl) hS (qg_end hS (fun _ => 0) rfl [] hP rfl d_nil) dX2_has_23
  · refine lv_iload_n hx hb dX2_has_4 rfl (lv_at hl 1 rfl) ?_
    refine lv_aload_n hx hb dX2_has_5 rfl (lv_at hl 0 rfl) ?_
    refine va_get (D := D) (ci := 4) (v := .int 0) (C := RX2) (T := TX2) (N := 4) hx hb hts inX2 hown hK hP 0 rfl rfl 0 (by decide) (hts _ wd_142) (fun _ h9 => h9) rfl dX2_has_6 ?_
    refine lv_icmp_ge (tgt := 22) hx hb dX2_has_9 (by decide) (fun _ => ?_) (fun c => absurd (by have e0 : (0 : Int32).toInt = 0 := (by decide); have h9 := c_1; simp only [Int32.lt_iff_toInt_lt, Int32.le_iff_toInt_le, ← Int32.toInt_inj, e0] at h9 ⊢; omega) c)
    refine lv_iconst (v := 0) hx hb dX2_has_22 (by decide) ?_
    exact e_z hF hr (by decide) (Nat.le_of_ble_eq_true rfl) (Nat.le_of_ble_eq_true rfl) hS (qg_end hS (fun _ => 0) rfl [] hP rfl d_nil) dX2_has_23

set_option maxHeartbeats 4000000 in
set_option maxRecDepth 100000 in
theorem c82_X10_needHouse (l : Launch) (hlt : l.stackTraces = false) (a0 : Nat) (a1 : Nat) (a2 : Nat) (z0 : Nat) (z1 : Nat) (z2 : Nat) (z3 : Nat) (z4 : Nat) (z5 : Nat) (z6 : Nat) (z7 : Nat) (z8 : Nat) (z9 : Nat) (z10 : Nat) (z11 : Nat) (z12 : Nat) (z13 : Nat) (z14 : Nat) (z15 : Nat) (z16 : Nat) (z17 : Nat) (z18 : Nat) (p0 : Int32) : CX l (.code yX10_needHouse cX10_needHouse 2 none) yX10_needHouse { frames := 6, cells := 1, slots := 6, locals := 90 } [.ref a0, .int p0] (fun y => [(a0, .inr (12, [.ref a1, .ref z0, .ref z1, .ref z2, .ref z3, .ref z4, .ref z5, .ref z6, .ref z7, .ref z8, .ref z9, .ref z10, .ref z11, .ref z12, .ref z13])), (a1, .inr (5, [.ref z14, .ref a2, .ref z15])), (a2, .inr (4, [.int 0, .ref z16, .ref z17, .ref z18]))]) (fun _ => []) "java/util/NoSuchElementException" := by
  refine mkX (by decide) (Nat.le_of_ble_eq_true rfl) ?_
  intro p e s m args below meth c D y A ls hF htb hAe hP hD hS hl
  have hF : FX p e s m args meth c cX10_needHouse 2 RX10 "needHouse" D y A := hF
  obtain ⟨⟨hx, hb, hml, hown, hts⟩, hev, heh, hA, hlk, hnm⟩ := id hF
  have hK := hev.1
  have hP : va_P D vwCl [(a0, .inr (12, [.ref a1, .ref z0, .ref z1, .ref z2, .ref z3, .ref z4, .ref z5, .ref z6, .ref z7, .ref z8, .ref z9, .ref z10, .ref z11, .ref z12, .ref z13])), (a1, .inr (5, [.ref z14, .ref a2, .ref z15])), (a2, .inr (4, [.int 0, .ref z16, .ref z17, .ref z18]))] s.heap := hP
  have hD : va_D (fun _ => True) [(a0, .inr (12, [.ref a1, .ref z0, .ref z1, .ref z2, .ref z3, .ref z4, .ref z5, .ref z6, .ref z7, .ref z8, .ref z9, .ref z10, .ref z11, .ref z12, .ref z13])), (a1, .inr (5, [.ref z14, .ref a2, .ref z15])), (a2, .inr (4, [.int 0, .ref z16, .ref z17, .ref z18]))] := hD
  have hl : lv_has ls 2 [(0, .ref a0), (1, .int p0)] := hl
  refine lv_aload_n hx hb dX10_needHouse_0 rfl (lv_at hl 0 rfl) ?_
  refine va_get (D := D) (ci := 12) (v := .ref a1) (C := RX10) (T := TX10) (N := 15) hx hb hts inX10 hown hK hP 0 rfl rfl 0 (by decide) (hts _ wd_24) (fun _ h9 => h9) rfl dX10_needHouse_1 ?_
  refine va_getN (D := D) (ci := 5) (v := .ref a2) (C := RX3) (T := TX3) (N := 3) hx hb hts inX3 hown hK hP 1 rfl rfl 1 (by decide) (va_Nw.use (A := args) rfl (hev.2.1 (RX10, 368, RX3, "houses", "LStablepairBureau$Lists;") (List.mem_of_getElem? (i := 12) rfl))) (fun _ h9 => h9) rfl dX10_needHouse_4 ?_
  refine lv_iload_n hx hb dX10_needHouse_7 rfl (lv_at hl 1 rfl) ?_
  refine cV (l := l) (yM := yX2_has) (C := RX2) (As := [.int p0]) (rest := []) (wr := [(a0, .inr (12, [.ref a1, .ref z0, .ref z1, .ref z2, .ref z3, .ref z4, .ref z5, .ref z6, .ref z7, .ref z8, .ref z9, .ref z10, .ref z11, .ref z12, .ref z13])), (a1, .inr (5, [.ref z14, .ref a2, .ref z15])), (a2, .inr (4, [.int 0, .ref z16, .ref z17, .ref z18]))]) hF (c82_X2_has l a2 z16 z17 z18 p0) gv_RX10_216 1 (by decide +kernel) rfl ⟨(Nat.le_of_ble_eq_true rfl), (Nat.le_of_ble_eq_true rfl)⟩ hl.1 rfl (Nat.le_of_ble_eq_true rfl) dX10_needHouse_8 ⟨(Nat.le_of_ble_eq_true rfl), (Nat.le_of_ble_eq_true rfl)⟩ hP hD hS (pA hA hS) (fun _ _ => trivial) [2] [] [0, 1, 2] rfl rfl rfl rfl rfl (by decide) 2 (ci := 4) rfl rfl rfl (fun u_1 H locs hP hD hS => ?_)
  have hP : va_P D vwCl [(a0, .inr (12, [.ref a1, .ref z0, .ref z1, .ref z2, .ref z3, .ref z4, .ref z5, .ref z6, .ref z7, .ref z8, .ref z9, .ref z10, .ref z11, .ref z12, .ref z13])), (a1, .inr (5, [.ref z14, .ref a2, .ref z15])), (a2, .inr (4, [.int 0, .ref z16, .ref z17, .ref z18]))] H := hP
  have hD : va_D (fun _ => True) [(a0, .inr (12, [.ref a1, .ref z0, .ref z1, .ref z2, .ref z3, .ref z4, .ref z5, .ref z6, .ref z7, .ref z8, .ref z9, .ref z10, .ref z11, .ref z12, .ref z13])), (a1, .inr (5, [.ref z14, .ref a2, .ref z15])), (a2, .inr (4, [.int 0, .ref z16, .ref z17, .ref z18]))] := hD
  refine W.widen (k := 0) (n := 0) (Nat.le_of_ble_eq_true rfl) (Nat.le_of_ble_eq_true rfl) ?_
  refine W.eq (g2 := F0 m 11 ls [.int 0]) rfl ?_
  refine lv_if_ne (tgt := 25) hx hb dX10_needHouse_11 (by decide) (fun c => absurd (by decide) c) (fun _ => ?_)
  exact th_N (text := "no such house") hF htb hlt wd_251 wd_252 (List.mem_of_getElem? (i := 2) rfl) exg3 exf3 exo3 hS hl.1 (Nat.le_of_ble_eq_true rfl) ⟨(Nat.le_of_ble_eq_true rfl), (Nat.le_of_ble_eq_true rfl)⟩ ⟨(Nat.le_of_ble_eq_true rfl), (Nat.le_of_ble_eq_true rfl)⟩ ⟨(Nat.le_of_ble_eq_true rfl), (Nat.le_of_ble_eq_true rfl)⟩ dX10_needHouse_14 dX10_needHouse_17 dX10_needHouse_18 dX10_needHouse_21 dX10_needHouse_24

set_option maxHeartbeats 4000000 in
set_option maxRecDepth 100000 in
theorem c82_X10_places (l : Launch) (hlt : l.stackTraces = false) (a0 : Nat) (a1 : Nat) (a2 : Nat) (z0 : Nat) (z1 : Nat) (z2 : Nat) (z3 : Nat) (z4 : Nat) (z5 : Nat) (z6 : Nat) (z7 : Nat) (z8 : Nat) (z9 : Nat) (z10 : Nat) (z11 : Nat) (z12 : Nat) (z13 : Nat) (z14 : Nat) (z15 : Nat) (z16 : Nat) (z17 : Nat) (z18 : Nat) (p0 : Int32) (p1 : Int32) : CX l (.code yX10_places cX10_places 4 (some .int)) yX10_places { frames := 7, cells := 1, slots := 6, locals := 111 } [.ref a0, .int p0, .int p1] (fun y => [(a0, .inr (12, [.ref a1, .ref z0, .ref z1, .ref z2, .ref z3, .ref z4, .ref z5, .ref z6, .ref z7, .ref z8, .ref z9, .ref z10, .ref z11, .ref z12, .ref z13])), (a1, .inr (5, [.ref z14, .ref a2, .ref z15])), (a2, .inr (4, [.int 0, .ref z16, .ref z17, .ref z18]))]) (fun _ => []) "java/util/NoSuchElementException" := by
  refine mkX (by decide) (Nat.le_of_ble_eq_true rfl) ?_
  intro p e s m args below meth c D y A ls hF htb hAe hP hD hS hl
  have hF : FX p e s m args meth c cX10_places 4 RX10 "places" D y A := hF
  obtain ⟨⟨hx, hb, hml, hown, hts⟩, hev, heh, hA, hlk, hnm⟩ := id hF
  have hK := hev.1
  have hP : va_P D vwCl [(a0, .inr (12, [.ref a1, .ref z0, .ref z1, .ref z2, .ref z3, .ref z4, .ref z5, .ref z6, .ref z7, .ref z8, .ref z9, .ref z10, .ref z11, .ref z12, .ref z13])), (a1, .inr (5, [.ref z14, .ref a2, .ref z15])), (a2, .inr (4, [.int 0, .ref z16, .ref z17, .ref z18]))] s.heap := hP
  have hD : va_D (fun _ => True) [(a0, .inr (12, [.ref a1, .ref z0, .ref z1, .ref z2, .ref z3, .ref z4, .ref z5, .ref z6, .ref z7, .ref z8, .ref z9, .ref z10, .ref z11, .ref z12, .ref z13])), (a1, .inr (5, [.ref z14, .ref a2, .ref z15])), (a2, .inr (4, [.int 0, .ref z16, .ref z17, .ref z18]))] := hD
  have hl : lv_has ls 4 [(0, .ref a0), (1, .int p0), (2, .int p1)] := hl
  refine lv_aload_n hx hb dX10_places_0 rfl (lv_at hl 0 rfl) ?_
  refine lv_iload_n hx hb dX10_places_1 rfl (lv_at hl 1 rfl) ?_
  exact xV (l := l) (yM := yX10_needHouse) (C := RX10) (As := [.int p0]) (rest := []) hF htb (c82_X10_needHouse l hlt a0 a1 a2 z0 z1 z2 z3 z4 z5 z6 z7 z8 z9 z10 z11 z12 z13 z14 z15 z16 z17 z18 p0) gv_RX10_116 1 (by decide +kernel) rfl ⟨(Nat.le_of_ble_eq_true rfl), (Nat.le_of_ble_eq_true rfl)⟩ hl.1 rfl (Nat.le_of_ble_eq_true rfl) dX10_places_2 ⟨(Nat.le_of_ble_eq_true rfl), (Nat.le_of_ble_eq_true rfl)⟩ hP hD hS (pA hA hS) [0, 1, 2] rfl rfl 0 (ci := 12) rfl rfl rfl ⟨(Nat.le_of_ble_eq_true rfl), (Nat.le_of_ble_eq_true rfl)⟩

set_option maxHeartbeats 4000000 in
set_option maxRecDepth 100000 in
theorem c82_L_places (l : Launch) (hlt : l.stackTraces = false) (a0 : Nat) (a1 : Nat) (a2 : Nat) (z0 : Nat) (z1 : Nat) (z2 : Nat) (z3 : Nat) (z4 : Nat) (z5 : Nat) (z6 : Nat) (z7 : Nat) (z8 : Nat) (z9 : Nat) (z10 : Nat) (z11 : Nat) (z12 : Nat) (z13 : Nat) (z14 : Nat) (z15 : Nat) (z16 : Nat) (z17 : Nat) (z18 : Nat) (p0 : Int32) (p1 : Int32) (z19 : Nat) : CT l (.codeWith yL_places cL_places 5 (some .int) [(0, 10, 13, 24), (0, 10, 17, 13)]) yL_places { frames := 8, cells := 1, slots := 6, locals := 134 } [.ref a0, .int p0, .int p1, .ref z19] (fun y => [(a0, .inr (12, [.ref a1, .ref z0, .ref z1, .ref z2, .ref z3, .ref z4, .ref z5, .ref z6, .ref z7, .ref z8, .ref z9, .ref z10, .ref z11, .ref z12, .ref z13])), (a1, .inr (5, [.ref z14, .ref a2, .ref z15])), (a2, .inr (4, [.int 0, .ref z16, .ref z17, .ref z18]))]) (fun _ => []) (fun u => some (.int 1)) (fun y u => []) := by
  refine mkH (by decide) (Nat.le_of_ble_eq_true rfl) ?_
  intro p e s m args below meth c D y A ls hF htab hr hAe hP hD hS hl
  have hF : FX p e s m args meth c cL_places 5 RL "places" D y A := hF
  obtain ⟨⟨hx, hb, hml, hown, hts⟩, hev, heh, hA, hlk, hnm⟩ := id hF
  have hK := hev.1
  have hP : va_P D vwCl [(a0, .inr (12, [.ref a1, .ref z0, .ref z1, .ref z2, .ref z3, .ref z4, .ref z5, .ref z6, .ref z7, .ref z8, .ref z9, .ref z10, .ref z11, .ref z12, .ref z13])), (a1, .inr (5, [.ref z14, .ref a2, .ref z15])), (a2, .inr (4, [.int 0, .ref z16, .ref z17, .ref z18]))] s.heap := hP
  have hD : va_D (fun _ => True) [(a0, .inr (12, [.ref a1, .ref z0, .ref z1, .ref z2, .ref z3, .ref z4, .ref z5, .ref z6, .ref z7, .ref z8, .ref z9, .ref z10, .ref z11, .ref z12, .ref z13])), (a1, .inr (5, [.ref z14, .ref a2, .ref z15])), (a2, .inr (4, [.int 0, .ref z16, .ref z17, .ref z18]))] := hD
  have hl : lv_has ls 5 [(0, .ref a0), (1, .int p0), (2, .int p1), (3, .ref z19)] := hl
  refine lv_aload_n hx hb dL_places_0 rfl (lv_at hl 3 rfl) ?_
  refine lv_iconst (v := 0) hx hb dL_places_1 (by decide) ?_
  refine lv_aload_n hx hb dL_places_2 rfl (lv_at hl 0 rfl) ?_
  refine lv_iload_n hx hb dL_places_3 rfl (lv_at hl 1 rfl) ?_
  refine lv_iload_n hx hb dL_places_4 rfl (lv_at hl 2 rfl) ?_
  refine hV (wr := [(a0, .inr (12, [.ref a1, .ref z0, .ref z1, .ref z2, .ref z3, .ref z4, .ref z5, .ref z6, .ref z7, .ref z8, .ref z9, .ref z10, .ref z11, .ref z12, .ref z13])), (a1, .inr (5, [.ref z14, .ref a2, .ref z15])), (a2, .inr (4, [.int 0, .ref z16, .ref z17, .ref z18]))]) (name := "java/util/NoSuchElementException") (E0 := "java/util/NoSuchElementException") (l := l) (yM := yX10_places) (C := RX10) (As := [.int p0, .int p1]) (rest := [.int 0, .ref z19]) hF (c82_X10_places l hlt a0 a1 a2 z0 z1 z2 z3 z4 z5 z6 z7 z8 z9 z10 z11 z12 z13 z14 z15 z16 z17 z18 p0 p1) gv_RL_20 2 (by decide +kernel) rfl ⟨(Nat.le_of_ble_eq_true rfl), (Nat.le_of_ble_eq_true rfl)⟩ hl.1 rfl (Nat.le_of_ble_eq_true rfl) dL_places_5 ⟨(Nat.le_of_ble_eq_true rfl), (Nat.le_of_ble_eq_true rfl)⟩ hP hD hS (pA hA hS) (fun _ _ => trivial) [0, 1, 2] [] [0, 1, 2] rfl rfl rfl rfl rfl (by decide) 0 (ci := 12) rfl rfl rfl [] ⟨0, 10, 13, 24⟩ [⟨0, 10, 17, 13⟩] htab (fun z hz => nomatch hz) (by decide) (by decide) wd_261 (by decide) (fun q9 H locs hP hD hS => ?_)
  have hP : va_P D vwCl [(a0, .inr (12, [.ref a1, .ref z0, .ref z1, .ref z2, .ref z3, .ref z4, .ref z5, .ref z6, .ref z7, .ref z8, .ref z9, .ref z10, .ref z11, .ref z12, .ref z13])), (a1, .inr (5, [.ref z14, .ref a2, .ref z15])), (a2, .inr (4, [.int 0, .ref z16, .ref z17, .ref z18]))] H := hP
  have hD : va_D (fun _ => True) [(a0, .inr (12, [.ref a1, .ref z0, .ref z1, .ref z2, .ref z3, .ref z4, .ref z5, .ref z6, .ref z7, .ref z8, .ref z9, .ref z10, .ref z11, .ref z12, .ref z13])), (a1, .inr (5, [.ref z14, .ref a2, .ref z15])), (a2, .inr (4, [.int 0, .ref z16, .ref z17, .ref z18]))] := hD
  refine W.widen (k := 1) (n := 6) (Nat.le_of_ble_eq_true rfl) (Nat.le_of_ble_eq_true rfl) ?_
  refine W.eq (g2 := F0 m 13 ls [.ref q9]) rfl ?_
  refine lv_astore (lv' := [(4, .ref q9), (0, .ref a0), (1, .int p0), (2, .int p1), (3, .ref z19)]) hx hb dL_places_13 hl (by decide) rfl (fun ls hl => ?_)
  refine lv_iconst (v := 1) hx hb dL_places_15 (by decide) ?_
  exact e_i hF hr (Nat.le_of_ble_eq_true rfl) (Nat.le_of_ble_eq_true rfl) hS (qg_end hS (fun _ => 0) rfl [] hP rfl d_nil) dL_places_16

set_option maxHeartbeats 4000000 in
set_option maxRecDepth 100000 in
theorem c86_X11_in (l : Launch) (p0 : Int32) : CT l (.code yX11_in cX11_in 3 (some .boolean)) yX11_in { frames := 0, cells := 0, slots := 0, locals := 0 } [.int p0, .int 0, .int (-1)] (fun y => []) (fun _ => []) (fun u => some (.int 0)) (fun y u => []) := by
  refine mkM (by decide) (Nat.le_of_ble_eq_true rfl) ?_
  intro p e s m args below meth c D y A ls hF hr hAe hP hD hS hl
  have hF : FX p e s m args meth c cX11_in 3 RX11 "in" D y A := hF
  obtain ⟨⟨hx, hb, hml, hown, hts⟩, hev, heh, hA, hlk, hnm⟩ := id hF
  have hK := hev.1
  have hP : va_P D vwCl [] s.heap := hP
  have hD : va_D A [] := by rw [← hAe]; exact hD.self
  have hl : lv_has ls 3 [(0, .int p0), (1, .int 0), (2, .int (-1))] := hl
  refine lv_iload_n hx hb dX11_in_0 rfl (lv_at hl 0 rfl) ?_
  refine lv_iload_n hx hb dX11_in_1 rfl (lv_at hl 1 rfl) ?_
  refine lv_icmp_lt (tgt := 14) hx hb dX11_in_2 (by decide) (fun c_1 => ?_) (fun c_1 => ?_)
  · refine lv_iconst (v := 0) hx hb dX11_in_14 (by decide) ?_
    exact e_z hF hr (by decide) (Nat.le_of_ble_eq_true rfl) (Nat.le_of_ble_eq_true rfl) hS (qg_end hS (fun _ => 0) rfl [] hP rfl d_nil) dX11_in_15
  · refine lv_iload_n hx hb dX11_in_5 rfl (lv_at hl 0 rfl) ?_
    refine lv_iload_n hx hb dX11_in_6 rfl (lv_at hl 2 rfl) ?_
    refine lv_icmp_gt (tgt := 14) hx hb dX11_in_7 (by decide) (fun _ => ?_) (fun c => absurd (by have e0 : ((-1) : Int32).toInt = (-1) := (by decide); have e1 : (0 : Int32).toInt = 0 := (by decide); have h9 := c_1; simp only [Int32.lt_iff_toInt_lt, Int32.le_iff_toInt_le, ← Int32.toInt_inj, e0, e1] at h9 ⊢; omega) c)
    refine lv_iconst (v := 0) hx hb dX11_in_14 (by decide) ?_
    exact e_z hF hr (by decide) (Nat.le_of_ble_eq_true rfl) (Nat.le_of_ble_eq_true rfl) hS (qg_end hS (fun _ => 0) rfl [] hP rfl d_nil) dX11_in_15

set_option maxHeartbeats 4000000 in
set_option maxRecDepth 100000 in
theorem c86_X11_isHouse (l : Launch) (a0 : Nat) (a1 : Nat) (z0 : Nat) (z1 : Nat) (z2 : Nat) (z3 : Nat) (z4 : Nat) (z5 : Nat) (z6 : Nat) (z7 : Nat) (z8 : Nat) (z9 : Nat) (z10 : Nat) (z11 : Nat) (z12 : Nat) (p0 : Int32) : CT l (.code yX11_isHouse cX11_isHouse 2 (some .boolean)) yX11_isHouse { frames := 1, cells := 0, slots := 0, locals := 22 } [.ref a0, .int p0] (fun y => [(a0, .inr (13, [.ref a1, .ref z0, .ref z1, .ref z2, .ref z3, .ref z4, .int 45, .ref z5, .ref z6, .ref z7, .int 0, .ref z8, .ref z9, .int 0, .int 0, .int 0, .int 0, .ref z10, .int 0, .null, .ref z11, .ref z12])), (a1, .inl (y 0, 3, .inl (fun _ => 0)))]) (fun _ => []) (fun u => some (.int 0)) (fun y u => []) := by
  refine mkM (by decide) (Nat.le_of_ble_eq_true rfl) ?_
  intro p e s m args below meth c D y A ls hF hr hAe hP hD hS hl
  have hF : FX p e s m args meth c cX11_isHouse 2 RX11 "isHouse" D y A := hF
  obtain ⟨⟨hx, hb, hml, hown, hts⟩, hev, heh, hA, hlk, hnm⟩ := id hF
  have hK := hev.1
  have hP : va_P D vwCl [(a0, .inr (13, [.ref a1, .ref z0, .ref z1, .ref z2, .ref z3, .ref z4, .int 45, .ref z5, .ref z6, .ref z7, .int 0, .ref z8, .ref z9, .int 0, .int 0, .int 0, .int 0, .ref z10, .int 0, .null, .ref z11, .ref z12])), (a1, .inl (y 0, 3, .inl (fun _ => 0)))] s.heap := hP
  have hD : va_D (fun _ => True) [(a0, .inr (13, [.ref a1, .ref z0, .ref z1, .ref z2, .ref z3, .ref z4, .int 45, .ref z5, .ref z6, .ref z7, .int 0, .ref z8, .ref z9, .int 0, .int 0, .int 0, .int 0, .ref z10, .int 0, .null, .ref z11, .ref z12])), (a1, .inl (y 0, 3, .inl (fun _ => 0)))] := hD
  have hl : lv_has ls 2 [(0, .ref a0), (1, .int p0)] := hl
  refine lv_iload_n hx hb dX11_isHouse_0 rfl (lv_at hl 1 rfl) ?_
  refine lv_iconst (v := 0) hx hb dX11_isHouse_1 (by decide) ?_
  refine lv_aload_n hx hb dX11_isHouse_2 rfl (lv_at hl 0 rfl) ?_
  refine va_get (D := D) (ci := 13) (v := .ref a1) (C := RX11) (T := TX11) (N := 22) hx hb hts inX11 hown hK hP 0 rfl rfl 0 (by decide) (hts _ wd_115) (fun _ h9 => h9) rfl dX11_isHouse_3 ?_
  refine lv_iconst (v := 1) hx hb dX11_isHouse_6 (by decide) ?_
  refine va_iald hx hb hK hP 1 0 rfl rfl (vp_in_nI (n := 1) (by decide) (by decide)) dX11_isHouse_7 ?_
  refine tp_i (v := 0) rfl ?_
  refine lv_iconst (v := 1) hx hb dX11_isHouse_8 (by decide) ?_
  refine lv_isub hx hb dX11_isHouse_9 ?_
  refine tp_i (v := (-1)) (by decide) ?_
  refine cS (l := l) (yM := yX11_in) (As := [.int p0, .int 0, .int (-1)]) (rest := []) (wr := [(a0, .inr (13, [.ref a1, .ref z0, .ref z1, .ref z2, .ref z3, .ref z4, .int 45, .ref z5, .ref z6, .ref z7, .int 0, .ref z8, .ref z9, .int 0, .int 0, .int 0, .int 0, .ref z10, .int 0, .null, .ref z11, .ref z12])), (a1, .inl (y 0, 3, .inl (fun _ => 0)))]) hF (c86_X11_in l p0) gs_RX11_78 3 (by decide +kernel) rfl ⟨(Nat.le_of_ble_eq_true rfl), (Nat.le_of_ble_eq_true rfl)⟩ hl.1 rfl (Nat.le_of_ble_eq_true rfl) dX11_isHouse_10 ⟨(Nat.le_of_ble_eq_true rfl), (Nat.le_of_ble_eq_true rfl)⟩ hP hD hS (pA hA hS) (fun _ _ => trivial) [] [] [0, 1] rfl rfl rfl rfl rfl (by decide) (fun u_1 H locs hP hD hS => ?_)
  have hP : va_P D vwCl [(a0, .inr (13, [.ref a1, .ref z0, .ref z1, .ref z2, .ref z3, .ref z4, .int 45, .ref z5, .ref z6, .ref z7, .int 0, .ref z8, .ref z9, .int 0, .int 0, .int 0, .int 0, .ref z10, .int 0, .null, .ref z11, .ref z12])), (a1, .inl (y 0, 3, .inl (fun _ => 0)))] H := hP
  have hD : va_D (fun _ => True) [(a0, .inr (13, [.ref a1, .ref z0, .ref z1, .ref z2, .ref z3, .ref z4, .int 45, .ref z5, .ref z6, .ref z7, .int 0, .ref z8, .ref z9, .int 0, .int 0, .int 0, .int 0, .ref z10, .int 0, .null, .ref z11, .ref z12])), (a1, .inl (y 0, 3, .inl (fun _ => 0)))] := hD
  refine W.widen (k := 0) (n := 0) (Nat.le_of_ble_eq_true rfl) (Nat.le_of_ble_eq_true rfl) ?_
  refine W.eq (g2 := F0 m 13 ls [.int 0]) rfl ?_
  exact e_z hF hr (by decide) (Nat.le_of_ble_eq_true rfl) (Nat.le_of_ble_eq_true rfl) hS (qg_end hS (fun _ => 0) rfl [] hP rfl d_nil) dX11_isHouse_13

set_option maxHeartbeats 4000000 in
set_option maxRecDepth 100000 in
theorem c88_X11_in (l : Launch) (p0 : Int32) (f0 : p0 < 1) : CT l (.code yX11_in cX11_in 3 (some .boolean)) yX11_in { frames := 0, cells := 0, slots := 0, locals := 0 } [.int p0, .int 1, .int 4] (fun y => []) (fun _ => []) (fun u => some (.int 0)) (fun y u => []) := by
  refine mkM (by decide) (Nat.le_of_ble_eq_true rfl) ?_
  intro p e s m args below meth c D y A ls hF hr hAe hP hD hS hl
  have hF : FX p e s m args meth c cX11_in 3 RX11 "in" D y A := hF
  obtain ⟨⟨hx, hb, hml, hown, hts⟩, hev, heh, hA, hlk, hnm⟩ := id hF
  have hK := hev.1
  have hP : va_P D vwCl [] s.heap := hP
  have hD : va_D A [] := by rw [← hAe]; exact hD.self
  have hl : lv_has ls 3 [(0, .int p0), (1, .int 1), (2, .int 4)] := hl
  refine lv_iload_n hx hb dX11_in_0 rfl (lv_at hl 0 rfl) ?_
  refine lv_iload_n hx hb dX11_in_1 rfl (lv_at hl 1 rfl) ?_
  refine lv_icmp_lt (tgt := 14) hx hb dX11_in_2 (by decide) (fun _ => ?_) (fun c => absurd f0 c)
  refine lv_iconst (v := 0) hx hb dX11_in_14 (by decide) ?_
  exact e_z hF hr (by decide) (Nat.le_of_ble_eq_true rfl) (Nat.le_of_ble_eq_true rfl) hS (qg_end hS (fun _ => 0) rfl [] hP rfl d_nil) dX11_in_15

set_option maxHeartbeats 4000000 in
set_option maxRecDepth 100000 in
theorem c89_X11_fails (l : Launch) (a0 : Nat) (z0 : Nat) (z1 : Nat) (z2 : Nat) (z3 : Nat) (z4 : Nat) (z5 : Nat) (z6 : Nat) (z7 : Nat) (z8 : Nat) (z9 : Nat) (z10 : Nat) (z11 : Nat) (z12 : Nat) (z13 : Nat) : CT l (.code yX11_fails cX11_fails 4 (some .boolean)) yX11_fails { frames := 0, cells := 0, slots := 0, locals := 0 } [.ref a0, .int 1, .int 1, .int 0] (fun y => [(a0, .inr (13, [.ref z0, .ref z1, .ref z2, .ref z3, .ref z4, .ref z5, .int 45, .ref z6, .ref z7, .ref z8, .int 0, .ref z9, .ref z10, .int 0, .int 0, .int 0, .int 0, .ref z11, .int 0, .null, .ref z12, .ref z13]))]) (fun y => [(a0, .inr (13, [.ref z0, .ref z1, .ref z2, .ref z3, .ref z4, .ref z5, .int 45, .ref z6, .ref z7, .ref z8, .int 0, .ref z9, .ref z10, .int 0, .int 0, .int 0, .int 0, .ref z11, .int 0, .null, .ref z12, .ref z13]))]) (fun u => some (.int 1)) (fun y u => [(a0, .inr (13, [.ref z0, .ref z1, .ref z2, .ref z3, .ref z4, .ref z5, .int 45, .ref z6, .ref z7, .ref z8, .int 0, .ref z9, .ref z10, .int 0, .int 0, .int 1, .int 0, .ref z11, .int 0, .null, .ref z12, .ref z13]))]) := by
  refine mkM (by decide) (Nat.le_of_ble_eq_true rfl) ?_
  intro p e s m args below meth c D y A ls hF hr hAe hP hD hS hl
  have hF : FX p e s m args meth c cX11_fails 4 RX11 "fails" D y A := hF
  obtain ⟨⟨hx, hb, hml, hown, hts⟩, hev, heh, hA, hlk, hnm⟩ := id hF
  have hK := hev.1
  have hP : va_P D vwCl [(a0, .inr (13, [.ref z0, .ref z1, .ref z2, .ref z3, .ref z4, .ref z5, .int 45, .ref z6, .ref z7, .ref z8, .int 0, .ref z9, .ref z10, .int 0, .int 0, .int 0, .int 0, .ref z11, .int 0, .null, .ref z12, .ref z13]))] s.heap := hP
  have hD : va_D A [(a0, .inr (13, [.ref z0, .ref z1, .ref z2, .ref z3, .ref z4, .ref z5, .int 45, .ref z6, .ref z7, .ref z8, .int 0, .ref z9, .ref z10, .int 0, .int 0, .int 0, .int 0, .ref z11, .int 0, .null, .ref z12, .ref z13]))] := by rw [← hAe]; exact hD.self
  have hl : lv_has ls 4 [(0, .ref a0), (1, .int 1), (2, .int 1), (3, .int 0)] := hl
  refine lv_aload_n hx hb dX11_fails_0 rfl (lv_at hl 0 rfl) ?_
  refine lv_iload_n hx hb dX11_fails_1 rfl (lv_at hl 1 rfl) ?_
  refine lv_if_eq (tgt := 9) hx hb dX11_fails_2 (by decide) (fun c => absurd c (by decide)) (fun _ => ?_)
  refine lv_iconst (v := 1) hx hb dX11_fails_5 (by decide) ?_
  refine lv_goto (tgt := 26) hx hb dX11_fails_6 (by decide) ?_
  refine va_put (D := D) (ci := 13) (v := .int 1) (ty := .int) (C := RX11) (T := TX11) (N := 22) hx hb hts inX11 tyX11 tyX11_ok nmX11 hown hK hP hD hS 0 rfl rfl 15 (by decide) (hts _ wd_216) (fun _ h9 => h9) rfl (by decide +kernel) rfl rfl (Nat.le_of_ble_eq_true rfl) dX11_fails_26 (fun H locs hP hD hS => ?_)
  have hP : va_P D vwCl [(a0, .inr (13, [.ref z0, .ref z1, .ref z2, .ref z3, .ref z4, .ref z5, .int 45, .ref z6, .ref z7, .ref z8, .int 0, .ref z9, .ref z10, .int 0, .int 0, .int 1, .int 0, .ref z11, .int 0, .null, .ref z12, .ref z13]))] H := hP
  have hD : va_D A [(a0, .inr (13, [.ref z0, .ref z1, .ref z2, .ref z3, .ref z4, .ref z5, .int 45, .ref z6, .ref z7, .ref z8, .int 0, .ref z9, .ref z10, .int 0, .int 0, .int 1, .int 0, .ref z11, .int 0, .null, .ref z12, .ref z13]))] := hD
  refine lv_aload_n hx hb dX11_fails_29 rfl (lv_at hl 0 rfl) ?_
  refine va_get (D := D) (ci := 13) (v := .int 1) (C := RX11) (T := TX11) (N := 22) hx hb hts inX11 hown hK hP 0 rfl rfl 15 (by decide) (hts _ wd_216) (fun _ h9 => h9) rfl dX11_fails_30 ?_
  refine lv_if_le (tgt := 40) hx hb dX11_fails_33 (by decide) (fun c => absurd c (by decide)) (fun _ => ?_)
  refine lv_iconst (v := 1) hx hb dX11_fails_36 (by decide) ?_
  refine lv_goto (tgt := 41) hx hb dX11_fails_37 (by decide) ?_
  exact e_z hF hr (by decide) (Nat.le_of_ble_eq_true rfl) (Nat.le_of_ble_eq_true rfl) hS (qg_end hS (fun _ => 0) rfl [0] hP rfl (hD.sub [0] rfl rfl)) dX11_fails_41

set_option maxHeartbeats 4000000 in
set_option maxRecDepth 100000 in
theorem c90_X11_in (l : Launch) (p0 : Int32) (f0 : ¬ p0 < 1) (f1 : 4 < p0) : CT l (.code yX11_in cX11_in 3 (some .boolean)) yX11_in { frames := 0, cells := 0, slots := 0, locals := 0 } [.int p0, .int 1, .int 4] (fun y => []) (fun _ => []) (fun u => some (.int 0)) (fun y u => []) := by
  refine mkM (by decide) (Nat.le_of_ble_eq_true rfl) ?_
  intro p e s m args below meth c D y A ls hF hr hAe hP hD hS hl
  have hF : FX p e s m args meth c cX11_in 3 RX11 "in" D y A := hF
  obtain ⟨⟨hx, hb, hml, hown, hts⟩, hev, heh, hA, hlk, hnm⟩ := id hF
  have hK := hev.1
  have hP : va_P D vwCl [] s.heap := hP
  have hD : va_D A [] := by rw [← hAe]; exact hD.self
  have hl : lv_has ls 3 [(0, .int p0), (1, .int 1), (2, .int 4)] := hl
  refine lv_iload_n hx hb dX11_in_0 rfl (lv_at hl 0 rfl) ?_
  refine lv_iload_n hx hb dX11_in_1 rfl (lv_at hl 1 rfl) ?_
  refine lv_icmp_lt (tgt := 14) hx hb dX11_in_2 (by decide) (fun c => absurd c f0) (fun _ => ?_)
  refine lv_iload_n hx hb dX11_in_5 rfl (lv_at hl 0 rfl) ?_
  refine lv_iload_n hx hb dX11_in_6 rfl (lv_at hl 2 rfl) ?_
  refine lv_icmp_gt (tgt := 14) hx hb dX11_in_7 (by decide) (fun _ => ?_) (fun c => absurd f1 c)
  refine lv_iconst (v := 0) hx hb dX11_in_14 (by decide) ?_
  exact e_z hF hr (by decide) (Nat.le_of_ble_eq_true rfl) (Nat.le_of_ble_eq_true rfl) hS (qg_end hS (fun _ => 0) rfl [] hP rfl d_nil) dX11_in_15

set_option maxHeartbeats 4000000 in
set_option maxRecDepth 100000 in
theorem c91_X11_in (l : Launch) (p0 : Int32) (f0 : ¬ p0 < 1) (f1 : ¬ 4 < p0) : CT l (.code yX11_in cX11_in 3 (some .boolean)) yX11_in { frames := 0, cells := 0, slots := 0, locals := 0 } [.int p0, .int 1, .int 4] (fun y => []) (fun _ => []) (fun u => some (.int 1)) (fun y u => []) := by
  refine mkM (by decide) (Nat.le_of_ble_eq_true rfl) ?_
  intro p e s m args below meth c D y A ls hF hr hAe hP hD hS hl
  have hF : FX p e s m args meth c cX11_in 3 RX11 "in" D y A := hF
  obtain ⟨⟨hx, hb, hml, hown, hts⟩, hev, heh, hA, hlk, hnm⟩ := id hF
  have hK := hev.1
  have hP : va_P D vwCl [] s.heap := hP
  have hD : va_D A [] := by rw [← hAe]; exact hD.self
  have hl : lv_has ls 3 [(0, .int p0), (1, .int 1), (2, .int 4)] := hl
  refine lv_iload_n hx hb dX11_in_0 rfl (lv_at hl 0 rfl) ?_
  refine lv_iload_n hx hb dX11_in_1 rfl (lv_at hl 1 rfl) ?_
  refine lv_icmp_lt (tgt := 14) hx hb dX11_in_2 (by decide) (fun c => absurd c f0) (fun _ => ?_)
  refine lv_iload_n hx hb dX11_in_5 rfl (lv_at hl 0 rfl) ?_
  refine lv_iload_n hx hb dX11_in_6 rfl (lv_at hl 2 rfl) ?_
  refine lv_icmp_gt (tgt := 14) hx hb dX11_in_7 (by decide) (fun c => absurd c f1) (fun _ => ?_)
  refine lv_iconst (v := 1) hx hb dX11_in_10 (by decide) ?_
  refine lv_goto (tgt := 15) hx hb dX11_in_11 (by decide) ?_
  exact e_z hF hr (by decide) (Nat.le_of_ble_eq_true rfl) (Nat.le_of_ble_eq_true rfl) hS (qg_end hS (fun _ => 0) rfl [] hP rfl d_nil) dX11_in_15

set_option maxHeartbeats 4000000 in
set_option maxRecDepth 100000 in
theorem c86_X11_places (l : Launch) (a0 : Nat) (a1 : Nat) (z0 : Nat) (z1 : Nat) (z2 : Nat) (z3 : Nat) (z4 : Nat) (z5 : Nat) (z6 : Nat) (z7 : Nat) (z8 : Nat) (z9 : Nat) (z10 : Nat) (z11 : Nat) (z12 : Nat) (p0 : Int32) (p1 : Int32) : CT l (.code yX11_places cX11_places 4 (some .int)) yX11_places { frames := 2, cells := 0, slots := 0, locals := 43 } [.ref a0, .int p0, .int p1] (fun y => [(a0, .inr (13, [.ref a1, .ref z0, .ref z1, .ref z2, .ref z3, .ref z4, .int 45, .ref z5, .ref z6, .ref z7, .int 0, .ref z8, .ref z9, .int 0, .int 0, .int 0, .int 0, .ref z10, .int 0, .null, .ref z11, .ref z12])), (a1, .inl (y 0, 3, .inl (fun _ => 0)))]) (fun y => [(a0, .inr (13, [.ref a1, .ref z0, .ref z1, .ref z2, .ref z3, .ref z4, .int 45, .ref z5, .ref z6, .ref z7, .int 0, .ref z8, .ref z9, .int 0, .int 0, .int 0, .int 0, .ref z10, .int 0, .null, .ref z11, .ref z12])), (a1, .inl (y 0, 3, .inl (fun _ => 0)))]) (fun u => some (.int 0)) (fun y u => [(a0, .inr (13, [.ref a1, .ref z0, .ref z1, .ref z2, .ref z3, .ref z4, .int 45, .ref z5, .ref z6, .ref z7, .int 0, .ref z8, .ref z9, .int 0, .int 0, .int 1, .int 0, .ref z10, .int 0, .null, .ref z11, .ref z12])), (a1, .inl (y 0, 3, .inl (fun _ => 0)))]) := by
  refine mkM (by decide) (Nat.le_of_ble_eq_true rfl) ?_
  intro p e s m args below meth c D y A ls hF hr hAe hP hD hS hl
  have hF : FX p e s m args meth c cX11_places 4 RX11 "places" D y A := hF
  obtain ⟨⟨hx, hb, hml, hown, hts⟩, hev, heh, hA, hlk, hnm⟩ := id hF
  have hK := hev.1
  have hP : va_P D vwCl [(a0, .inr (13, [.ref a1, .ref z0, .ref z1, .ref z2, .ref z3, .ref z4, .int 45, .ref z5, .ref z6, .ref z7, .int 0, .ref z8, .ref z9, .int 0, .int 0, .int 0, .int 0, .ref z10, .int 0, .null, .ref z11, .ref z12])), (a1, .inl (y 0, 3, .inl (fun _ => 0)))] s.heap := hP
  have hD : va_D A [(a0, .inr (13, [.ref a1, .ref z0, .ref z1, .ref z2, .ref z3, .ref z4, .int 45, .ref z5, .ref z6, .ref z7, .int 0, .ref z8, .ref z9, .int 0, .int 0, .int 0, .int 0, .ref z10, .int 0, .null, .ref z11, .ref z12])), (a1, .inl (y 0, 3, .inl (fun _ => 0)))] := by rw [← hAe]; exact hD.self
  have hl : lv_has ls 4 [(0, .ref a0), (1, .int p0), (2, .int p1)] := hl
  refine lv_aload_n hx hb dX11_places_0 rfl (lv_at hl 0 rfl) ?_
  refine lv_aload_n hx hb dX11_places_1 rfl (lv_at hl 0 rfl) ?_
  refine lv_iload_n hx hb dX11_places_2 rfl (lv_at hl 1 rfl) ?_
  refine cV (l := l) (yM := yX11_isHouse) (C := RX11) (As := [.int p0]) (rest := [.ref a0]) (wr := [(a0, .inr (13, [.ref a1, .ref z0, .ref z1, .ref z2, .ref z3, .ref z4, .int 45, .ref z5, .ref z6, .ref z7, .int 0, .ref z8, .ref z9, .int 0, .int 0, .int 0, .int 0, .ref z10, .int 0, .null, .ref z11, .ref z12])), (a1, .inl (y 0, 3, .inl (fun _ => 0)))]) hF (c86_X11_isHouse l a0 a1 z0 z1 z2 z3 z4 z5 z6 z7 z8 z9 z10 z11 z12 p0) gv_RX11_135 1 (by decide +kernel) rfl ⟨(Nat.le_of_ble_eq_true rfl), (Nat.le_of_ble_eq_true rfl)⟩ hl.1 rfl (Nat.le_of_ble_eq_true rfl) dX11_places_3 ⟨(Nat.le_of_ble_eq_true rfl), (Nat.le_of_ble_eq_true rfl)⟩ hP hD hS (pA hA hS) (fun _ h => h) [0, 1] [] [0, 1] rfl rfl rfl rfl rfl (by decide) 0 (ci := 13) rfl rfl rfl (fun u_1 H locs hP hD hS => ?_)
  have hP : va_P D vwCl [(a0, .inr (13, [.ref a1, .ref z0, .ref z1, .ref z2, .ref z3, .ref z4, .int 45, .ref z5, .ref z6, .ref z7, .int 0, .ref z8, .ref z9, .int 0, .int 0, .int 0, .int 0, .ref z10, .int 0, .null, .ref z11, .ref z12])), (a1, .inl (y 0, 3, .inl (fun _ => 0)))] H := hP
  have hD : va_D A [(a0, .inr (13, [.ref a1, .ref z0, .ref z1, .ref z2, .ref z3, .ref z4, .int 45, .ref z5, .ref z6, .ref z7, .int 0, .ref z8, .ref z9, .int 0, .int 0, .int 0, .int 0, .ref z10, .int 0, .null, .ref z11, .ref z12])), (a1, .inl (y 0, 3, .inl (fun _ => 0)))] := hD
  refine W.widen (k := 0) (n := 0) (Nat.le_of_ble_eq_true rfl) (Nat.le_of_ble_eq_true rfl) ?_
  refine W.eq (g2 := F0 m 6 ls [.int 0, .ref a0]) rfl ?_
  refine lv_if_ne (tgt := 13) hx hb dX11_places_6 (by decide) (fun c => absurd (by decide) c) (fun _ => ?_)
  refine lv_iconst (v := 1) hx hb dX11_places_9 (by decide) ?_
  refine lv_goto (tgt := 14) hx hb dX11_places_10 (by decide) ?_
  refine lv_iload_n hx hb dX11_places_14 rfl (lv_at hl 2 rfl) ?_
  refine lv_iconst (v := 1) hx hb dX11_places_15 (by decide) ?_
  refine lv_iconst (v := 4) hx hb dX11_places_16 (by decide) ?_
  rcases Classical.em (p1 < 1) with c_2 | c_2
  · refine cS (l := l) (yM := yX11_in) (As := [.int p1, .int 1, .int 4]) (rest := [.int 1, .ref a0]) (wr := [(a0, .inr (13, [.ref a1, .ref z0, .ref z1, .ref z2, .ref z3, .ref z4, .int 45, .ref z5, .ref z6, .ref z7, .int 0, .ref z8, .ref z9, .int 0, .int 0, .int 0, .int 0, .ref z10, .int 0, .null, .ref z11, .ref z12])), (a1, .inl (y 0, 3, .inl (fun _ => 0)))]) hF (c88_X11_in l p1 c_2) gs_RX11_78 3 (by decide +kernel) rfl ⟨(Nat.le_of_ble_eq_true rfl), (Nat.le_of_ble_eq_true rfl)⟩ hl.1 rfl (Nat.le_of_ble_eq_true rfl) dX11_places_17 ⟨(Nat.le_of_ble_eq_true rfl), (Nat.le_of_ble_eq_true rfl)⟩ hP hD hS (pA hA hS) (fun _ h => h) [] [] [0, 1] rfl rfl rfl rfl rfl (by decide) (fun u_3 H locs hP hD hS => ?_)
    have hP : va_P D vwCl [(a0, .inr (13, [.ref a1, .ref z0, .ref z1, .ref z2, .ref z3, .ref z4, .int 45, .ref z5, .ref z6, .ref z7, .int 0, .ref z8, .ref z9, .int 0, .int 0, .int 0, .int 0, .ref z10, .int 0, .null, .ref z11, .ref z12])), (a1, .inl (y 0, 3, .inl (fun _ => 0)))] H := hP
    have hD : va_D A [(a0, .inr (13, [.ref a1, .ref z0, .ref z1, .ref z2, .ref z3, .ref z4, .int 45, .ref z5, .ref z6, .ref z7, .int 0, .ref z8, .ref z9, .int 0, .int 0, .int 0, .int 0, .ref z10, .int 0, .null, .ref z11, .ref z12])), (a1, .inl (y 0, 3, .inl (fun _ => 0)))] := hD
    refine W.widen (k := 0) (n := 0) (Nat.le_of_ble_eq_true rfl) (Nat.le_of_ble_eq_true rfl) ?_
    refine W.eq (g2 := F0 m 20 ls [.int 0, .int 1, .ref a0]) rfl ?_
    refine lv_if_ne (tgt := 27) hx hb dX11_places_20 (by decide) (fun c => absurd (by decide) c) (fun _ => ?_)
    refine lv_iconst (v := 1) hx hb dX11_places_23 (by decide) ?_
    refine lv_goto (tgt := 28) hx hb dX11_places_24 (by decide) ?_
    refine lv_iconst (v := 0) hx hb dX11_places_28 (by decide) ?_
    refine cV (l := l) (yM := yX11_fails) (C := RX11) (As := [.int 1, .int 1, .int 0]) (rest := []) (wr := [(a1, .inl (y 0, 3, .inl (fun _ => 0)))]) hF (c89_X11_fails l a0 a1 z0 z1 z2 z3 z4 z5 z6 z7 z8 z9 z10 z11 z12) gv_RX11_128 3 (by decide +kernel) rfl ⟨(Nat.le_of_ble_eq_true rfl), (Nat.le_of_ble_eq_true rfl)⟩ hl.1 rfl (Nat.le_of_ble_eq_true rfl) dX11_places_29 ⟨(Nat.le_of_ble_eq_true rfl), (Nat.le_of_ble_eq_true rfl)⟩ hP hD hS (va_free (wc := [(a0, .inr (13, [.ref a1, .ref z0, .ref z1, .ref z2, .ref z3, .ref z4, .int 45, .ref z5, .ref z6, .ref z7, .int 0, .ref z8, .ref z9, .int 0, .int 0, .int 0, .int 0, .ref z10, .int 0, .null, .ref z11, .ref z12]))]) hD hS hA [0] rfl) (fun _ h => h) [0] [0] [1] rfl rfl rfl rfl rfl (by decide) 0 (ci := 13) rfl rfl rfl (fun u_4 H locs hP hD hS => ?_)
    have hP : va_P D vwCl [(a1, .inl (y 0, 3, .inl (fun _ => 0))), (a0, .inr (13, [.ref a1, .ref z0, .ref z1, .ref z2, .ref z3, .ref z4, .int 45, .ref z5, .ref z6, .ref z7, .int 0, .ref z8, .ref z9, .int 0, .int 0, .int 1, .int 0, .ref z10, .int 0, .null, .ref z11, .ref z12]))] H := hP
    have hD : va_D A [(a1, .inl (y 0, 3, .inl (fun _ => 0))), (a0, .inr (13, [.ref a1, .ref z0, .ref z1, .ref z2, .ref z3, .ref z4, .int 45, .ref z5, .ref z6, .ref z7, .int 0, .ref z8, .ref z9, .int 0, .int 0, .int 1, .int 0, .ref z10, .int 0, .null, .ref z11, .ref z12]))] := hD
    refine W.widen (k := 0) (n := 0) (Nat.le_of_ble_eq_true rfl) (Nat.le_of_ble_eq_true rfl) ?_
    refine W.eq (g2 := F0 m 32 ls [.int 1]) rfl ?_
    refine lv_if_eq (tgt := 37) hx hb dX11_places_32 (by decide) (fun c => absurd c (by decide)) (fun _ => ?_)
    refine lv_iconst (v := 0) hx hb dX11_places_35 (by decide) ?_
    exact e_i hF hr (Nat.le_of_ble_eq_true rfl) (Nat.le_of_ble_eq_true rfl) hS (qg_end hS (fun _ => 0) rfl [1, 0] hP rfl (hD.sub [1, 0] rfl rfl)) dX11_places_36
  · rcases Classical.em (4 < p1) with c_5 | c_5
    · refine cS (l := l) (yM := yX11_in) (As := [.int p1, .int 1, .int 4]) (rest := [.int 1, .ref a0]) (wr := [(a0, .inr (13, [.ref a1, .ref z0, .ref z1, .ref z2, .ref z3, .ref z4, .int 45, .ref z5, .ref z6, .ref z7, .int 0, .ref z8, .ref z9, .int 0, .int 0, .int 0, .int 0, .ref z10, .int 0, .null, .ref z11, .ref z12])), (a1, .inl (y 0, 3, .inl (fun _ => 0)))]) hF (c90_X11_in l p1 c_2 c_5) gs_RX11_78 3 (by decide +kernel) rfl ⟨(Nat.le_of_ble_eq_true rfl), (Nat.le_of_ble_eq_true rfl)⟩ hl.1 rfl (Nat.le_of_ble_eq_true rfl) dX11_places_17 ⟨(Nat.le_of_ble_eq_true rfl), (Nat.le_of_ble_eq_true rfl)⟩ hP hD hS (pA hA hS) (fun _ h => h) [] [] [0, 1] rfl rfl rfl rfl rfl (by decide) (fun u_6 H locs hP hD hS => ?_)
      have hP : va_P D vwCl [(a0, .inr (13, [.ref a1, .ref z0, .ref z1, .ref z2, .ref z3, .ref z4, .int 45, .ref z5, .ref z6, .ref z7, .int 0, .ref z8, .ref z9, .int 0, .int 0, .int 0, .int 0, .ref z10, .int 0, .null, .ref z11, .ref z12])), (a1, .inl (y 0, 3, .inl (fun _ => 0)))] H := hP
      have hD : va_D A [(a0, .inr (13, [.ref a1, .ref z0, .ref z1, .ref z2, .ref z3, .ref z4, .int 45, .ref z5, .ref z6, .ref z7, .int 0, .ref z8, .ref z9, .int 0, .int 0, .int 0, .int 0, .ref z10, .int 0, .null, .ref z11, .ref z12])), (a1, .inl (y 0, 3, .inl (fun _ => 0)))] := hD
      refine W.widen (k := 0) (n := 0) (Nat.le_of_ble_eq_true rfl) (Nat.le_of_ble_eq_true rfl) ?_
      refine W.eq (g2 := F0 m 20 ls [.int 0, .int 1, .ref a0]) rfl ?_
      refine lv_if_ne (tgt := 27) hx hb dX11_places_20 (by decide) (fun c => absurd (by decide) c) (fun _ => ?_)
      refine lv_iconst (v := 1) hx hb dX11_places_23 (by decide) ?_
      refine lv_goto (tgt := 28) hx hb dX11_places_24 (by decide) ?_
      refine lv_iconst (v := 0) hx hb dX11_places_28 (by decide) ?_
      refine cV (l := l) (yM := yX11_fails) (C := RX11) (As := [.int 1, .int 1, .int 0]) (rest := []) (wr := [(a1, .inl (y 0, 3, .inl (fun _ => 0)))]) hF (c89_X11_fails l a0 a1 z0 z1 z2 z3 z4 z5 z6 z7 z8 z9 z10 z11 z12) gv_RX11_128 3 (by decide +kernel) rfl ⟨(Nat.le_of_ble_eq_true rfl), (Nat.le_of_ble_eq_true rfl)⟩ hl.1 rfl (Nat.le_of_ble_eq_true rfl) dX11_places_29 ⟨(Nat.le_of_ble_eq_true rfl), (Nat.le_of_ble_eq_true rfl)⟩ hP hD hS (va_free (wc := [(a0, .inr (13, [.ref a1, .ref z0, .ref z1, .ref z2, .ref z3, .ref z4, .int 45, .ref z5, .ref z6, .ref z7, .int 0, .ref z8, .ref z9, .int 0, .int 0, .int 0, .int 0, .ref z10, .int 0, .null, .ref z11, .ref z12]))]) hD hS hA [0] rfl) (fun _ h => h) [0] [0] [1] rfl rfl rfl rfl rfl (by decide) 0 (ci := 13) rfl rfl rfl (fun u_7 H locs hP hD hS => ?_)
      have hP : va_P D vwCl [(a1, .inl (y 0, 3, .inl (fun _ => 0))), (a0, .inr (13, [.ref a1, .ref z0, .ref z1, .ref z2, .ref z3, .ref z4, .int 45, .ref z5, .ref z6, .ref z7, .int 0, .ref z8, .ref z9, .int 0, .int 0, .int 1, .int 0, .ref z10, .int 0, .null, .ref z11, .ref z12]))] H := hP
      have hD : va_D A [(a1, .inl (y 0, 3, .inl (fun _ => 0))), (a0, .inr (13, [.ref a1, .ref z0, .ref z1, .ref z2, .ref z3, .ref z4, .int 45, .ref z5, .ref z6, .ref z7, .int 0, .ref z8, .ref z9, .int 0, .int 0, .int 1, .int 0, .ref z10, .int 0, .null, .ref z11, .ref z12]))] := hD
      refine W.widen (k := 0) (n := 0) (Nat.le_of_ble_eq_true rfl) (Nat.le_of_ble_eq_true rfl) ?_
      refine W.eq (g2 := F0 m 32 ls [.int 1]) rfl ?_
      refine lv_if_eq (tgt := 37) hx hb dX11_places_32 (by decide) (fun c => absurd c (by decide)) (fun _ => ?_)
      refine lv_iconst (v := 0) hx hb dX11_places_35 (by decide) ?_
      exact e_i hF hr (Nat.le_of_ble_eq_true rfl) (Nat.le_of_ble_eq_true rfl) hS (qg_end hS (fun _ => 0) rfl [1, 0] hP rfl (hD.sub [1, 0] rfl rfl)) dX11_places_36
    · refine cS (l := l) (yM := yX11_in) (As := [.int p1, .int 1, .int 4]) (rest := [.int 1, .ref a0]) (wr := [(a0, .inr (13, [.ref a1, .ref z0, .ref z1, .ref z2, .ref z3, .ref z4, .int 45, .ref z5, .ref z6, .ref z7, .int 0, .ref z8, .ref z9, .int 0, .int 0, .int 0, .int 0, .ref z10, .int 0, .null, .ref z11, .ref z12])), (a1, .inl (y 0, 3, .inl (fun _ => 0)))]) hF (c91_X11_in l p1 c_2 c_5) gs_RX11_78 3 (by decide +kernel) rfl ⟨(Nat.le_of_ble_eq_true rfl), (Nat.le_of_ble_eq_true rfl)⟩ hl.1 rfl (Nat.le_of_ble_eq_true rfl) dX11_places_17 ⟨(Nat.le_of_ble_eq_true rfl), (Nat.le_of_ble_eq_true rfl)⟩ hP hD hS (pA hA hS) (fun _ h => h) [] [] [0, 1] rfl rfl rfl rfl rfl (by decide) (fun u_8 H locs hP hD hS => ?_)
      have hP : va_P D vwCl [(a0, .inr (13, [.ref a1, .ref z0, .ref z1, .ref z2, .ref z3, .ref z4, .int 45, .ref z5, .ref z6, .ref z7, .int 0, .ref z8, .ref z9, .int 0, .int 0, .int 0, .int 0, .ref z10, .int 0, .null, .ref z11, .ref z12])), (a1, .inl (y 0, 3, .inl (fun _ => 0)))] H := hP
      have hD : va_D A [(a0, .inr (13, [.ref a1, .ref z0, .ref z1, .ref z2, .ref z3, .ref z4, .int 45, .ref z5, .ref z6, .ref z7, .int 0, .ref z8, .ref z9, .int 0, .int 0, .int 0, .int 0, .ref z10, .int 0, .null, .ref z11, .ref z12])), (a1, .inl (y 0, 3, .inl (fun _ => 0)))] := hD
      refine W.widen (k := 0) (n := 0) (Nat.le_of_ble_eq_true rfl) (Nat.le_of_ble_eq_true rfl) ?_
      refine W.eq (g2 := F0 m 20 ls [.int 1, .int 1, .ref a0]) rfl ?_
      refine lv_if_ne (tgt := 27) hx hb dX11_places_20 (by decide) (fun _ => ?_) (fun c => absurd c (by decide))
      refine lv_iconst (v := 0) hx hb dX11_places_27 (by decide) ?_
      refine lv_iconst (v := 0) hx hb dX11_places_28 (by decide) ?_
      refine cV (l := l) (yM := yX11_fails) (C := RX11) (As := [.int 1, .int 0, .int 0]) (rest := []) (wr := [(a1, .inl (y 0, 3, .inl (fun _ => 0)))]) hF (c67_X11_fails l a0 a1 z0 z1 z2 z3 z4 z5 z6 z7 z8 z9 z10 z11 z12) gv_RX11_128 3 (by decide +kernel) rfl ⟨(Nat.le_of_ble_eq_true rfl), (Nat.le_of_ble_eq_true rfl)⟩ hl.1 rfl (Nat.le_of_ble_eq_true rfl) dX11_places_29 ⟨(Nat.le_of_ble_eq_true rfl), (Nat.le_of_ble_eq_true rfl)⟩ hP hD hS (va_free (wc := [(a0, .inr (13, [.ref a1, .ref z0, .ref z1, .ref z2, .ref z3, .ref z4, .int 45, .ref z5, .ref z6, .ref z7, .int 0, .ref z8, .ref z9, .int 0, .int 0, .int 0, .int 0, .ref z10, .int 0, .null, .ref z11, .ref z12]))]) hD hS hA [0] rfl) (fun _ h => h) [0] [0] [1] rfl rfl rfl rfl rfl (by decide) 0 (ci := 13) rfl rfl rfl (fun u_9 H locs hP hD hS => ?_)
      have hP : va_P D vwCl [(a1, .inl (y 0, 3, .inl (fun _ => 0))), (a0, .inr (13, [.ref a1, .ref z0, .ref z1, .ref z2, .ref z3, .ref z4, .int 45, .ref z5, .ref z6, .ref z7, .int 0, .ref z8, .ref z9, .int 0, .int 0, .int 1, .int 0, .ref z10, .int 0, .null, .ref z11, .ref z12]))] H := hP
      have hD : va_D A [(a1, .inl (y 0, 3, .inl (fun _ => 0))), (a0, .inr (13, [.ref a1, .ref z0, .ref z1, .ref z2, .ref z3, .ref z4, .int 45, .ref z5, .ref z6, .ref z7, .int 0, .ref z8, .ref z9, .int 0, .int 0, .int 1, .int 0, .ref z10, .int 0, .null, .ref z11, .ref z12]))] := hD
      refine W.widen (k := 0) (n := 0) (Nat.le_of_ble_eq_true rfl) (Nat.le_of_ble_eq_true rfl) ?_
      refine W.eq (g2 := F0 m 32 ls [.int 1]) rfl ?_
      refine lv_if_eq (tgt := 37) hx hb dX11_places_32 (by decide) (fun c => absurd c (by decide)) (fun _ => ?_)
      refine lv_iconst (v := 0) hx hb dX11_places_35 (by decide) ?_
      exact e_i hF hr (Nat.le_of_ble_eq_true rfl) (Nat.le_of_ble_eq_true rfl) hS (qg_end hS (fun _ => 0) rfl [1, 0] hP rfl (hD.sub [1, 0] rfl rfl)) dX11_places_36

set_option maxHeartbeats 4000000 in
set_option maxRecDepth 100000 in
theorem c93_X10_least (l : Launch) (hlt : l.stackTraces = false) (a0 : Nat) (a1 : Nat) (a2 : Nat) (z0 : Nat) (z1 : Nat) (z2 : Nat) (z3 : Nat) (z4 : Nat) (z5 : Nat) (z6 : Nat) (z7 : Nat) (z8 : Nat) (z9 : Nat) (z10 : Nat) (z11 : Nat) (z12 : Nat) (z13 : Nat) (z14 : Nat) (z15 : Nat) (z16 : Nat) (z17 : Nat) (z18 : Nat) (p0 : Int32) (p1 : Int32) : CX l (.code yX10_least cX10_least 4 (some .int)) yX10_least { frames := 7, cells := 1, slots := 6, locals := 111 } [.ref a0, .int p0, .int p1] (fun y => [(a0, .inr (12, [.ref a1, .ref z0, .ref z1, .ref z2, .ref z3, .ref z4, .ref z5, .ref z6, .ref z7, .ref z8, .ref z9, .ref z10, .ref z11, .ref z12, .ref z13])), (a1, .inr (5, [.ref z14, .ref a2, .ref z15])), (a2, .inr (4, [.int 0, .ref z16, .ref z17, .ref z18]))]) (fun _ => []) "java/util/NoSuchElementException" := by
  refine mkX (by decide) (Nat.le_of_ble_eq_true rfl) ?_
  intro p e s m args below meth c D y A ls hF htb hAe hP hD hS hl
  have hF : FX p e s m args meth c cX10_least 4 RX10 "least" D y A := hF
  obtain ⟨⟨hx, hb, hml, hown, hts⟩, hev, heh, hA, hlk, hnm⟩ := id hF
  have hK := hev.1
  have hP : va_P D vwCl [(a0, .inr (12, [.ref a1, .ref z0, .ref z1, .ref z2, .ref z3, .ref z4, .ref z5, .ref z6, .ref z7, .ref z8, .ref z9, .ref z10, .ref z11, .ref z12, .ref z13])), (a1, .inr (5, [.ref z14, .ref a2, .ref z15])), (a2, .inr (4, [.int 0, .ref z16, .ref z17, .ref z18]))] s.heap := hP
  have hD : va_D (fun _ => True) [(a0, .inr (12, [.ref a1, .ref z0, .ref z1, .ref z2, .ref z3, .ref z4, .ref z5, .ref z6, .ref z7, .ref z8, .ref z9, .ref z10, .ref z11, .ref z12, .ref z13])), (a1, .inr (5, [.ref z14, .ref a2, .ref z15])), (a2, .inr (4, [.int 0, .ref z16, .ref z17, .ref z18]))] := hD
  have hl : lv_has ls 4 [(0, .ref a0), (1, .int p0), (2, .int p1)] := hl
  refine lv_aload_n hx hb dX10_least_0 rfl (lv_at hl 0 rfl) ?_
  refine lv_iload_n hx hb dX10_least_1 rfl (lv_at hl 1 rfl) ?_
  exact xV (l := l) (yM := yX10_needHouse) (C := RX10) (As := [.int p0]) (rest := []) hF htb (c82_X10_needHouse l hlt a0 a1 a2 z0 z1 z2 z3 z4 z5 z6 z7 z8 z9 z10 z11 z12 z13 z14 z15 z16 z17 z18 p0) gv_RX10_116 1 (by decide +kernel) rfl ⟨(Nat.le_of_ble_eq_true rfl), (Nat.le_of_ble_eq_true rfl)⟩ hl.1 rfl (Nat.le_of_ble_eq_true rfl) dX10_least_2 ⟨(Nat.le_of_ble_eq_true rfl), (Nat.le_of_ble_eq_true rfl)⟩ hP hD hS (pA hA hS) [0, 1, 2] rfl rfl 0 (ci := 12) rfl rfl rfl ⟨(Nat.le_of_ble_eq_true rfl), (Nat.le_of_ble_eq_true rfl)⟩

set_option maxHeartbeats 4000000 in
set_option maxRecDepth 100000 in
theorem c93_L_least (l : Launch) (hlt : l.stackTraces = false) (a0 : Nat) (a1 : Nat) (a2 : Nat) (z0 : Nat) (z1 : Nat) (z2 : Nat) (z3 : Nat) (z4 : Nat) (z5 : Nat) (z6 : Nat) (z7 : Nat) (z8 : Nat) (z9 : Nat) (z10 : Nat) (z11 : Nat) (z12 : Nat) (z13 : Nat) (z14 : Nat) (z15 : Nat) (z16 : Nat) (z17 : Nat) (z18 : Nat) (p0 : Int32) (p1 : Int32) (z19 : Nat) : CT l (.codeWith yL_least cL_least 5 (some .int) [(0, 10, 13, 24), (0, 10, 17, 13)]) yL_least { frames := 8, cells := 1, slots := 6, locals := 134 } [.ref a0, .int p0, .int p1, .ref z19] (fun y => [(a0, .inr (12, [.ref a1, .ref z0, .ref z1, .ref z2, .ref z3, .ref z4, .ref z5, .ref z6, .ref z7, .ref z8, .ref z9, .ref z10, .ref z11, .ref z12, .ref z13])), (a1, .inr (5, [.ref z14, .ref a2, .ref z15])), (a2, .inr (4, [.int 0, .ref z16, .ref z17, .ref z18]))]) (fun _ => []) (fun u => some (.int 1)) (fun y u => []) := by
  refine mkH (by decide) (Nat.le_of_ble_eq_true rfl) ?_
  intro p e s m args below meth c D y A ls hF htab hr hAe hP hD hS hl
  have hF : FX p e s m args meth c cL_least 5 RL "least" D y A := hF
  obtain ⟨⟨hx, hb, hml, hown, hts⟩, hev, heh, hA, hlk, hnm⟩ := id hF
  have hK := hev.1
  have hP : va_P D vwCl [(a0, .inr (12, [.ref a1, .ref z0, .ref z1, .ref z2, .ref z3, .ref z4, .ref z5, .ref z6, .ref z7, .ref z8, .ref z9, .ref z10, .ref z11, .ref z12, .ref z13])), (a1, .inr (5, [.ref z14, .ref a2, .ref z15])), (a2, .inr (4, [.int 0, .ref z16, .ref z17, .ref z18]))] s.heap := hP
  have hD : va_D (fun _ => True) [(a0, .inr (12, [.ref a1, .ref z0, .ref z1, .ref z2, .ref z3, .ref z4, .ref z5, .ref z6, .ref z7, .ref z8, .ref z9, .ref z10, .ref z11, .ref z12, .ref z13])), (a1, .inr (5, [.ref z14, .ref a2, .ref z15])), (a2, .inr (4, [.int 0, .ref z16, .ref z17, .ref z18]))] := hD
  have hl : lv_has ls 5 [(0, .ref a0), (1, .int p0), (2, .int p1), (3, .ref z19)] := hl
  refine lv_aload_n hx hb dL_least_0 rfl (lv_at hl 3 rfl) ?_
  refine lv_iconst (v := 0) hx hb dL_least_1 (by decide) ?_
  refine lv_aload_n hx hb dL_least_2 rfl (lv_at hl 0 rfl) ?_
  refine lv_iload_n hx hb dL_least_3 rfl (lv_at hl 1 rfl) ?_
  refine lv_iload_n hx hb dL_least_4 rfl (lv_at hl 2 rfl) ?_
  refine hV (wr := [(a0, .inr (12, [.ref a1, .ref z0, .ref z1, .ref z2, .ref z3, .ref z4, .ref z5, .ref z6, .ref z7, .ref z8, .ref z9, .ref z10, .ref z11, .ref z12, .ref z13])), (a1, .inr (5, [.ref z14, .ref a2, .ref z15])), (a2, .inr (4, [.int 0, .ref z16, .ref z17, .ref z18]))]) (name := "java/util/NoSuchElementException") (E0 := "java/util/NoSuchElementException") (l := l) (yM := yX10_least) (C := RX10) (As := [.int p0, .int p1]) (rest := [.int 0, .ref z19]) hF (c93_X10_least l hlt a0 a1 a2 z0 z1 z2 z3 z4 z5 z6 z7 z8 z9 z10 z11 z12 z13 z14 z15 z16 z17 z18 p0 p1) gv_RL_26 2 (by decide +kernel) rfl ⟨(Nat.le_of_ble_eq_true rfl), (Nat.le_of_ble_eq_true rfl)⟩ hl.1 rfl (Nat.le_of_ble_eq_true rfl) dL_least_5 ⟨(Nat.le_of_ble_eq_true rfl), (Nat.le_of_ble_eq_true rfl)⟩ hP hD hS (pA hA hS) (fun _ _ => trivial) [0, 1, 2] [] [0, 1, 2] rfl rfl rfl rfl rfl (by decide) 0 (ci := 12) rfl rfl rfl [] ⟨0, 10, 13, 24⟩ [⟨0, 10, 17, 13⟩] htab (fun z hz => nomatch hz) (by decide) (by decide) wd_261 (by decide) (fun q9 H locs hP hD hS => ?_)
  have hP : va_P D vwCl [(a0, .inr (12, [.ref a1, .ref z0, .ref z1, .ref z2, .ref z3, .ref z4, .ref z5, .ref z6, .ref z7, .ref z8, .ref z9, .ref z10, .ref z11, .ref z12, .ref z13])), (a1, .inr (5, [.ref z14, .ref a2, .ref z15])), (a2, .inr (4, [.int 0, .ref z16, .ref z17, .ref z18]))] H := hP
  have hD : va_D (fun _ => True) [(a0, .inr (12, [.ref a1, .ref z0, .ref z1, .ref z2, .ref z3, .ref z4, .ref z5, .ref z6, .ref z7, .ref z8, .ref z9, .ref z10, .ref z11, .ref z12, .ref z13])), (a1, .inr (5, [.ref z14, .ref a2, .ref z15])), (a2, .inr (4, [.int 0, .ref z16, .ref z17, .ref z18]))] := hD
  refine W.widen (k := 1) (n := 6) (Nat.le_of_ble_eq_true rfl) (Nat.le_of_ble_eq_true rfl) ?_
  refine W.eq (g2 := F0 m 13 ls [.ref q9]) rfl ?_
  refine lv_astore (lv' := [(4, .ref q9), (0, .ref a0), (1, .int p0), (2, .int p1), (3, .ref z19)]) hx hb dL_least_13 hl (by decide) rfl (fun ls hl => ?_)
  refine lv_iconst (v := 1) hx hb dL_least_15 (by decide) ?_
  exact e_i hF hr (Nat.le_of_ble_eq_true rfl) (Nat.le_of_ble_eq_true rfl) hS (qg_end hS (fun _ => 0) rfl [] hP rfl d_nil) dL_least_16

set_option maxHeartbeats 4000000 in
set_option maxRecDepth 100000 in
theorem c95_X11_in (l : Launch) (p0 : Int32) (f0 : p0 < 0) : CT l (.code yX11_in cX11_in 3 (some .boolean)) yX11_in { frames := 0, cells := 0, slots := 0, locals := 0 } [.int p0, .int 0, .int 4] (fun y => []) (fun _ => []) (fun u => some (.int 0)) (fun y u => []) := by
  refine mkM (by decide) (Nat.le_of_ble_eq_true rfl) ?_
  intro p e s m args below meth c D y A ls hF hr hAe hP hD hS hl
  have hF : FX p e s m args meth c cX11_in 3 RX11 "in" D y A := hF
  obtain ⟨⟨hx, hb, hml, hown, hts⟩, hev, heh, hA, hlk, hnm⟩ := id hF
  have hK := hev.1
  have hP : va_P D vwCl [] s.heap := hP
  have hD : va_D A [] := by rw [← hAe]; exact hD.self
  have hl : lv_has ls 3 [(0, .int p0), (1, .int 0), (2, .int 4)] := hl
  refine lv_iload_n hx hb dX11_in_0 rfl (lv_at hl 0 rfl) ?_
  refine lv_iload_n hx hb dX11_in_1 rfl (lv_at hl 1 rfl) ?_
  refine lv_icmp_lt (tgt := 14) hx hb dX11_in_2 (by decide) (fun _ => ?_) (fun c => absurd f0 c)
  refine lv_iconst (v := 0) hx hb dX11_in_14 (by decide) ?_
  exact e_z hF hr (by decide) (Nat.le_of_ble_eq_true rfl) (Nat.le_of_ble_eq_true rfl) hS (qg_end hS (fun _ => 0) rfl [] hP rfl d_nil) dX11_in_15

set_option maxHeartbeats 4000000 in
set_option maxRecDepth 100000 in
theorem c96_X11_in (l : Launch) (p0 : Int32) (f0 : ¬ p0 < 0) (f1 : 4 < p0) : CT l (.code yX11_in cX11_in 3 (some .boolean)) yX11_in { frames := 0, cells := 0, slots := 0, locals := 0 } [.int p0, .int 0, .int 4] (fun y => []) (fun _ => []) (fun u => some (.int 0)) (fun y u => []) := by
  refine mkM (by decide) (Nat.le_of_ble_eq_true rfl) ?_
  intro p e s m args below meth c D y A ls hF hr hAe hP hD hS hl
  have hF : FX p e s m args meth c cX11_in 3 RX11 "in" D y A := hF
  obtain ⟨⟨hx, hb, hml, hown, hts⟩, hev, heh, hA, hlk, hnm⟩ := id hF
  have hK := hev.1
  have hP : va_P D vwCl [] s.heap := hP
  have hD : va_D A [] := by rw [← hAe]; exact hD.self
  have hl : lv_has ls 3 [(0, .int p0), (1, .int 0), (2, .int 4)] := hl
  refine lv_iload_n hx hb dX11_in_0 rfl (lv_at hl 0 rfl) ?_
  refine lv_iload_n hx hb dX11_in_1 rfl (lv_at hl 1 rfl) ?_
  refine lv_icmp_lt (tgt := 14) hx hb dX11_in_2 (by decide) (fun c => absurd c f0) (fun _ => ?_)
  refine lv_iload_n hx hb dX11_in_5 rfl (lv_at hl 0 rfl) ?_
  refine lv_iload_n hx hb dX11_in_6 rfl (lv_at hl 2 rfl) ?_
  refine lv_icmp_gt (tgt := 14) hx hb dX11_in_7 (by decide) (fun _ => ?_) (fun c => absurd f1 c)
  refine lv_iconst (v := 0) hx hb dX11_in_14 (by decide) ?_
  exact e_z hF hr (by decide) (Nat.le_of_ble_eq_true rfl) (Nat.le_of_ble_eq_true rfl) hS (qg_end hS (fun _ => 0) rfl [] hP rfl d_nil) dX11_in_15

set_option maxHeartbeats 4000000 in
set_option maxRecDepth 100000 in
theorem c97_X11_in (l : Launch) (p0 : Int32) (f0 : ¬ p0 < 0) (f1 : ¬ 4 < p0) : CT l (.code yX11_in cX11_in 3 (some .boolean)) yX11_in { frames := 0, cells := 0, slots := 0, locals := 0 } [.int p0, .int 0, .int 4] (fun y => []) (fun _ => []) (fun u => some (.int 1)) (fun y u => []) := by
  refine mkM (by decide) (Nat.le_of_ble_eq_true rfl) ?_
  intro p e s m args below meth c D y A ls hF hr hAe hP hD hS hl
  have hF : FX p e s m args meth c cX11_in 3 RX11 "in" D y A := hF
  obtain ⟨⟨hx, hb, hml, hown, hts⟩, hev, heh, hA, hlk, hnm⟩ := id hF
  have hK := hev.1
  have hP : va_P D vwCl [] s.heap := hP
  have hD : va_D A [] := by rw [← hAe]; exact hD.self
  have hl : lv_has ls 3 [(0, .int p0), (1, .int 0), (2, .int 4)] := hl
  refine lv_iload_n hx hb dX11_in_0 rfl (lv_at hl 0 rfl) ?_
  refine lv_iload_n hx hb dX11_in_1 rfl (lv_at hl 1 rfl) ?_
  refine lv_icmp_lt (tgt := 14) hx hb dX11_in_2 (by decide) (fun c => absurd c f0) (fun _ => ?_)
  refine lv_iload_n hx hb dX11_in_5 rfl (lv_at hl 0 rfl) ?_
  refine lv_iload_n hx hb dX11_in_6 rfl (lv_at hl 2 rfl) ?_
  refine lv_icmp_gt (tgt := 14) hx hb dX11_in_7 (by decide) (fun c => absurd c f1) (fun _ => ?_)
  refine lv_iconst (v := 1) hx hb dX11_in_10 (by decide) ?_
  refine lv_goto (tgt := 15) hx hb dX11_in_11 (by decide) ?_
  exact e_z hF hr (by decide) (Nat.le_of_ble_eq_true rfl) (Nat.le_of_ble_eq_true rfl) hS (qg_end hS (fun _ => 0) rfl [] hP rfl d_nil) dX11_in_15

set_option maxHeartbeats 4000000 in
set_option maxRecDepth 100000 in
theorem c95_X11_least (l : Launch) (a0 : Nat) (a1 : Nat) (z0 : Nat) (z1 : Nat) (z2 : Nat) (z3 : Nat) (z4 : Nat) (z5 : Nat) (z6 : Nat) (z7 : Nat) (z8 : Nat) (z9 : Nat) (z10 : Nat) (z11 : Nat) (z12 : Nat) (p0 : Int32) (p1 : Int32) : CT l (.code yX11_least cX11_least 4 (some .int)) yX11_least { frames := 2, cells := 0, slots := 0, locals := 43 } [.ref a0, .int p0, .int p1] (fun y => [(a0, .inr (13, [.ref a1, .ref z0, .ref z1, .ref z2, .ref z3, .ref z4, .int 45, .ref z5, .ref z6, .ref z7, .int 0, .ref z8, .ref z9, .int 0, .int 0, .int 0, .int 0, .ref z10, .int 0, .null, .ref z11, .ref z12])), (a1, .inl (y 0, 3, .inl (fun _ => 0)))]) (fun y => [(a0, .inr (13, [.ref a1, .ref z0, .ref z1, .ref z2, .ref z3, .ref z4, .int 45, .ref z5, .ref z6, .ref z7, .int 0, .ref z8, .ref z9, .int 0, .int 0, .int 0, .int 0, .ref z10, .int 0, .null, .ref z11, .ref z12])), (a1, .inl (y 0, 3, .inl (fun _ => 0)))]) (fun u => some (.int 0)) (fun y u => [(a0, .inr (13, [.ref a1, .ref z0, .ref z1, .ref z2, .ref z3, .ref z4, .int 45, .ref z5, .ref z6, .ref z7, .int 0, .ref z8, .ref z9, .int 0, .int 0, .int 1, .int 0, .ref z10, .int 0, .null, .ref z11, .ref z12])), (a1, .inl (y 0, 3, .inl (fun _ => 0)))]) := by
  refine mkM (by decide) (Nat.le_of_ble_eq_true rfl) ?_
  intro p e s m args below meth c D y A ls hF hr hAe hP hD hS hl
  have hF : FX p e s m args meth c cX11_least 4 RX11 "least" D y A := hF
  obtain ⟨⟨hx, hb, hml, hown, hts⟩, hev, heh, hA, hlk, hnm⟩ := id hF
  have hK := hev.1
  have hP : va_P D vwCl [(a0, .inr (13, [.ref a1, .ref z0, .ref z1, .ref z2, .ref z3, .ref z4, .int 45, .ref z5, .ref z6, .ref z7, .int 0, .ref z8, .ref z9, .int 0, .int 0, .int 0, .int 0, .ref z10, .int 0, .null, .ref z11, .ref z12])), (a1, .inl (y 0, 3, .inl (fun _ => 0)))] s.heap := hP
  have hD : va_D A [(a0, .inr (13, [.ref a1, .ref z0, .ref z1, .ref z2, .ref z3, .ref z4, .int 45, .ref z5, .ref z6, .ref z7, .int 0, .ref z8, .ref z9, .int 0, .int 0, .int 0, .int 0, .ref z10, .int 0, .null, .ref z11, .ref z12])), (a1, .inl (y 0, 3, .inl (fun _ => 0)))] := by rw [← hAe]; exact hD.self
  have hl : lv_has ls 4 [(0, .ref a0), (1, .int p0), (2, .int p1)] := hl
  refine lv_aload_n hx hb dX11_least_0 rfl (lv_at hl 0 rfl) ?_
  refine lv_aload_n hx hb dX11_least_1 rfl (lv_at hl 0 rfl) ?_
  refine lv_iload_n hx hb dX11_least_2 rfl (lv_at hl 1 rfl) ?_
  refine cV (l := l) (yM := yX11_isHouse) (C := RX11) (As := [.int p0]) (rest := [.ref a0]) (wr := [(a0, .inr (13, [.ref a1, .ref z0, .ref z1, .ref z2, .ref z3, .ref z4, .int 45, .ref z5, .ref z6, .ref z7, .int 0, .ref z8, .ref z9, .int 0, .int 0, .int 0, .int 0, .ref z10, .int 0, .null, .ref z11, .ref z12])), (a1, .inl (y 0, 3, .inl (fun _ => 0)))]) hF (c86_X11_isHouse l a0 a1 z0 z1 z2 z3 z4 z5 z6 z7 z8 z9 z10 z11 z12 p0) gv_RX11_135 1 (by decide +kernel) rfl ⟨(Nat.le_of_ble_eq_true rfl), (Nat.le_of_ble_eq_true rfl)⟩ hl.1 rfl (Nat.le_of_ble_eq_true rfl) dX11_least_3 ⟨(Nat.le_of_ble_eq_true rfl), (Nat.le_of_ble_eq_true rfl)⟩ hP hD hS (pA hA hS) (fun _ h => h) [0, 1] [] [0, 1] rfl rfl rfl rfl rfl (by decide) 0 (ci := 13) rfl rfl rfl (fun u_1 H locs hP hD hS => ?_)
  have hP : va_P D vwCl [(a0, .inr (13, [.ref a1, .ref z0, .ref z1, .ref z2, .ref z3, .ref z4, .int 45, .ref z5, .ref z6, .ref z7, .int 0, .ref z8, .ref z9, .int 0, .int 0, .int 0, .int 0, .ref z10, .int 0, .null, .ref z11, .ref z12])), (a1, .inl (y 0, 3, .inl (fun _ => 0)))] H := hP
  have hD : va_D A [(a0, .inr (13, [.ref a1, .ref z0, .ref z1, .ref z2, .ref z3, .ref z4, .int 45, .ref z5, .ref z6, .ref z7, .int 0, .ref z8, .ref z9, .int 0, .int 0, .int 0, .int 0, .ref z10, .int 0, .null, .ref z11, .ref z12])), (a1, .inl (y 0, 3, .inl (fun _ => 0)))] := hD
  refine W.widen (k := 0) (n := 0) (Nat.le_of_ble_eq_true rfl) (Nat.le_of_ble_eq_true rfl) ?_
  refine W.eq (g2 := F0 m 6 ls [.int 0, .ref a0]) rfl ?_
  refine lv_if_ne (tgt := 13) hx hb dX11_least_6 (by decide) (fun c => absurd (by decide) c) (fun _ => ?_)
  refine lv_iconst (v := 1) hx hb dX11_least_9 (by decide) ?_
  refine lv_goto (tgt := 14) hx hb dX11_least_10 (by decide) ?_
  refine lv_iload_n hx hb dX11_least_14 rfl (lv_at hl 2 rfl) ?_
  refine lv_iconst (v := 0) hx hb dX11_least_15 (by decide) ?_
  refine lv_iconst (v := 4) hx hb dX11_least_16 (by decide) ?_
  rcases Classical.em (p1 < 0) with c_2 | c_2
  · refine cS (l := l) (yM := yX11_in) (As := [.int p1, .int 0, .int 4]) (rest := [.int 1, .ref a0]) (wr := [(a0, .inr (13, [.ref a1, .ref z0, .ref z1, .ref z2, .ref z3, .ref z4, .int 45, .ref z5, .ref z6, .ref z7, .int 0, .ref z8, .ref z9, .int 0, .int 0, .int 0, .int 0, .ref z10, .int 0, .null, .ref z11, .ref z12])), (a1, .inl (y 0, 3, .inl (fun _ => 0)))]) hF (c95_X11_in l p1 c_2) gs_RX11_78 3 (by decide +kernel) rfl ⟨(Nat.le_of_ble_eq_true rfl), (Nat.le_of_ble_eq_true rfl)⟩ hl.1 rfl (Nat.le_of_ble_eq_true rfl) dX11_least_17 ⟨(Nat.le_of_ble_eq_true rfl), (Nat.le_of_ble_eq_true rfl)⟩ hP hD hS (pA hA hS) (fun _ h => h) [] [] [0, 1] rfl rfl rfl rfl rfl (by decide) (fun u_3 H locs hP hD hS => ?_)
    have hP : va_P D vwCl [(a0, .inr (13, [.ref a1, .ref z0, .ref z1, .ref z2, .ref z3, .ref z4, .int 45, .ref z5, .ref z6, .ref z7, .int 0, .ref z8, .ref z9, .int 0, .int 0, .int 0, .int 0, .ref z10, .int 0, .null, .ref z11, .ref z12])), (a1, .inl (y 0, 3, .inl (fun _ => 0)))] H := hP
    have hD : va_D A [(a0, .inr (13, [.ref a1, .ref z0, .ref z1, .ref z2, .ref z3, .ref z4, .int 45, .ref z5, .ref z6, .ref z7, .int 0, .ref z8, .ref z9, .int 0, .int 0, .int 0, .int 0, .ref z10, .int 0, .null, .ref z11, .ref z12])), (a1, .inl (y 0, 3, .inl (fun _ => 0)))] := hD
    refine W.widen (k := 0) (n := 0) (Nat.le_of_ble_eq_true rfl) (Nat.le_of_ble_eq_true rfl) ?_
    refine W.eq (g2 := F0 m 20 ls [.int 0, .int 1, .ref a0]) rfl ?_
    refine lv_if_ne (tgt := 27) hx hb dX11_least_20 (by decide) (fun c => absurd (by decide) c) (fun _ => ?_)
    refine lv_iconst (v := 1) hx hb dX11_least_23 (by decide) ?_
    refine lv_goto (tgt := 28) hx hb dX11_least_24 (by decide) ?_
    refine lv_iconst (v := 0) hx hb dX11_least_28 (by decide) ?_
    refine cV (l := l) (yM := yX11_fails) (C := RX11) (As := [.int 1, .int 1, .int 0]) (rest := []) (wr := [(a1, .inl (y 0, 3, .inl (fun _ => 0)))]) hF (c89_X11_fails l a0 a1 z0 z1 z2 z3 z4 z5 z6 z7 z8 z9 z10 z11 z12) gv_RX11_128 3 (by decide +kernel) rfl ⟨(Nat.le_of_ble_eq_true rfl), (Nat.le_of_ble_eq_true rfl)⟩ hl.1 rfl (Nat.le_of_ble_eq_true rfl) dX11_least_29 ⟨(Nat.le_of_ble_eq_true rfl), (Nat.le_of_ble_eq_true rfl)⟩ hP hD hS (va_free (wc := [(a0, .inr (13, [.ref a1, .ref z0, .ref z1, .ref z2, .ref z3, .ref z4, .int 45, .ref z5, .ref z6, .ref z7, .int 0, .ref z8, .ref z9, .int 0, .int 0, .int 0, .int 0, .ref z10, .int 0, .null, .ref z11, .ref z12]))]) hD hS hA [0] rfl) (fun _ h => h) [0] [0] [1] rfl rfl rfl rfl rfl (by decide) 0 (ci := 13) rfl rfl rfl (fun u_4 H locs hP hD hS => ?_)
    have hP : va_P D vwCl [(a1, .inl (y 0, 3, .inl (fun _ => 0))), (a0, .inr (13, [.ref a1, .ref z0, .ref z1, .ref z2, .ref z3, .ref z4, .int 45, .ref z5, .ref z6, .ref z7, .int 0, .ref z8, .ref z9, .int 0, .int 0, .int 1, .int 0, .ref z10, .int 0, .null, .ref z11, .ref z12]))] H := hP
    have hD : va_D A [(a1, .inl (y 0, 3, .inl (fun _ => 0))), (a0, .inr (13, [.ref a1, .ref z0, .ref z1, .ref z2, .ref z3, .ref z4, .int 45, .ref z5, .ref z6, .ref z7, .int 0, .ref z8, .ref z9, .int 0, .int 0, .int 1, .int 0, .ref z10, .int 0, .null, .ref z11, .ref z12]))] := hD
    refine W.widen (k := 0) (n := 0) (Nat.le_of_ble_eq_true rfl) (Nat.le_of_ble_eq_true rfl) ?_
    refine W.eq (g2 := F0 m 32 ls [.int 1]) rfl ?_
    refine lv_if_eq (tgt := 37) hx hb dX11_least_32 (by decide) (fun c => absurd c (by decide)) (fun _ => ?_)
    refine lv_iconst (v := 0) hx hb dX11_least_35 (by decide) ?_
    exact e_i hF hr (Nat.le_of_ble_eq_true rfl) (Nat.le_of_ble_eq_true rfl) hS (qg_end hS (fun _ => 0) rfl [1, 0] hP rfl (hD.sub [1, 0] rfl rfl)) dX11_least_36
  · rcases Classical.em (4 < p1) with c_5 | c_5
    · refine cS (l := l) (yM := yX11_in) (As := [.int p1, .int 0, .int 4]) (rest := [.int 1, .ref a0]) (wr := [(a0, .inr (13, [.ref a1, .ref z0, .ref z1, .ref z2, .ref z3, .ref z4, .int 45, .ref z5, .ref z6, .ref z7, .int 0, .ref z8, .ref z9, .int 0, .int 0, .int 0, .int 0, .ref z10, .int 0, .null, .ref z11, .ref z12])), (a1, .inl (y 0, 3, .inl (fun _ => 0)))]) hF (c96_X11_in l p1 c_2 c_5) gs_RX11_78 3 (by decide +kernel) rfl ⟨(Nat.le_of_ble_eq_true rfl), (Nat.le_of_ble_eq_true rfl)⟩ hl.1 rfl (Nat.le_of_ble_eq_true rfl) dX11_least_17 ⟨(Nat.le_of_ble_eq_true rfl), (Nat.le_of_ble_eq_true rfl)⟩ hP hD hS (pA hA hS) (fun _ h => h) [] [] [0, 1] rfl rfl rfl rfl rfl (by decide) (fun u_6 H locs hP hD hS => ?_)
      have hP : va_P D vwCl [(a0, .inr (13, [.ref a1, .ref z0, .ref z1, .ref z2, .ref z3, .ref z4, .int 45, .ref z5, .ref z6, .ref z7, .int 0, .ref z8, .ref z9, .int 0, .int 0, .int 0, .int 0, .ref z10, .int 0, .null, .ref z11, .ref z12])), (a1, .inl (y 0, 3, .inl (fun _ => 0)))] H := hP
      have hD : va_D A [(a0, .inr (13, [.ref a1, .ref z0, .ref z1, .ref z2, .ref z3, .ref z4, .int 45, .ref z5, .ref z6, .ref z7, .int 0, .ref z8, .ref z9, .int 0, .int 0, .int 0, .int 0, .ref z10, .int 0, .null, .ref z11, .ref z12])), (a1, .inl (y 0, 3, .inl (fun _ => 0)))] := hD
      refine W.widen (k := 0) (n := 0) (Nat.le_of_ble_eq_true rfl) (Nat.le_of_ble_eq_true rfl) ?_
      refine W.eq (g2 := F0 m 20 ls [.int 0, .int 1, .ref a0]) rfl ?_
      refine lv_if_ne (tgt := 27) hx hb dX11_least_20 (by decide) (fun c => absurd (by decide) c) (fun _ => ?_)
      refine lv_iconst (v := 1) hx hb dX11_least_23 (by decide) ?_
      refine lv_goto (tgt := 28) hx hb dX11_least_24 (by decide) ?_
      refine lv_iconst (v := 0) hx hb dX11_least_28 (by decide) ?_
      refine cV (l := l) (yM := yX11_fails) (C := RX11) (As := [.int 1, .int 1, .int 0]) (rest := []) (wr := [(a1, .inl (y 0, 3, .inl (fun _ => 0)))]) hF (c89_X11_fails l a0 a1 z0 z1 z2 z3 z4 z5 z6 z7 z8 z9 z10 z11 z12) gv_RX11_128 3 (by decide +kernel) rfl ⟨(Nat.le_of_ble_eq_true rfl), (Nat.le_of_ble_eq_true rfl)⟩ hl.1 rfl (Nat.le_of_ble_eq_true rfl) dX11_least_29 ⟨(Nat.le_of_ble_eq_true rfl), (Nat.le_of_ble_eq_true rfl)⟩ hP hD hS (va_free (wc := [(a0, .inr (13, [.ref a1, .ref z0, .ref z1, .ref z2, .ref z3, .ref z4, .int 45, .ref z5, .ref z6, .ref z7, .int 0, .ref z8, .ref z9, .int 0, .int 0, .int 0, .int 0, .ref z10, .int 0, .null, .ref z11, .ref z12]))]) hD hS hA [0] rfl) (fun _ h => h) [0] [0] [1] rfl rfl rfl rfl rfl (by decide) 0 (ci := 13) rfl rfl rfl (fun u_7 H locs hP hD hS => ?_)
      have hP : va_P D vwCl [(a1, .inl (y 0, 3, .inl (fun _ => 0))), (a0, .inr (13, [.ref a1, .ref z0, .ref z1, .ref z2, .ref z3, .ref z4, .int 45, .ref z5, .ref z6, .ref z7, .int 0, .ref z8, .ref z9, .int 0, .int 0, .int 1, .int 0, .ref z10, .int 0, .null, .ref z11, .ref z12]))] H := hP
      have hD : va_D A [(a1, .inl (y 0, 3, .inl (fun _ => 0))), (a0, .inr (13, [.ref a1, .ref z0, .ref z1, .ref z2, .ref z3, .ref z4, .int 45, .ref z5, .ref z6, .ref z7, .int 0, .ref z8, .ref z9, .int 0, .int 0, .int 1, .int 0, .ref z10, .int 0, .null, .ref z11, .ref z12]))] := hD
      refine W.widen (k := 0) (n := 0) (Nat.le_of_ble_eq_true rfl) (Nat.le_of_ble_eq_true rfl) ?_
      refine W.eq (g2 := F0 m 32 ls [.int 1]) rfl ?_
      refine lv_if_eq (tgt := 37) hx hb dX11_least_32 (by decide) (fun c => absurd c (by decide)) (fun _ => ?_)
      refine lv_iconst (v := 0) hx hb dX11_least_35 (by decide) ?_
      exact e_i hF hr (Nat.le_of_ble_eq_true rfl) (Nat.le_of_ble_eq_true rfl) hS (qg_end hS (fun _ => 0) rfl [1, 0] hP rfl (hD.sub [1, 0] rfl rfl)) dX11_least_36
    · refine cS (l := l) (yM := yX11_in) (As := [.int p1, .int 0, .int 4]) (rest := [.int 1, .ref a0]) (wr := [(a0, .inr (13, [.ref a1, .ref z0, .ref z1, .ref z2, .ref z3, .ref z4, .int 45, .ref z5, .ref z6, .ref z7, .int 0, .ref z8, .ref z9, .int 0, .int 0, .int 0, .int 0, .ref z10, .int 0, .null, .ref z11, .ref z12])), (a1, .inl (y 0, 3, .inl (fun _ => 0)))]) hF (c97_X11_in l p1 c_2 c_5) gs_RX11_78 3 (by decide +kernel) rfl ⟨(Nat.le_of_ble_eq_true rfl), (Nat.le_of_ble_eq_true rfl)⟩ hl.1 rfl (Nat.le_of_ble_eq_true rfl) dX11_least_17 ⟨(Nat.le_of_ble_eq_true rfl), (Nat.le_of_ble_eq_true rfl)⟩ hP hD hS (pA hA hS) (fun _ h => h) [] [] [0, 1] rfl rfl rfl rfl rfl (by decide) (fun u_8 H locs hP hD hS => ?_)
      have hP : va_P D vwCl [(a0, .inr (13, [.ref a1, .ref z0, .ref z1, .ref z2, .ref z3, .ref z4, .int 45, .ref z5, .ref z6, .ref z7, .int 0, .ref z8, .ref z9, .int 0, .int 0, .int 0, .int 0, .ref z10, .int 0, .null, .ref z11, .ref z12])), (a1, .inl (y 0, 3, .inl (fun _ => 0)))] H := hP
      have hD : va_D A [(a0, .inr (13, [.ref a1, .ref z0, .ref z1, .ref z2, .ref z3, .ref z4, .int 45, .ref z5, .ref z6, .ref z7, .int 0, .ref z8, .ref z9, .int 0, .int 0, .int 0, .int 0, .ref z10, .int 0, .null, .ref z11, .ref z12])), (a1, .inl (y 0, 3, .inl (fun _ => 0)))] := hD
      refine W.widen (k := 0) (n := 0) (Nat.le_of_ble_eq_true rfl) (Nat.le_of_ble_eq_true rfl) ?_
      refine W.eq (g2 := F0 m 20 ls [.int 1, .int 1, .ref a0]) rfl ?_
      refine lv_if_ne (tgt := 27) hx hb dX11_least_20 (by decide) (fun _ => ?_) (fun c => absurd c (by decide))
      refine lv_iconst (v := 0) hx hb dX11_least_27 (by decide) ?_
      refine lv_iconst (v := 0) hx hb dX11_least_28 (by decide) ?_
      refine cV (l := l) (yM := yX11_fails) (C := RX11) (As := [.int 1, .int 0, .int 0]) (rest := []) (wr := [(a1, .inl (y 0, 3, .inl (fun _ => 0)))]) hF (c67_X11_fails l a0 a1 z0 z1 z2 z3 z4 z5 z6 z7 z8 z9 z10 z11 z12) gv_RX11_128 3 (by decide +kernel) rfl ⟨(Nat.le_of_ble_eq_true rfl), (Nat.le_of_ble_eq_true rfl)⟩ hl.1 rfl (Nat.le_of_ble_eq_true rfl) dX11_least_29 ⟨(Nat.le_of_ble_eq_true rfl), (Nat.le_of_ble_eq_true rfl)⟩ hP hD hS (va_free (wc := [(a0, .inr (13, [.ref a1, .ref z0, .ref z1, .ref z2, .ref z3, .ref z4, .int 45, .ref z5, .ref z6, .ref z7, .int 0, .ref z8, .ref z9, .int 0, .int 0, .int 0, .int 0, .ref z10, .int 0, .null, .ref z11, .ref z12]))]) hD hS hA [0] rfl) (fun _ h => h) [0] [0] [1] rfl rfl rfl rfl rfl (by decide) 0 (ci := 13) rfl rfl rfl (fun u_9 H locs hP hD hS => ?_)
      have hP : va_P D vwCl [(a1, .inl (y 0, 3, .inl (fun _ => 0))), (a0, .inr (13, [.ref a1, .ref z0, .ref z1, .ref z2, .ref z3, .ref z4, .int 45, .ref z5, .ref z6, .ref z7, .int 0, .ref z8, .ref z9, .int 0, .int 0, .int 1, .int 0, .ref z10, .int 0, .null, .ref z11, .ref z12]))] H := hP
      have hD : va_D A [(a1, .inl (y 0, 3, .inl (fun _ => 0))), (a0, .inr (13, [.ref a1, .ref z0, .ref z1, .ref z2, .ref z3, .ref z4, .int 45, .ref z5, .ref z6, .ref z7, .int 0, .ref z8, .ref z9, .int 0, .int 0, .int 1, .int 0, .ref z10, .int 0, .null, .ref z11, .ref z12]))] := hD
      refine W.widen (k := 0) (n := 0) (Nat.le_of_ble_eq_true rfl) (Nat.le_of_ble_eq_true rfl) ?_
      refine W.eq (g2 := F0 m 32 ls [.int 1]) rfl ?_
      refine lv_if_eq (tgt := 37) hx hb dX11_least_32 (by decide) (fun c => absurd c (by decide)) (fun _ => ?_)
      refine lv_iconst (v := 0) hx hb dX11_least_35 (by decide) ?_
      exact e_i hF hr (Nat.le_of_ble_eq_true rfl) (Nat.le_of_ble_eq_true rfl) hS (qg_end hS (fun _ => 0) rfl [1, 0] hP rfl (hD.sub [1, 0] rfl rfl)) dX11_least_36

set_option maxHeartbeats 4000000 in
set_option maxRecDepth 100000 in
theorem c99_X10_type (l : Launch) (hlt : l.stackTraces = false) (z0 : Nat) (p0 : Int32) (f0 : p0 < 32) : CX l (.code yX10_type cX10_type 2 (some .int)) yX10_type { frames := 6, cells := 1, slots := 6, locals := 90 } [.ref z0, .int p0] (fun y => []) (fun _ => []) "java/lang/IllegalArgumentException" := by
  refine mkX (by decide) (Nat.le_of_ble_eq_true rfl) ?_
  intro p e s m args below meth c D y A ls hF htb hAe hP hD hS hl
  have hF : FX p e s m args meth c cX10_type 2 RX10 "type" D y A := hF
  obtain ⟨⟨hx, hb, hml, hown, hts⟩, hev, heh, hA, hlk, hnm⟩ := id hF
  have hK := hev.1
  have hP : va_P D vwCl [] s.heap := hP
  have hD : va_D A [] := by rw [← hAe]; exact hD.self
  have hl : lv_has ls 2 [(0, .ref z0), (1, .int p0)] := hl
  refine lv_iload_n hx hb dX10_type_0 rfl (lv_at hl 1 rfl) ?_
  refine lv_bipush (v := 32) hx hb dX10_type_1 (by decide) ?_
  refine lv_icmp_lt (tgt := 12) hx hb dX10_type_3 (by decide) (fun _ => ?_) (fun c => absurd f0 c)
  exact th_S (text := "codes are 32 to 126") hF htb hlt (by decide) wd_233 wd_234 (List.mem_of_getElem? (i := 5) rfl) exg2 exf2 exo2 hS hl.1 (Nat.le_of_ble_eq_true rfl) ⟨(Nat.le_of_ble_eq_true rfl), (Nat.le_of_ble_eq_true rfl)⟩ ⟨(Nat.le_of_ble_eq_true rfl), (Nat.le_of_ble_eq_true rfl)⟩ ⟨(Nat.le_of_ble_eq_true rfl), (Nat.le_of_ble_eq_true rfl)⟩ dX10_type_12 dX10_type_15 dX10_type_16 dX10_type_18 dX10_type_21

set_option maxHeartbeats 4000000 in
set_option maxRecDepth 100000 in
theorem c99_L_type (l : Launch) (hlt : l.stackTraces = false) (a0 : Nat) (z0 : Nat) (z1 : Nat) (z2 : Nat) (z3 : Nat) (z4 : Nat) (z5 : Nat) (z6 : Nat) (z7 : Nat) (z8 : Nat) (z9 : Nat) (z10 : Nat) (z11 : Nat) (z12 : Nat) (z13 : Nat) (z14 : Nat) (p0 : Int32) (z15 : Nat) (f0 : p0 < 32) : CT l (.codeWith yL_type cL_type 4 (some .int) [(0, 9, 12, 13), (0, 9, 15, 15)]) yL_type { frames := 7, cells := 1, slots := 6, locals := 111 } [.ref a0, .int p0, .ref z15] (fun y => [(a0, .inr (12, [.ref z0, .ref z1, .ref z2, .ref z3, .ref z4, .ref z5, .ref z6, .ref z7, .ref z8, .ref z9, .ref z10, .ref z11, .ref z12, .ref z13, .ref z14]))]) (fun _ => []) (fun u => some (.int 1)) (fun y u => []) := by
  refine mkH (by decide) (Nat.le_of_ble_eq_true rfl) ?_
  intro p e s m args below meth c D y A ls hF htab hr hAe hP hD hS hl
  have hF : FX p e s m args meth c cL_type 4 RL "type" D y A := hF
  obtain ⟨⟨hx, hb, hml, hown, hts⟩, hev, heh, hA, hlk, hnm⟩ := id hF
  have hK := hev.1
  have hP : va_P D vwCl [(a0, .inr (12, [.ref z0, .ref z1, .ref z2, .ref z3, .ref z4, .ref z5, .ref z6, .ref z7, .ref z8, .ref z9, .ref z10, .ref z11, .ref z12, .ref z13, .ref z14]))] s.heap := hP
  have hD : va_D (fun _ => True) [(a0, .inr (12, [.ref z0, .ref z1, .ref z2, .ref z3, .ref z4, .ref z5, .ref z6, .ref z7, .ref z8, .ref z9, .ref z10, .ref z11, .ref z12, .ref z13, .ref z14]))] := hD
  have hl : lv_has ls 4 [(0, .ref a0), (1, .int p0), (2, .ref z15)] := hl
  refine lv_aload_n hx hb dL_type_0 rfl (lv_at hl 2 rfl) ?_
  refine lv_iconst (v := 0) hx hb dL_type_1 (by decide) ?_
  refine lv_aload_n hx hb dL_type_2 rfl (lv_at hl 0 rfl) ?_
  refine lv_iload_n hx hb dL_type_3 rfl (lv_at hl 1 rfl) ?_
  refine hV (wr := [(a0, .inr (12, [.ref z0, .ref z1, .ref z2, .ref z3, .ref z4, .ref z5, .ref z6, .ref z7, .ref z8, .ref z9, .ref z10, .ref z11, .ref z12, .ref z13, .ref z14]))]) (name := "java/lang/IllegalArgumentException") (E0 := "java/lang/IllegalArgumentException") (l := l) (yM := yX10_type) (C := RX10) (As := [.int p0]) (rest := [.int 0, .ref z15]) hF (c99_X10_type l hlt a0 p0 f0) gv_RL_29 1 (by decide +kernel) rfl ⟨(Nat.le_of_ble_eq_true rfl), (Nat.le_of_ble_eq_true rfl)⟩ hl.1 rfl (Nat.le_of_ble_eq_true rfl) dL_type_4 ⟨(Nat.le_of_ble_eq_true rfl), (Nat.le_of_ble_eq_true rfl)⟩ hP hD hS (pA hA hS) (fun _ _ => trivial) [] [] [0] rfl rfl rfl rfl rfl (by decide) 0 (ci := 12) rfl rfl rfl [] ⟨0, 9, 12, 13⟩ [⟨0, 9, 15, 15⟩] htab (fun z hz => nomatch hz) (by decide) (by decide) wd_235 (by decide) (fun q9 H locs hP hD hS => ?_)
  have hP : va_P D vwCl [(a0, .inr (12, [.ref z0, .ref z1, .ref z2, .ref z3, .ref z4, .ref z5, .ref z6, .ref z7, .ref z8, .ref z9, .ref z10, .ref z11, .ref z12, .ref z13, .ref z14]))] H := hP
  have hD : va_D (fun _ => True) [(a0, .inr (12, [.ref z0, .ref z1, .ref z2, .ref z3, .ref z4, .ref z5, .ref z6, .ref z7, .ref z8, .ref z9, .ref z10, .ref z11, .ref z12, .ref z13, .ref z14]))] := hD
  refine W.widen (k := 1) (n := 6) (Nat.le_of_ble_eq_true rfl) (Nat.le_of_ble_eq_true rfl) ?_
  refine W.eq (g2 := F0 m 12 ls [.ref q9]) rfl ?_
  refine lv_astore_n (lv' := [(3, .ref q9), (0, .ref a0), (1, .int p0), (2, .ref z15)]) hx hb dL_type_12 rfl hl (by decide) rfl (fun ls hl => ?_)
  refine lv_iconst (v := 1) hx hb dL_type_13 (by decide) ?_
  exact e_i hF hr (Nat.le_of_ble_eq_true rfl) (Nat.le_of_ble_eq_true rfl) hS (qg_end hS (fun _ => 0) rfl [] hP rfl d_nil) dL_type_14

set_option maxHeartbeats 4000000 in
set_option maxRecDepth 100000 in
theorem c101_X11_in (l : Launch) (p0 : Int32) (f0 : p0 < 32) : CT l (.code yX11_in cX11_in 3 (some .boolean)) yX11_in { frames := 0, cells := 0, slots := 0, locals := 0 } [.int p0, .int 32, .int 126] (fun y => []) (fun _ => []) (fun u => some (.int 0)) (fun y u => []) := by
  refine mkM (by decide) (Nat.le_of_ble_eq_true rfl) ?_
  intro p e s m args below meth c D y A ls hF hr hAe hP hD hS hl
  have hF : FX p e s m args meth c cX11_in 3 RX11 "in" D y A := hF
  obtain ⟨⟨hx, hb, hml, hown, hts⟩, hev, heh, hA, hlk, hnm⟩ := id hF
  have hK := hev.1
  have hP : va_P D vwCl [] s.heap := hP
  have hD : va_D A [] := by rw [← hAe]; exact hD.self
  have hl : lv_has ls 3 [(0, .int p0), (1, .int 32), (2, .int 126)] := hl
  refine lv_iload_n hx hb dX11_in_0 rfl (lv_at hl 0 rfl) ?_
  refine lv_iload_n hx hb dX11_in_1 rfl (lv_at hl 1 rfl) ?_
  refine lv_icmp_lt (tgt := 14) hx hb dX11_in_2 (by decide) (fun _ => ?_) (fun c => absurd f0 c)
  refine lv_iconst (v := 0) hx hb dX11_in_14 (by decide) ?_
  exact e_z hF hr (by decide) (Nat.le_of_ble_eq_true rfl) (Nat.le_of_ble_eq_true rfl) hS (qg_end hS (fun _ => 0) rfl [] hP rfl d_nil) dX11_in_15

set_option maxHeartbeats 4000000 in
set_option maxRecDepth 100000 in
theorem c101_X11_type (l : Launch) (a0 : Nat) (z0 : Nat) (z1 : Nat) (z2 : Nat) (z3 : Nat) (z4 : Nat) (z5 : Nat) (z6 : Nat) (z7 : Nat) (z8 : Nat) (z9 : Nat) (z10 : Nat) (z11 : Nat) (z12 : Nat) (z13 : Nat) (p0 : Int32) (f0 : p0 < 32) : CT l (.code yX11_type cX11_type 2 (some .int)) yX11_type { frames := 1, cells := 0, slots := 0, locals := 23 } [.ref a0, .int p0] (fun y => [(a0, .inr (13, [.ref z0, .ref z1, .ref z2, .ref z3, .ref z4, .ref z5, .int 45, .ref z6, .ref z7, .ref z8, .int 0, .ref z9, .ref z10, .int 0, .int 0, .int 0, .int 0, .ref z11, .int 0, .null, .ref z12, .ref z13]))]) (fun y => [(a0, .inr (13, [.ref z0, .ref z1, .ref z2, .ref z3, .ref z4, .ref z5, .int 45, .ref z6, .ref z7, .ref z8, .int 0, .ref z9, .ref z10, .int 0, .int 0, .int 0, .int 0, .ref z11, .int 0, .null, .ref z12, .ref z13]))]) (fun u => some (.int 0)) (fun y u => [(a0, .inr (13, [.ref z0, .ref z1, .ref z2, .ref z3, .ref z4, .ref z5, .int 45, .ref z6, .ref z7, .ref z8, .int 0, .ref z9, .ref z10, .int 0, .int 0, .int 1, .int 0, .ref z11, .int 0, .null, .ref z12, .ref z13]))]) := by
  refine mkM (by decide) (Nat.le_of_ble_eq_true rfl) ?_
  intro p e s m args below meth c D y A ls hF hr hAe hP hD hS hl
  have hF : FX p e s m args meth c cX11_type 2 RX11 "type" D y A := hF
  obtain ⟨⟨hx, hb, hml, hown, hts⟩, hev, heh, hA, hlk, hnm⟩ := id hF
  have hK := hev.1
  have hP : va_P D vwCl [(a0, .inr (13, [.ref z0, .ref z1, .ref z2, .ref z3, .ref z4, .ref z5, .int 45, .ref z6, .ref z7, .ref z8, .int 0, .ref z9, .ref z10, .int 0, .int 0, .int 0, .int 0, .ref z11, .int 0, .null, .ref z12, .ref z13]))] s.heap := hP
  have hD : va_D A [(a0, .inr (13, [.ref z0, .ref z1, .ref z2, .ref z3, .ref z4, .ref z5, .int 45, .ref z6, .ref z7, .ref z8, .int 0, .ref z9, .ref z10, .int 0, .int 0, .int 0, .int 0, .ref z11, .int 0, .null, .ref z12, .ref z13]))] := by rw [← hAe]; exact hD.self
  have hl : lv_has ls 2 [(0, .ref a0), (1, .int p0)] := hl
  refine lv_aload_n hx hb dX11_type_0 rfl (lv_at hl 0 rfl) ?_
  refine lv_iload_n hx hb dX11_type_1 rfl (lv_at hl 1 rfl) ?_
  refine lv_bipush (v := 32) hx hb dX11_type_2 (by decide) ?_
  refine lv_bipush (v := 126) hx hb dX11_type_4 (by decide) ?_
  refine cS (l := l) (yM := yX11_in) (As := [.int p0, .int 32, .int 126]) (rest := [.ref a0]) (wr := [(a0, .inr (13, [.ref z0, .ref z1, .ref z2, .ref z3, .ref z4, .ref z5, .int 45, .ref z6, .ref z7, .ref z8, .int 0, .ref z9, .ref z10, .int 0, .int 0, .int 0, .int 0, .ref z11, .int 0, .null, .ref z12, .ref z13]))]) hF (c101_X11_in l p0 f0) gs_RX11_78 3 (by decide +kernel) rfl ⟨(Nat.le_of_ble_eq_true rfl), (Nat.le_of_ble_eq_true rfl)⟩ hl.1 rfl (Nat.le_of_ble_eq_true rfl) dX11_type_6 ⟨(Nat.le_of_ble_eq_true rfl), (Nat.le_of_ble_eq_true rfl)⟩ hP hD hS (pA hA hS) (fun _ h => h) [] [] [0] rfl rfl rfl rfl rfl (by decide) (fun u_1 H locs hP hD hS => ?_)
  have hP : va_P D vwCl [(a0, .inr (13, [.ref z0, .ref z1, .ref z2, .ref z3, .ref z4, .ref z5, .int 45, .ref z6, .ref z7, .ref z8, .int 0, .ref z9, .ref z10, .int 0, .int 0, .int 0, .int 0, .ref z11, .int 0, .null, .ref z12, .ref z13]))] H := hP
  have hD : va_D A [(a0, .inr (13, [.ref z0, .ref z1, .ref z2, .ref z3, .ref z4, .ref z5, .int 45, .ref z6, .ref z7, .ref z8, .int 0, .ref z9, .ref z10, .int 0, .int 0, .int 0, .int 0, .ref z11, .int 0, .null, .ref z12, .ref z13]))] := hD
  refine W.widen (k := 0) (n := 0) (Nat.le_of_ble_eq_true rfl) (Nat.le_of_ble_eq_true rfl) ?_
  refine W.eq (g2 := F0 m 9 ls [.int 0, .ref a0]) rfl ?_
  refine lv_if_ne (tgt := 16) hx hb dX11_type_9 (by decide) (fun c => absurd (by decide) c) (fun _ => ?_)
  refine lv_iconst (v := 1) hx hb dX11_type_12 (by decide) ?_
  refine lv_goto (tgt := 17) hx hb dX11_type_13 (by decide) ?_
  refine lv_aload_n hx hb dX11_type_17 rfl (lv_at hl 0 rfl) ?_
  refine va_get (D := D) (ci := 13) (v := .int 0) (C := RX11) (T := TX11) (N := 22) hx hb hts inX11 hown hK hP 0 rfl rfl 13 (by decide) (hts _ wd_294) (fun _ h9 => h9) rfl dX11_type_18 ?_
  refine lv_bipush (v := 60) hx hb dX11_type_21 (by decide) ?_
  refine lv_icmp_ne (tgt := 30) hx hb dX11_type_23 (by decide) (fun _ => ?_) (fun c => absurd c (by decide))
  refine lv_iconst (v := 0) hx hb dX11_type_30 (by decide) ?_
  refine lv_iconst (v := 0) hx hb dX11_type_31 (by decide) ?_
  refine cV (l := l) (yM := yX11_fails) (C := RX11) (As := [.int 1, .int 0, .int 0]) (rest := []) (wr := []) hF (c67_X11_fails l a0 z0 z1 z2 z3 z4 z5 z6 z7 z8 z9 z10 z11 z12 z13) gv_RX11_128 3 (by decide +kernel) rfl ⟨(Nat.le_of_ble_eq_true rfl), (Nat.le_of_ble_eq_true rfl)⟩ hl.1 rfl (Nat.le_of_ble_eq_true rfl) dX11_type_32 ⟨(Nat.le_of_ble_eq_true rfl), (Nat.le_of_ble_eq_true rfl)⟩ hP hD hS (va_free (wc := [(a0, .inr (13, [.ref z0, .ref z1, .ref z2, .ref z3, .ref z4, .ref z5, .int 45, .ref z6, .ref z7, .ref z8, .int 0, .ref z9, .ref z10, .int 0, .int 0, .int 0, .int 0, .ref z11, .int 0, .null, .ref z12, .ref z13]))]) hD hS hA [0] rfl) (fun _ h => h) [0] [0] [] rfl rfl rfl rfl rfl (by decide) 0 (ci := 13) rfl rfl rfl (fun u_2 H locs hP hD hS => ?_)
  have hP : va_P D vwCl [(a0, .inr (13, [.ref z0, .ref z1, .ref z2, .ref z3, .ref z4, .ref z5, .int 45, .ref z6, .ref z7, .ref z8, .int 0, .ref z9, .ref z10, .int 0, .int 0, .int 1, .int 0, .ref z11, .int 0, .null, .ref z12, .ref z13]))] H := hP
  have hD : va_D A [(a0, .inr (13, [.ref z0, .ref z1, .ref z2, .ref z3, .ref z4, .ref z5, .int 45, .ref z6, .ref z7, .ref z8, .int 0, .ref z9, .ref z10, .int 0, .int 0, .int 1, .int 0, .ref z11, .int 0, .null, .ref z12, .ref z13]))] := hD
  refine W.widen (k := 0) (n := 0) (Nat.le_of_ble_eq_true rfl) (Nat.le_of_ble_eq_true rfl) ?_
  refine W.eq (g2 := F0 m 35 ls [.int 1]) rfl ?_
  refine lv_if_eq (tgt := 40) hx hb dX11_type_35 (by decide) (fun c => absurd c (by decide)) (fun _ => ?_)
  refine lv_iconst (v := 0) hx hb dX11_type_38 (by decide) ?_
  exact e_i hF hr (Nat.le_of_ble_eq_true rfl) (Nat.le_of_ble_eq_true rfl) hS (qg_end hS (fun _ => 0) rfl [0] hP rfl (hD.sub [0] rfl rfl)) dX11_type_39

set_option maxHeartbeats 4000000 in
set_option maxRecDepth 100000 in
theorem c103_X8_append (l : Launch) (a0 : Nat) (a1 : Nat) (z0 : Nat) (p0 : Int32) : CT l (.code yX8_append cX8_append 2 none) yX8_append { frames := 0, cells := 0, slots := 0, locals := 0 } [.ref a0, .int p0] (fun y => [(a0, .inr (10, [.int 0, .ref a1, .int 0, .ref z0])), (a1, .inl (y 1, 60, .inl (fun _ => 0)))]) (fun y => [(a0, .inr (10, [.int 0, .ref a1, .int 0, .ref z0])), (a1, .inl (y 1, 60, .inl (fun _ => 0)))]) (fun u => none) (fun y u => [(a0, .inr (10, [.int 1, .ref a1, .int 0, .ref z0]))]) := by
  refine mkM (by decide) (Nat.le_of_ble_eq_true rfl) ?_
  intro p e s m args below meth c D y A ls hF hr hAe hP hD hS hl
  have hF : FX p e s m args meth c cX8_append 2 RX8 "append" D y A := hF
  obtain ⟨⟨hx, hb, hml, hown, hts⟩, hev, heh, hA, hlk, hnm⟩ := id hF
  have hK := hev.1
  have hP : va_P D vwCl [(a0, .inr (10, [.int 0, .ref a1, .int 0, .ref z0])), (a1, .inl (y 1, 60, .inl (fun _ => 0)))] s.heap := hP
  have hD : va_D A [(a0, .inr (10, [.int 0, .ref a1, .int 0, .ref z0])), (a1, .inl (y 1, 60, .inl (fun _ => 0)))] := by rw [← hAe]; exact hD.self
  have hl : lv_has ls 2 [(0, .ref a0), (1, .int p0)] := hl
  refine lv_aload_n hx hb dX8_append_0 rfl (lv_at hl 0 rfl) ?_
  refine va_get (D := D) (ci := 10) (v := .int 0) (C := RX8) (T := TX8) (N := 4) hx hb hts inX8 hown hK hP 0 rfl rfl 0 (by decide) (hts _ wd_299) (fun _ h9 => h9) rfl dX8_append_1 ?_
  refine lv_if_lt (tgt := 36) hx hb dX8_append_4 (by decide) (fun c => absurd c (by decide)) (fun _ => ?_)
  refine lv_aload_n hx hb dX8_append_7 rfl (lv_at hl 0 rfl) ?_
  refine va_get (D := D) (ci := 10) (v := .int 0) (C := RX8) (T := TX8) (N := 4) hx hb hts inX8 hown hK hP 0 rfl rfl 0 (by decide) (hts _ wd_299) (fun _ h9 => h9) rfl dX8_append_8 ?_
  refine lv_bipush (v := 60) hx hb dX8_append_11 (by decide) ?_
  refine lv_icmp_ge (tgt := 36) hx hb dX8_append_13 (by decide) (fun c => absurd c (by decide)) (fun _ => ?_)
  refine lv_aload_n hx hb dX8_append_16 rfl (lv_at hl 0 rfl) ?_
  refine va_get (D := D) (ci := 10) (v := .ref a1) (C := RX8) (T := TX8) (N := 4) hx hb hts inX8 hown hK hP 0 rfl rfl 1 (by decide) (hts _ wd_33) (fun _ h9 => h9) rfl dX8_append_17 ?_
  refine lv_aload_n hx hb dX8_append_20 rfl (lv_at hl 0 rfl) ?_
  refine va_get (D := D) (ci := 10) (v := .int 0) (C := RX8) (T := TX8) (N := 4) hx hb hts inX8 hown hK hP 0 rfl rfl 0 (by decide) (hts _ wd_299) (fun _ h9 => h9) rfl dX8_append_21 ?_
  refine lv_iload_n hx hb dX8_append_24 rfl (lv_at hl 1 rfl) ?_
  refine va_cast hx hb hK hP hD hS 1 1 rfl rfl (vp_in_nI (n := 0) (by decide) (by decide)) dX8_append_25 (fun H locs hP hD hS => ?_)
  have hP := hP.sub (ws' := [(a0, .inr (10, [.int 0, .ref a1, .int 0, .ref z0]))]) [0] rfl
  have hD := hD.sub (ws' := [(a0, .inr (10, [.int 0, .ref a1, .int 0, .ref z0]))]) [0] rfl rfl
  have hP : va_P D vwCl [(a0, .inr (10, [.int 0, .ref a1, .int 0, .ref z0]))] H := hP
  have hD : va_D A [(a0, .inr (10, [.int 0, .ref a1, .int 0, .ref z0]))] := hD
  refine lv_aload_n hx hb dX8_append_26 rfl (lv_at hl 0 rfl) ?_
  refine lv_dup hx hb dX8_append_27 rfl ?_
  refine va_get (D := D) (ci := 10) (v := .int 0) (C := RX8) (T := TX8) (N := 4) hx hb hts inX8 hown hK hP 0 rfl rfl 0 (by decide) (hts _ wd_299) (fun _ h9 => h9) rfl dX8_append_28 ?_
  refine lv_iconst (v := 1) hx hb dX8_append_31 (by decide) ?_
  refine lv_iadd hx hb dX8_append_32 ?_
  refine tp_i (v := 1) (by decide) ?_
  refine va_put (D := D) (ci := 10) (v := .int 1) (ty := .int) (C := RX8) (T := TX8) (N := 4) hx hb hts inX8 tyX8 tyX8_ok nmX8 hown hK hP hD hS 0 rfl rfl 0 (by decide) (hts _ wd_299) (fun _ h9 => h9) rfl (by decide +kernel) rfl rfl (Nat.le_of_ble_eq_true rfl) dX8_append_33 (fun H locs hP hD hS => ?_)
  have hP : va_P D vwCl [(a0, .inr (10, [.int 1, .ref a1, .int 0, .ref z0]))] H := hP
  have hD : va_D A [(a0, .inr (10, [.int 1, .ref a1, .int 0, .ref z0]))] := hD
  exact e_v hF hr (Nat.le_of_ble_eq_true rfl) (Nat.le_of_ble_eq_true rfl) hS (qg_end hS (fun _ => 0) rfl [0] hP rfl (hD.sub [0] rfl rfl)) dX8_append_36

set_option maxHeartbeats 4000000 in
set_option maxRecDepth 100000 in
theorem c103_X10_type (l : Launch) (a0 : Nat) (a1 : Nat) (a2 : Nat) (z0 : Nat) (z1 : Nat) (z2 : Nat) (z3 : Nat) (z4 : Nat) (z5 : Nat) (z6 : Nat) (z7 : Nat) (z8 : Nat) (z9 : Nat) (z10 : Nat) (z11 : Nat) (z12 : Nat) (z13 : Nat) (z14 : Nat) (p0 : Int32) (f0 : ¬ p0 < 32) (f1 : p0 ≤ 126) : CT l (.code yX10_type cX10_type 2 (some .int)) yX10_type { frames := 1, cells := 0, slots := 0, locals := 21 } [.ref a0, .int p0] (fun y => [(a0, .inr (12, [.ref z0, .ref z1, .ref z2, .ref a1, .ref z3, .ref z4, .ref z5, .ref z6, .ref z7, .ref z8, .ref z9, .ref z10, .ref z11, .ref z12, .ref z13])), (a1, .inr (10, [.int 0, .ref a2, .int 0, .ref z14])), (a2, .inl (y 1, 60, .inl (fun _ => 0)))]) (fun y => [(a0, .inr (12, [.ref z0, .ref z1, .ref z2, .ref a1, .ref z3, .ref z4, .ref z5, .ref z6, .ref z7, .ref z8, .ref z9, .ref z10, .ref z11, .ref z12, .ref z13])), (a1, .inr (10, [.int 0, .ref a2, .int 0, .ref z14])), (a2, .inl (y 1, 60, .inl (fun _ => 0)))]) (fun u => some (.int 1)) (fun y u => [(a0, .inr (12, [.ref z0, .ref z1, .ref z2, .ref a1, .ref z3, .ref z4, .ref z5, .ref z6, .ref z7, .ref z8, .ref z9, .ref z10, .ref z11, .ref z12, .ref z13])), (a1, .inr (10, [.int 1, .ref a2, .int 0, .ref z14]))]) := by
  refine mkM (by decide) (Nat.le_of_ble_eq_true rfl) ?_
  intro p e s m args below meth c D y A ls hF hr hAe hP hD hS hl
  have hF : FX p e s m args meth c cX10_type 2 RX10 "type" D y A := hF
  obtain ⟨⟨hx, hb, hml, hown, hts⟩, hev, heh, hA, hlk, hnm⟩ := id hF
  have hK := hev.1
  have hP : va_P D vwCl [(a0, .inr (12, [.ref z0, .ref z1, .ref z2, .ref a1, .ref z3, .ref z4, .ref z5, .ref z6, .ref z7, .ref z8, .ref z9, .ref z10, .ref z11, .ref z12, .ref z13])), (a1, .inr (10, [.int 0, .ref a2, .int 0, .ref z14])), (a2, .inl (y 1, 60, .inl (fun _ => 0)))] s.heap := hP
  have hD : va_D A [(a0, .inr (12, [.ref z0, .ref z1, .ref z2, .ref a1, .ref z3, .ref z4, .ref z5, .ref z6, .ref z7, .ref z8, .ref z9, .ref z10, .ref z11, .ref z12, .ref z13])), (a1, .inr (10, [.int 0, .ref a2, .int 0, .ref z14])), (a2, .inl (y 1, 60, .inl (fun _ => 0)))] := by rw [← hAe]; exact hD.self
  have hl : lv_has ls 2 [(0, .ref a0), (1, .int p0)] := hl
  refine lv_iload_n hx hb dX10_type_0 rfl (lv_at hl 1 rfl) ?_
  refine lv_bipush (v := 32) hx hb dX10_type_1 (by decide) ?_
  refine lv_icmp_lt (tgt := 12) hx hb dX10_type_3 (by decide) (fun c => absurd c f0) (fun _ => ?_)
  refine lv_iload_n hx hb dX10_type_6 rfl (lv_at hl 1 rfl) ?_
  refine lv_bipush (v := 126) hx hb dX10_type_7 (by decide) ?_
  refine lv_icmp_le (tgt := 22) hx hb dX10_type_9 (by decide) (fun _ => ?_) (fun c => absurd f1 c)
  refine lv_aload_n hx hb dX10_type_22 rfl (lv_at hl 0 rfl) ?_
  refine va_get (D := D) (ci := 12) (v := .ref a1) (C := RX10) (T := TX10) (N := 15) hx hb hts inX10 hown hK hP 0 rfl rfl 3 (by decide) (hts _ wd_37) (fun _ h9 => h9) rfl dX10_type_23 ?_
  refine va_getN (D := D) (ci := 10) (v := .int 0) (C := RX8) (T := TX8) (N := 4) hx hb hts inX8 hown hK hP 1 rfl rfl 0 (by decide) (va_Nw.use (A := args) rfl (hev.2.1 (RX10, 140, RX8, "size", "I") (List.mem_of_getElem? (i := 13) rfl))) (fun _ h9 => h9) rfl dX10_type_26 ?_
  refine lv_bipush (v := 60) hx hb dX10_type_29 (by decide) ?_
  refine lv_icmp_lt (tgt := 44) hx hb dX10_type_31 (by decide) (fun _ => ?_) (fun c => absurd (by decide) c)
  refine lv_aload_n hx hb dX10_type_44 rfl (lv_at hl 0 rfl) ?_
  refine va_get (D := D) (ci := 12) (v := .ref a1) (C := RX10) (T := TX10) (N := 15) hx hb hts inX10 hown hK hP 0 rfl rfl 3 (by decide) (hts _ wd_37) (fun _ h9 => h9) rfl dX10_type_45 ?_
  refine lv_iload_n hx hb dX10_type_48 rfl (lv_at hl 1 rfl) ?_
  refine cV (l := l) (yM := yX8_append) (C := RX8) (As := [.int p0]) (rest := []) (wr := [(a0, .inr (12, [.ref z0, .ref z1, .ref z2, .ref a1, .ref z3, .ref z4, .ref z5, .ref z6, .ref z7, .ref z8, .ref z9, .ref z10, .ref z11, .ref z12, .ref z13]))]) hF (c103_X8_append l a1 a2 z14 p0) gv_RX10_145 1 (by decide +kernel) rfl ⟨(Nat.le_of_ble_eq_true rfl), (Nat.le_of_ble_eq_true rfl)⟩ hl.1 rfl (Nat.le_of_ble_eq_true rfl) dX10_type_49 ⟨(Nat.le_of_ble_eq_true rfl), (Nat.le_of_ble_eq_true rfl)⟩ hP hD hS (va_free (wc := [(a1, .inr (10, [.int 0, .ref a2, .int 0, .ref z14])), (a2, .inl (y 1, 60, .inl (fun _ => 0)))]) hD hS hA [1, 2] rfl) (fun _ h => h) [1, 2] [1, 2] [0] rfl rfl rfl rfl rfl (by decide) 1 (ci := 10) rfl rfl rfl (fun u_1 H locs hP hD hS => ?_)
  have hP : va_P D vwCl [(a0, .inr (12, [.ref z0, .ref z1, .ref z2, .ref a1, .ref z3, .ref z4, .ref z5, .ref z6, .ref z7, .ref z8, .ref z9, .ref z10, .ref z11, .ref z12, .ref z13])), (a1, .inr (10, [.int 1, .ref a2, .int 0, .ref z14]))] H := hP
  have hD : va_D A [(a0, .inr (12, [.ref z0, .ref z1, .ref z2, .ref a1, .ref z3, .ref z4, .ref z5, .ref z6, .ref z7, .ref z8, .ref z9, .ref z10, .ref z11, .ref z12, .ref z13])), (a1, .inr (10, [.int 1, .ref a2, .int 0, .ref z14]))] := hD
  refine W.widen (k := 0) (n := 0) (Nat.le_of_ble_eq_true rfl) (Nat.le_of_ble_eq_true rfl) ?_
  refine W.eq (g2 := F0 m 52 ls []) rfl ?_
  refine lv_aload_n hx hb dX10_type_52 rfl (lv_at hl 0 rfl) ?_
  refine va_get (D := D) (ci := 12) (v := .ref a1) (C := RX10) (T := TX10) (N := 15) hx hb hts inX10 hown hK hP 0 rfl rfl 3 (by decide) (hts _ wd_37) (fun _ h9 => h9) rfl dX10_type_53 ?_
  refine va_getN (D := D) (ci := 10) (v := .int 1) (C := RX8) (T := TX8) (N := 4) hx hb hts inX8 hown hK hP 1 rfl rfl 0 (by decide) (va_Nw.use (A := args) rfl (hev.2.1 (RX10, 140, RX8, "size", "I") (List.mem_of_getElem? (i := 13) rfl))) (fun _ h9 => h9) rfl dX10_type_56 ?_
  exact e_i hF hr (Nat.le_of_ble_eq_true rfl) (Nat.le_of_ble_eq_true rfl) hS (qg_end hS (fun _ => 0) rfl [0, 1] hP rfl (hD.sub [0, 1] rfl rfl)) dX10_type_59

set_option maxHeartbeats 4000000 in
set_option maxRecDepth 100000 in
theorem c103_L_type (l : Launch) (a0 : Nat) (a1 : Nat) (a2 : Nat) (a3 : Nat) (z0 : Nat) (z1 : Nat) (z2 : Nat) (z3 : Nat) (z4 : Nat) (z5 : Nat) (z6 : Nat) (z7 : Nat) (z8 : Nat) (z9 : Nat) (z10 : Nat) (z11 : Nat) (z12 : Nat) (z13 : Nat) (z14 : Nat) (p0 : Int32) (f0 : ¬ p0 < 32) (f1 : p0 ≤ 126) : CT l (.codeWith yL_type cL_type 4 (some .int) [(0, 9, 12, 13), (0, 9, 15, 15)]) yL_type { frames := 2, cells := 0, slots := 0, locals := 42 } [.ref a0, .int p0, .ref a3] (fun y => [(a0, .inr (12, [.ref z0, .ref z1, .ref z2, .ref a1, .ref z3, .ref z4, .ref z5, .ref z6, .ref z7, .ref z8, .ref z9, .ref z10, .ref z11, .ref z12, .ref z13])), (a1, .inr (10, [.int 0, .ref a2, .int 0, .ref z14])), (a2, .inl (y 1, 60, .inl (fun _ => 0))), (a3, .inl (y 2, 1, .inr (.inl (fun _ => 0))))]) (fun y => [(a0, .inr (12, [.ref z0, .ref z1, .ref z2, .ref a1, .ref z3, .ref z4, .ref z5, .ref z6, .ref z7, .ref z8, .ref z9, .ref z10, .ref z11, .ref z12, .ref z13])), (a1, .inr (10, [.int 0, .ref a2, .int 0, .ref z14])), (a2, .inl (y 1, 60, .inl (fun _ => 0))), (a3, .inl (y 2, 1, .inr (.inl (fun _ => 0))))]) (fun u => some (.int 0)) (fun y u => [(a0, .inr (12, [.ref z0, .ref z1, .ref z2, .ref a1, .ref z3, .ref z4, .ref z5, .ref z6, .ref z7, .ref z8, .ref z9, .ref z10, .ref z11, .ref z12, .ref z13])), (a1, .inr (10, [.int 1, .ref a2, .int 0, .ref z14])), (a3, .inl (y 2, 1, .inr (.inl (fun _ => 1))))]) := by
  refine mkH (by decide) (Nat.le_of_ble_eq_true rfl) ?_
  intro p e s m args below meth c D y A ls hF htab hr hAe hP hD hS hl
  have hF : FX p e s m args meth c cL_type 4 RL "type" D y A := hF
  obtain ⟨⟨hx, hb, hml, hown, hts⟩, hev, heh, hA, hlk, hnm⟩ := id hF
  have hK := hev.1
  have hP : va_P D vwCl [(a0, .inr (12, [.ref z0, .ref z1, .ref z2, .ref a1, .ref z3, .ref z4, .ref z5, .ref z6, .ref z7, .ref z8, .ref z9, .ref z10, .ref z11, .ref z12, .ref z13])), (a1, .inr (10, [.int 0, .ref a2, .int 0, .ref z14])), (a2, .inl (y 1, 60, .inl (fun _ => 0))), (a3, .inl (y 2, 1, .inr (.inl (fun _ => 0))))] s.heap := hP
  have hD : va_D A [(a0, .inr (12, [.ref z0, .ref z1, .ref z2, .ref a1, .ref z3, .ref z4, .ref z5, .ref z6, .ref z7, .ref z8, .ref z9, .ref z10, .ref z11, .ref z12, .ref z13])), (a1, .inr (10, [.int 0, .ref a2, .int 0, .ref z14])), (a2, .inl (y 1, 60, .inl (fun _ => 0))), (a3, .inl (y 2, 1, .inr (.inl (fun _ => 0))))] := by rw [← hAe]; exact hD.self
  have hl : lv_has ls 4 [(0, .ref a0), (1, .int p0), (2, .ref a3)] := hl
  refine lv_aload_n hx hb dL_type_0 rfl (lv_at hl 2 rfl) ?_
  refine lv_iconst (v := 0) hx hb dL_type_1 (by decide) ?_
  refine lv_aload_n hx hb dL_type_2 rfl (lv_at hl 0 rfl) ?_
  refine lv_iload_n hx hb dL_type_3 rfl (lv_at hl 1 rfl) ?_
  refine cV (l := l) (yM := yX10_type) (C := RX10) (As := [.int p0]) (rest := [.int 0, .ref a3]) (wr := [(a3, .inl (y 2, 1, .inr (.inl (fun _ => 0))))]) hF (c103_X10_type l a0 a1 a2 z0 z1 z2 z3 z4 z5 z6 z7 z8 z9 z10 z11 z12 z13 z14 p0 f0 f1) gv_RL_29 1 (by decide +kernel) rfl ⟨(Nat.le_of_ble_eq_true rfl), (Nat.le_of_ble_eq_true rfl)⟩ hl.1 rfl (Nat.le_of_ble_eq_true rfl) dL_type_4 ⟨(Nat.le_of_ble_eq_true rfl), (Nat.le_of_ble_eq_true rfl)⟩ hP hD hS (va_free (wc := [(a0, .inr (12, [.ref z0, .ref z1, .ref z2, .ref a1, .ref z3, .ref z4, .ref z5, .ref z6, .ref z7, .ref z8, .ref z9, .ref z10, .ref z11, .ref z12, .ref z13])), (a1, .inr (10, [.int 0, .ref a2, .int 0, .ref z14])), (a2, .inl (y 1, 60, .inl (fun _ => 0)))]) hD hS hA [0, 1, 2] rfl) (fun _ h => h) [0, 1, 2] [0, 1, 2] [3] rfl rfl rfl rfl rfl (by decide) 0 (ci := 12) rfl rfl rfl (fun u_1 H locs hP hD hS => ?_)
  have hP : va_P D vwCl [(a3, .inl (y 2, 1, .inr (.inl (fun _ => 0)))), (a0, .inr (12, [.ref z0, .ref z1, .ref z2, .ref a1, .ref z3, .ref z4, .ref z5, .ref z6, .ref z7, .ref z8, .ref z9, .ref z10, .ref z11, .ref z12, .ref z13])), (a1, .inr (10, [.int 1, .ref a2, .int 0, .ref z14]))] H := hP
  have hD : va_D A [(a3, .inl (y 2, 1, .inr (.inl (fun _ => 0)))), (a0, .inr (12, [.ref z0, .ref z1, .ref z2, .ref a1, .ref z3, .ref z4, .ref z5, .ref z6, .ref z7, .ref z8, .ref z9, .ref z10, .ref z11, .ref z12, .ref z13])), (a1, .inr (10, [.int 1, .ref a2, .int 0, .ref z14]))] := hD
  refine W.widen (k := 0) (n := 0) (Nat.le_of_ble_eq_true rfl) (Nat.le_of_ble_eq_true rfl) ?_
  refine W.eq (g2 := F0 m 7 ls [.int 1, .int 0, .ref a3]) rfl ?_
  refine lv_i2l (v := 1) hx hb dL_type_7 (by decide) ?_
  refine va_last hx hb hK hP hD hS 0 2 rfl rfl (vp_in_nI (n := 0) (by decide) (by decide)) dL_type_8 (fun H locs hP hD hS => ?_)
  have hP : va_P D vwCl [(a3, .inl (y 2, 1, .inr (.inl (vp_updL (fun _ => 0) 0 1)))), (a0, .inr (12, [.ref z0, .ref z1, .ref z2, .ref a1, .ref z3, .ref z4, .ref z5, .ref z6, .ref z7, .ref z8, .ref z9, .ref z10, .ref z11, .ref z12, .ref z13])), (a1, .inr (10, [.int 1, .ref a2, .int 0, .ref z14]))] H := hP
  have hD : va_D A [(a3, .inl (y 2, 1, .inr (.inl (vp_updL (fun _ => 0) 0 1)))), (a0, .inr (12, [.ref z0, .ref z1, .ref z2, .ref a1, .ref z3, .ref z4, .ref z5, .ref z6, .ref z7, .ref z8, .ref z9, .ref z10, .ref z11, .ref z12, .ref z13])), (a1, .inr (10, [.int 1, .ref a2, .int 0, .ref z14]))] := hD
  refine lv_goto (tgt := 18) hx hb dL_type_9 (by decide) ?_
  refine lv_iconst (v := 0) hx hb dL_type_18 (by decide) ?_
  obtain ⟨hP, hD⟩ := same_l (g := (fun _ => 1)) hP hD 0 rfl (fun j hj => by have h9 : j < 1 := hj; rcases (show j = 0 by omega) with rfl <;> rfl)
  have hP : va_P D vwCl [(a3, .inl (y 2, 1, .inr (.inl (fun _ => 1)))), (a0, .inr (12, [.ref z0, .ref z1, .ref z2, .ref a1, .ref z3, .ref z4, .ref z5, .ref z6, .ref z7, .ref z8, .ref z9, .ref z10, .ref z11, .ref z12, .ref z13])), (a1, .inr (10, [.int 1, .ref a2, .int 0, .ref z14]))] _ := hP
  have hD : va_D A [(a3, .inl (y 2, 1, .inr (.inl (fun _ => 1)))), (a0, .inr (12, [.ref z0, .ref z1, .ref z2, .ref a1, .ref z3, .ref z4, .ref z5, .ref z6, .ref z7, .ref z8, .ref z9, .ref z10, .ref z11, .ref z12, .ref z13])), (a1, .inr (10, [.int 1, .ref a2, .int 0, .ref z14]))] := hD
  exact e_i hF hr (Nat.le_of_ble_eq_true rfl) (Nat.le_of_ble_eq_true rfl) hS (qg_end hS (fun _ => 0) rfl [1, 2, 0] hP rfl (hD.sub [1, 2, 0] rfl rfl)) dL_type_19

set_option maxHeartbeats 4000000 in
set_option maxRecDepth 100000 in
theorem c106_X11_in (l : Launch) (p0 : Int32) (f0 : ¬ p0 < 32) (f1 : p0 ≤ 126) : CT l (.code yX11_in cX11_in 3 (some .boolean)) yX11_in { frames := 0, cells := 0, slots := 0, locals := 0 } [.int p0, .int 32, .int 126] (fun y => []) (fun _ => []) (fun u => some (.int 1)) (fun y u => []) := by
  refine mkM (by decide) (Nat.le_of_ble_eq_true rfl) ?_
  intro p e s m args below meth c D y A ls hF hr hAe hP hD hS hl
  have hF : FX p e s m args meth c cX11_in 3 RX11 "in" D y A := hF
  obtain ⟨⟨hx, hb, hml, hown, hts⟩, hev, heh, hA, hlk, hnm⟩ := id hF
  have hK := hev.1
  have hP : va_P D vwCl [] s.heap := hP
  have hD : va_D A [] := by rw [← hAe]; exact hD.self
  have hl : lv_has ls 3 [(0, .int p0), (1, .int 32), (2, .int 126)] := hl
  refine lv_iload_n hx hb dX11_in_0 rfl (lv_at hl 0 rfl) ?_
  refine lv_iload_n hx hb dX11_in_1 rfl (lv_at hl 1 rfl) ?_
  refine lv_icmp_lt (tgt := 14) hx hb dX11_in_2 (by decide) (fun c => absurd c f0) (fun _ => ?_)
  refine lv_iload_n hx hb dX11_in_5 rfl (lv_at hl 0 rfl) ?_
  refine lv_iload_n hx hb dX11_in_6 rfl (lv_at hl 2 rfl) ?_
  refine lv_icmp_gt (tgt := 14) hx hb dX11_in_7 (by decide) (fun c => absurd c (by have e0 : (126 : Int32).toInt = 126 := (by decide); have e1 : (32 : Int32).toInt = 32 := (by decide); have h9 := And.intro f0 f1; simp only [Int32.lt_iff_toInt_lt, Int32.le_iff_toInt_le, ← Int32.toInt_inj, e0, e1] at h9 ⊢; omega)) (fun _ => ?_)
  refine lv_iconst (v := 1) hx hb dX11_in_10 (by decide) ?_
  refine lv_goto (tgt := 15) hx hb dX11_in_11 (by decide) ?_
  exact e_z hF hr (by decide) (Nat.le_of_ble_eq_true rfl) (Nat.le_of_ble_eq_true rfl) hS (qg_end hS (fun _ => 0) rfl [] hP rfl d_nil) dX11_in_15

set_option maxHeartbeats 4000000 in
set_option maxRecDepth 100000 in
theorem c106_X11_type (l : Launch) (a0 : Nat) (a1 : Nat) (z0 : Nat) (z1 : Nat) (z2 : Nat) (z3 : Nat) (z4 : Nat) (z5 : Nat) (z6 : Nat) (z7 : Nat) (z8 : Nat) (z9 : Nat) (z10 : Nat) (z11 : Nat) (z12 : Nat) (p0 : Int32) (f0 : ¬ p0 < 32) (f1 : p0 ≤ 126) : CT l (.code yX11_type cX11_type 2 (some .int)) yX11_type { frames := 1, cells := 0, slots := 0, locals := 23 } [.ref a0, .int p0] (fun y => [(a0, .inr (13, [.ref z0, .ref z1, .ref z2, .ref z3, .ref z4, .ref z5, .int 45, .ref z6, .ref z7, .ref z8, .int 0, .ref z9, .ref a1, .int 0, .int 0, .int 0, .int 0, .ref z10, .int 0, .null, .ref z11, .ref z12])), (a1, .inl (y 1, 60, .inl (fun _ => 0)))]) (fun y => [(a0, .inr (13, [.ref z0, .ref z1, .ref z2, .ref z3, .ref z4, .ref z5, .int 45, .ref z6, .ref z7, .ref z8, .int 0, .ref z9, .ref a1, .int 0, .int 0, .int 0, .int 0, .ref z10, .int 0, .null, .ref z11, .ref z12])), (a1, .inl (y 1, 60, .inl (fun _ => 0)))]) (fun u => some (.int 1)) (fun y u => [(a0, .inr (13, [.ref z0, .ref z1, .ref z2, .ref z3, .ref z4, .ref z5, .int 45, .ref z6, .ref z7, .ref z8, .int 0, .ref z9, .ref a1, .int 1, .int 0, .int 0, .int 0, .ref z10, .int 0, .null, .ref z11, .ref z12]))]) := by
  refine mkM (by decide) (Nat.le_of_ble_eq_true rfl) ?_
  intro p e s m args below meth c D y A ls hF hr hAe hP hD hS hl
  have hF : FX p e s m args meth c cX11_type 2 RX11 "type" D y A := hF
  obtain ⟨⟨hx, hb, hml, hown, hts⟩, hev, heh, hA, hlk, hnm⟩ := id hF
  have hK := hev.1
  have hP : va_P D vwCl [(a0, .inr (13, [.ref z0, .ref z1, .ref z2, .ref z3, .ref z4, .ref z5, .int 45, .ref z6, .ref z7, .ref z8, .int 0, .ref z9, .ref a1, .int 0, .int 0, .int 0, .int 0, .ref z10, .int 0, .null, .ref z11, .ref z12])), (a1, .inl (y 1, 60, .inl (fun _ => 0)))] s.heap := hP
  have hD : va_D A [(a0, .inr (13, [.ref z0, .ref z1, .ref z2, .ref z3, .ref z4, .ref z5, .int 45, .ref z6, .ref z7, .ref z8, .int 0, .ref z9, .ref a1, .int 0, .int 0, .int 0, .int 0, .ref z10, .int 0, .null, .ref z11, .ref z12])), (a1, .inl (y 1, 60, .inl (fun _ => 0)))] := by rw [← hAe]; exact hD.self
  have hl : lv_has ls 2 [(0, .ref a0), (1, .int p0)] := hl
  refine lv_aload_n hx hb dX11_type_0 rfl (lv_at hl 0 rfl) ?_
  refine lv_iload_n hx hb dX11_type_1 rfl (lv_at hl 1 rfl) ?_
  refine lv_bipush (v := 32) hx hb dX11_type_2 (by decide) ?_
  refine lv_bipush (v := 126) hx hb dX11_type_4 (by decide) ?_
  refine cS (l := l) (yM := yX11_in) (As := [.int p0, .int 32, .int 126]) (rest := [.ref a0]) (wr := [(a0, .inr (13, [.ref z0, .ref z1, .ref z2, .ref z3, .ref z4, .ref z5, .int 45, .ref z6, .ref z7, .ref z8, .int 0, .ref z9, .ref a1, .int 0, .int 0, .int 0, .int 0, .ref z10, .int 0, .null, .ref z11, .ref z12])), (a1, .inl (y 1, 60, .inl (fun _ => 0)))]) hF (c106_X11_in l p0 f0 f1) gs_RX11_78 3 (by decide +kernel) rfl ⟨(Nat.le_of_ble_eq_true rfl), (Nat.le_of_ble_eq_true rfl)⟩ hl.1 rfl (Nat.le_of_ble_eq_true rfl) dX11_type_6 ⟨(Nat.le_of_ble_eq_true rfl), (Nat.le_of_ble_eq_true rfl)⟩ hP hD hS (pA hA hS) (fun _ h => h) [] [] [0, 1] rfl rfl rfl rfl rfl (by decide) (fun u_1 H locs hP hD hS => ?_)
  have hP : va_P D vwCl [(a0, .inr (13, [.ref z0, .ref z1, .ref z2, .ref z3, .ref z4, .ref z5, .int 45, .ref z6, .ref z7, .ref z8, .int 0, .ref z9, .ref a1, .int 0, .int 0, .int 0, .int 0, .ref z10, .int 0, .null, .ref z11, .ref z12])), (a1, .inl (y 1, 60, .inl (fun _ => 0)))] H := hP
  have hD : va_D A [(a0, .inr (13, [.ref z0, .ref z1, .ref z2, .ref z3, .ref z4, .ref z5, .int 45, .ref z6, .ref z7, .ref z8, .int 0, .ref z9, .ref a1, .int 0, .int 0, .int 0, .int 0, .ref z10, .int 0, .null, .ref z11, .ref z12])), (a1, .inl (y 1, 60, .inl (fun _ => 0)))] := hD
  refine W.widen (k := 0) (n := 0) (Nat.le_of_ble_eq_true rfl) (Nat.le_of_ble_eq_true rfl) ?_
  refine W.eq (g2 := F0 m 9 ls [.int 1, .ref a0]) rfl ?_
  refine lv_if_ne (tgt := 16) hx hb dX11_type_9 (by decide) (fun _ => ?_) (fun c => absurd c (by decide))
  refine lv_iconst (v := 0) hx hb dX11_type_16 (by decide) ?_
  refine lv_aload_n hx hb dX11_type_17 rfl (lv_at hl 0 rfl) ?_
  refine va_get (D := D) (ci := 13) (v := .int 0) (C := RX11) (T := TX11) (N := 22) hx hb hts inX11 hown hK hP 0 rfl rfl 13 (by decide) (hts _ wd_294) (fun _ h9 => h9) rfl dX11_type_18 ?_
  refine lv_bipush (v := 60) hx hb dX11_type_21 (by decide) ?_
  refine lv_icmp_ne (tgt := 30) hx hb dX11_type_23 (by decide) (fun _ => ?_) (fun c => absurd c (by decide))
  refine lv_iconst (v := 0) hx hb dX11_type_30 (by decide) ?_
  refine lv_iconst (v := 0) hx hb dX11_type_31 (by decide) ?_
  refine cV (l := l) (yM := yX11_fails) (C := RX11) (As := [.int 0, .int 0, .int 0]) (rest := []) (wr := [(a1, .inl (y 1, 60, .inl (fun _ => 0)))]) hF (c32_X11_fails l a0 z0 z1 z2 z3 z4 z5 z6 z7 z8 z9 a1 z10 z11 z12) gv_RX11_128 3 (by decide +kernel) rfl ⟨(Nat.le_of_ble_eq_true rfl), (Nat.le_of_ble_eq_true rfl)⟩ hl.1 rfl (Nat.le_of_ble_eq_true rfl) dX11_type_32 ⟨(Nat.le_of_ble_eq_true rfl), (Nat.le_of_ble_eq_true rfl)⟩ hP hD hS (va_free (wc := [(a0, .inr (13, [.ref z0, .ref z1, .ref z2, .ref z3, .ref z4, .ref z5, .int 45, .ref z6, .ref z7, .ref z8, .int 0, .ref z9, .ref a1, .int 0, .int 0, .int 0, .int 0, .ref z10, .int 0, .null, .ref z11, .ref z12]))]) hD hS hA [0] rfl) (fun _ h => h) [0] [0] [1] rfl rfl rfl rfl rfl (by decide) 0 (ci := 13) rfl rfl rfl (fun u_2 H locs hP hD hS => ?_)
  have hP : va_P D vwCl [(a1, .inl (y 1, 60, .inl (fun _ => 0))), (a0, .inr (13, [.ref z0, .ref z1, .ref z2, .ref z3, .ref z4, .ref z5, .int 45, .ref z6, .ref z7, .ref z8, .int 0, .ref z9, .ref a1, .int 0, .int 0, .int 0, .int 0, .ref z10, .int 0, .null, .ref z11, .ref z12]))] H := hP
  have hD : va_D A [(a1, .inl (y 1, 60, .inl (fun _ => 0))), (a0, .inr (13, [.ref z0, .ref z1, .ref z2, .ref z3, .ref z4, .ref z5, .int 45, .ref z6, .ref z7, .ref z8, .int 0, .ref z9, .ref a1, .int 0, .int 0, .int 0, .int 0, .ref z10, .int 0, .null, .ref z11, .ref z12]))] := hD
  refine W.widen (k := 0) (n := 0) (Nat.le_of_ble_eq_true rfl) (Nat.le_of_ble_eq_true rfl) ?_
  refine W.eq (g2 := F0 m 35 ls [.int 0]) rfl ?_
  refine lv_if_eq (tgt := 40) hx hb dX11_type_35 (by decide) (fun _ => ?_) (fun c => absurd (by decide) c)
  refine lv_aload_n hx hb dX11_type_40 rfl (lv_at hl 0 rfl) ?_
  refine va_get (D := D) (ci := 13) (v := .ref a1) (C := RX11) (T := TX11) (N := 22) hx hb hts inX11 hown hK hP 1 rfl rfl 12 (by decide) (hts _ wd_132) (fun _ h9 => h9) rfl dX11_type_41 ?_
  refine lv_aload_n hx hb dX11_type_44 rfl (lv_at hl 0 rfl) ?_
  refine va_get (D := D) (ci := 13) (v := .int 0) (C := RX11) (T := TX11) (N := 22) hx hb hts inX11 hown hK hP 1 rfl rfl 13 (by decide) (hts _ wd_294) (fun _ h9 => h9) rfl dX11_type_45 ?_
  refine lv_iload_n hx hb dX11_type_48 rfl (lv_at hl 1 rfl) ?_
  refine va_cast hx hb hK hP hD hS 0 1 rfl rfl (vp_in_nI (n := 0) (by decide) (by decide)) dX11_type_49 (fun H locs hP hD hS => ?_)
  have hP := hP.sub (ws' := [(a0, .inr (13, [.ref z0, .ref z1, .ref z2, .ref z3, .ref z4, .ref z5, .int 45, .ref z6, .ref z7, .ref z8, .int 0, .ref z9, .ref a1, .int 0, .int 0, .int 0, .int 0, .ref z10, .int 0, .null, .ref z11, .ref z12]))]) [1] rfl
  have hD := hD.sub (ws' := [(a0, .inr (13, [.ref z0, .ref z1, .ref z2, .ref z3, .ref z4, .ref z5, .int 45, .ref z6, .ref z7, .ref z8, .int 0, .ref z9, .ref a1, .int 0, .int 0, .int 0, .int 0, .ref z10, .int 0, .null, .ref z11, .ref z12]))]) [1] rfl rfl
  have hP : va_P D vwCl [(a0, .inr (13, [.ref z0, .ref z1, .ref z2, .ref z3, .ref z4, .ref z5, .int 45, .ref z6, .ref z7, .ref z8, .int 0, .ref z9, .ref a1, .int 0, .int 0, .int 0, .int 0, .ref z10, .int 0, .null, .ref z11, .ref z12]))] H := hP
  have hD : va_D A [(a0, .inr (13, [.ref z0, .ref z1, .ref z2, .ref z3, .ref z4, .ref z5, .int 45, .ref z6, .ref z7, .ref z8, .int 0, .ref z9, .ref a1, .int 0, .int 0, .int 0, .int 0, .ref z10, .int 0, .null, .ref z11, .ref z12]))] := hD
  refine lv_aload_n hx hb dX11_type_50 rfl (lv_at hl 0 rfl) ?_
  refine lv_dup hx hb dX11_type_51 rfl ?_
  refine va_get (D := D) (ci := 13) (v := .int 0) (C := RX11) (T := TX11) (N := 22) hx hb hts inX11 hown hK hP 0 rfl rfl 13 (by decide) (hts _ wd_294) (fun _ h9 => h9) rfl dX11_type_52 ?_
  refine lv_iconst (v := 1) hx hb dX11_type_55 (by decide) ?_
  refine lv_iadd hx hb dX11_type_56 ?_
  refine tp_i (v := 1) (by decide) ?_
  refine va_put (D := D) (ci := 13) (v := .int 1) (ty := .int) (C := RX11) (T := TX11) (N := 22) hx hb hts inX11 tyX11 tyX11_ok nmX11 hown hK hP hD hS 0 rfl rfl 13 (by decide) (hts _ wd_294) (fun _ h9 => h9) rfl (by decide +kernel) rfl rfl (Nat.le_of_ble_eq_true rfl) dX11_type_57 (fun H locs hP hD hS => ?_)
  have hP : va_P D vwCl [(a0, .inr (13, [.ref z0, .ref z1, .ref z2, .ref z3, .ref z4, .ref z5, .int 45, .ref z6, .ref z7, .ref z8, .int 0, .ref z9, .ref a1, .int 1, .int 0, .int 0, .int 0, .ref z10, .int 0, .null, .ref z11, .ref z12]))] H := hP
  have hD : va_D A [(a0, .inr (13, [.ref z0, .ref z1, .ref z2, .ref z3, .ref z4, .ref z5, .int 45, .ref z6, .ref z7, .ref z8, .int 0, .ref z9, .ref a1, .int 1, .int 0, .int 0, .int 0, .ref z10, .int 0, .null, .ref z11, .ref z12]))] := hD
  refine lv_aload_n hx hb dX11_type_60 rfl (lv_at hl 0 rfl) ?_
  refine va_get (D := D) (ci := 13) (v := .int 1) (C := RX11) (T := TX11) (N := 22) hx hb hts inX11 hown hK hP 0 rfl rfl 13 (by decide) (hts _ wd_294) (fun _ h9 => h9) rfl dX11_type_61 ?_
  exact e_i hF hr (Nat.le_of_ble_eq_true rfl) (Nat.le_of_ble_eq_true rfl) hS (qg_end hS (fun _ => 0) rfl [0] hP rfl (hD.sub [0] rfl rfl)) dX11_type_64

set_option maxHeartbeats 4000000 in
set_option maxRecDepth 100000 in
theorem c108_X11_thrown (l : Launch) (a0 : Nat) (z0 : Nat) (z1 : Nat) (z2 : Nat) (z3 : Nat) (z4 : Nat) (z5 : Nat) (z6 : Nat) (z7 : Nat) (z8 : Nat) (z9 : Nat) (z10 : Nat) (z11 : Nat) (z12 : Nat) (z13 : Nat) : CT l (.code yX11_thrown cX11_thrown 1 (some .int)) yX11_thrown { frames := 0, cells := 0, slots := 0, locals := 0 } [.ref a0] (fun y => [(a0, .inr (13, [.ref z0, .ref z1, .ref z2, .ref z3, .ref z4, .ref z5, .int 45, .ref z6, .ref z7, .ref z8, .int 0, .ref z9, .ref z10, .int 1, .int 0, .int 0, .int 0, .ref z11, .int 0, .null, .ref z12, .ref z13]))]) (fun _ => []) (fun u => some (.int 0)) (fun y u => []) := by
  refine mkM (by decide) (Nat.le_of_ble_eq_true rfl) ?_
  intro p e s m args below meth c D y A ls hF hr hAe hP hD hS hl
  have hF : FX p e s m args meth c cX11_thrown 1 RX11 "thrown" D y A := hF
  obtain ⟨⟨hx, hb, hml, hown, hts⟩, hev, heh, hA, hlk, hnm⟩ := id hF
  have hK := hev.1
  have hP : va_P D vwCl [(a0, .inr (13, [.ref z0, .ref z1, .ref z2, .ref z3, .ref z4, .ref z5, .int 45, .ref z6, .ref z7, .ref z8, .int 0, .ref z9, .ref z10, .int 1, .int 0, .int 0, .int 0, .ref z11, .int 0, .null, .ref z12, .ref z13]))] s.heap := hP
  have hD : va_D (fun _ => True) [(a0, .inr (13, [.ref z0, .ref z1, .ref z2, .ref z3, .ref z4, .ref z5, .int 45, .ref z6, .ref z7, .ref z8, .int 0, .ref z9, .ref z10, .int 1, .int 0, .int 0, .int 0, .ref z11, .int 0, .null, .ref z12, .ref z13]))] := hD
  have hl : lv_has ls 1 [(0, .ref a0)] := hl
  refine lv_aload_n hx hb dX11_thrown_0 rfl (lv_at hl 0 rfl) ?_
  refine va_get (D := D) (ci := 13) (v := .int 0) (C := RX11) (T := TX11) (N := 22) hx hb hts inX11 hown hK hP 0 rfl rfl 15 (by decide) (hts _ wd_216) (fun _ h9 => h9) rfl dX11_thrown_1 ?_
  exact e_i hF hr (Nat.le_of_ble_eq_true rfl) (Nat.le_of_ble_eq_true rfl) hS (qg_end hS (fun _ => 0) rfl [] hP rfl d_nil) dX11_thrown_4

set_option maxHeartbeats 4000000 in
set_option maxRecDepth 100000 in
theorem c109_X10_type (l : Launch) (hlt : l.stackTraces = false) (z0 : Nat) (p0 : Int32) (f0 : ¬ p0 < 32) (f1 : ¬ p0 ≤ 126) : CX l (.code yX10_type cX10_type 2 (some .int)) yX10_type { frames := 6, cells := 1, slots := 6, locals := 90 } [.ref z0, .int p0] (fun y => []) (fun _ => []) "java/lang/IllegalArgumentException" := by
  refine mkX (by decide) (Nat.le_of_ble_eq_true rfl) ?_
  intro p e s m args below meth c D y A ls hF htb hAe hP hD hS hl
  have hF : FX p e s m args meth c cX10_type 2 RX10 "type" D y A := hF
  obtain ⟨⟨hx, hb, hml, hown, hts⟩, hev, heh, hA, hlk, hnm⟩ := id hF
  have hK := hev.1
  have hP : va_P D vwCl [] s.heap := hP
  have hD : va_D A [] := by rw [← hAe]; exact hD.self
  have hl : lv_has ls 2 [(0, .ref z0), (1, .int p0)] := hl
  refine lv_iload_n hx hb dX10_type_0 rfl (lv_at hl 1 rfl) ?_
  refine lv_bipush (v := 32) hx hb dX10_type_1 (by decide) ?_
  refine lv_icmp_lt (tgt := 12) hx hb dX10_type_3 (by decide) (fun c => absurd c f0) (fun _ => ?_)
  refine lv_iload_n hx hb dX10_type_6 rfl (lv_at hl 1 rfl) ?_
  refine lv_bipush (v := 126) hx hb dX10_type_7 (by decide) ?_
  refine lv_icmp_le (tgt := 22) hx hb dX10_type_9 (by decide) (fun c => absurd c f1) (fun _ => ?_)
  exact th_S (text := "codes are 32 to 126") hF htb hlt (by decide) wd_233 wd_234 (List.mem_of_getElem? (i := 5) rfl) exg2 exf2 exo2 hS hl.1 (Nat.le_of_ble_eq_true rfl) ⟨(Nat.le_of_ble_eq_true rfl), (Nat.le_of_ble_eq_true rfl)⟩ ⟨(Nat.le_of_ble_eq_true rfl), (Nat.le_of_ble_eq_true rfl)⟩ ⟨(Nat.le_of_ble_eq_true rfl), (Nat.le_of_ble_eq_true rfl)⟩ dX10_type_12 dX10_type_15 dX10_type_16 dX10_type_18 dX10_type_21

set_option maxHeartbeats 4000000 in
set_option maxRecDepth 100000 in
theorem c109_L_type (l : Launch) (hlt : l.stackTraces = false) (a0 : Nat) (z0 : Nat) (z1 : Nat) (z2 : Nat) (z3 : Nat) (z4 : Nat) (z5 : Nat) (z6 : Nat) (z7 : Nat) (z8 : Nat) (z9 : Nat) (z10 : Nat) (z11 : Nat) (z12 : Nat) (z13 : Nat) (z14 : Nat) (p0 : Int32) (z15 : Nat) (f0 : ¬ p0 < 32) (f1 : ¬ p0 ≤ 126) : CT l (.codeWith yL_type cL_type 4 (some .int) [(0, 9, 12, 13), (0, 9, 15, 15)]) yL_type { frames := 7, cells := 1, slots := 6, locals := 111 } [.ref a0, .int p0, .ref z15] (fun y => [(a0, .inr (12, [.ref z0, .ref z1, .ref z2, .ref z3, .ref z4, .ref z5, .ref z6, .ref z7, .ref z8, .ref z9, .ref z10, .ref z11, .ref z12, .ref z13, .ref z14]))]) (fun _ => []) (fun u => some (.int 1)) (fun y u => []) := by
  refine mkH (by decide) (Nat.le_of_ble_eq_true rfl) ?_
  intro p e s m args below meth c D y A ls hF htab hr hAe hP hD hS hl
  have hF : FX p e s m args meth c cL_type 4 RL "type" D y A := hF
  obtain ⟨⟨hx, hb, hml, hown, hts⟩, hev, heh, hA, hlk, hnm⟩ := id hF
  have hK := hev.1
  have hP : va_P D vwCl [(a0, .inr (12, [.ref z0, .ref z1, .ref z2, .ref z3, .ref z4, .ref z5, .ref z6, .ref z7, .ref z8, .ref z9, .ref z10, .ref z11, .ref z12, .ref z13, .ref z14]))] s.heap := hP
  have hD : va_D (fun _ => True) [(a0, .inr (12, [.ref z0, .ref z1, .ref z2, .ref z3, .ref z4, .ref z5, .ref z6, .ref z7, .ref z8, .ref z9, .ref z10, .ref z11, .ref z12, .ref z13, .ref z14]))] := hD
  have hl : lv_has ls 4 [(0, .ref a0), (1, .int p0), (2, .ref z15)] := hl
  refine lv_aload_n hx hb dL_type_0 rfl (lv_at hl 2 rfl) ?_
  refine lv_iconst (v := 0) hx hb dL_type_1 (by decide) ?_
  refine lv_aload_n hx hb dL_type_2 rfl (lv_at hl 0 rfl) ?_
  refine lv_iload_n hx hb dL_type_3 rfl (lv_at hl 1 rfl) ?_
  refine hV (wr := [(a0, .inr (12, [.ref z0, .ref z1, .ref z2, .ref z3, .ref z4, .ref z5, .ref z6, .ref z7, .ref z8, .ref z9, .ref z10, .ref z11, .ref z12, .ref z13, .ref z14]))]) (name := "java/lang/IllegalArgumentException") (E0 := "java/lang/IllegalArgumentException") (l := l) (yM := yX10_type) (C := RX10) (As := [.int p0]) (rest := [.int 0, .ref z15]) hF (c109_X10_type l hlt a0 p0 f0 f1) gv_RL_29 1 (by decide +kernel) rfl ⟨(Nat.le_of_ble_eq_true rfl), (Nat.le_of_ble_eq_true rfl)⟩ hl.1 rfl (Nat.le_of_ble_eq_true rfl) dL_type_4 ⟨(Nat.le_of_ble_eq_true rfl), (Nat.le_of_ble_eq_true rfl)⟩ hP hD hS (pA hA hS) (fun _ _ => trivial) [] [] [0] rfl rfl rfl rfl rfl (by decide) 0 (ci := 12) rfl rfl rfl [] ⟨0, 9, 12, 13⟩ [⟨0, 9, 15, 15⟩] htab (fun z hz => nomatch hz) (by decide) (by decide) wd_235 (by decide) (fun q9 H locs hP hD hS => ?_)
  have hP : va_P D vwCl [(a0, .inr (12, [.ref z0, .ref z1, .ref z2, .ref z3, .ref z4, .ref z5, .ref z6, .ref z7, .ref z8, .ref z9, .ref z10, .ref z11, .ref z12, .ref z13, .ref z14]))] H := hP
  have hD : va_D (fun _ => True) [(a0, .inr (12, [.ref z0, .ref z1, .ref z2, .ref z3, .ref z4, .ref z5, .ref z6, .ref z7, .ref z8, .ref z9, .ref z10, .ref z11, .ref z12, .ref z13, .ref z14]))] := hD
  refine W.widen (k := 1) (n := 6) (Nat.le_of_ble_eq_true rfl) (Nat.le_of_ble_eq_true rfl) ?_
  refine W.eq (g2 := F0 m 12 ls [.ref q9]) rfl ?_
  refine lv_astore_n (lv' := [(3, .ref q9), (0, .ref a0), (1, .int p0), (2, .ref z15)]) hx hb dL_type_12 rfl hl (by decide) rfl (fun ls hl => ?_)
  refine lv_iconst (v := 1) hx hb dL_type_13 (by decide) ?_
  exact e_i hF hr (Nat.le_of_ble_eq_true rfl) (Nat.le_of_ble_eq_true rfl) hS (qg_end hS (fun _ => 0) rfl [] hP rfl d_nil) dL_type_14

set_option maxHeartbeats 4000000 in
set_option maxRecDepth 100000 in
theorem c111_X11_in (l : Launch) (p0 : Int32) (f0 : ¬ p0 < 32) (f1 : ¬ p0 ≤ 126) : CT l (.code yX11_in cX11_in 3 (some .boolean)) yX11_in { frames := 0, cells := 0, slots := 0, locals := 0 } [.int p0, .int 32, .int 126] (fun y => []) (fun _ => []) (fun u => some (.int 0)) (fun y u => []) := by
  refine mkM (by decide) (Nat.le_of_ble_eq_true rfl) ?_
  intro p e s m args below meth c D y A ls hF hr hAe hP hD hS hl
  have hF : FX p e s m args meth c cX11_in 3 RX11 "in" D y A := hF
  obtain ⟨⟨hx, hb, hml, hown, hts⟩, hev, heh, hA, hlk, hnm⟩ := id hF
  have hK := hev.1
  have hP : va_P D vwCl [] s.heap := hP
  have hD : va_D A [] := by rw [← hAe]; exact hD.self
  have hl : lv_has ls 3 [(0, .int p0), (1, .int 32), (2, .int 126)] := hl
  refine lv_iload_n hx hb dX11_in_0 rfl (lv_at hl 0 rfl) ?_
  refine lv_iload_n hx hb dX11_in_1 rfl (lv_at hl 1 rfl) ?_
  refine lv_icmp_lt (tgt := 14) hx hb dX11_in_2 (by decide) (fun c => absurd c f0) (fun _ => ?_)
  refine lv_iload_n hx hb dX11_in_5 rfl (lv_at hl 0 rfl) ?_
  refine lv_iload_n hx hb dX11_in_6 rfl (lv_at hl 2 rfl) ?_
  refine lv_icmp_gt (tgt := 14) hx hb dX11_in_7 (by decide) (fun _ => ?_) (fun c => absurd (by have e0 : (126 : Int32).toInt = 126 := (by decide); have e1 : (32 : Int32).toInt = 32 := (by decide); have h9 := And.intro f0 f1; simp only [Int32.lt_iff_toInt_lt, Int32.le_iff_toInt_le, ← Int32.toInt_inj, e0, e1] at h9 ⊢; omega) c)
  refine lv_iconst (v := 0) hx hb dX11_in_14 (by decide) ?_
  exact e_z hF hr (by decide) (Nat.le_of_ble_eq_true rfl) (Nat.le_of_ble_eq_true rfl) hS (qg_end hS (fun _ => 0) rfl [] hP rfl d_nil) dX11_in_15

set_option maxHeartbeats 4000000 in
set_option maxRecDepth 100000 in
theorem c111_X11_type (l : Launch) (a0 : Nat) (z0 : Nat) (z1 : Nat) (z2 : Nat) (z3 : Nat) (z4 : Nat) (z5 : Nat) (z6 : Nat) (z7 : Nat) (z8 : Nat) (z9 : Nat) (z10 : Nat) (z11 : Nat) (z12 : Nat) (z13 : Nat) (p0 : Int32) (f0 : ¬ p0 < 32) (f1 : ¬ p0 ≤ 126) : CT l (.code yX11_type cX11_type 2 (some .int)) yX11_type { frames := 1, cells := 0, slots := 0, locals := 23 } [.ref a0, .int p0] (fun y => [(a0, .inr (13, [.ref z0, .ref z1, .ref z2, .ref z3, .ref z4, .ref z5, .int 45, .ref z6, .ref z7, .ref z8, .int 0, .ref z9, .ref z10, .int 0, .int 0, .int 0, .int 0, .ref z11, .int 0, .null, .ref z12, .ref z13]))]) (fun y => [(a0, .inr (13, [.ref z0, .ref z1, .ref z2, .ref z3, .ref z4, .ref z5, .int 45, .ref z6, .ref z7, .ref z8, .int 0, .ref z9, .ref z10, .int 0, .int 0, .int 0, .int 0, .ref z11, .int 0, .null, .ref z12, .ref z13]))]) (fun u => some (.int 0)) (fun y u => [(a0, .inr (13, [.ref z0, .ref z1, .ref z2, .ref z3, .ref z4, .ref z5, .int 45, .ref z6, .ref z7, .ref z8, .int 0, .ref z9, .ref z10, .int 0, .int 0, .int 1, .int 0, .ref z11, .int 0, .null, .ref z12, .ref z13]))]) := by
  refine mkM (by decide) (Nat.le_of_ble_eq_true rfl) ?_
  intro p e s m args below meth c D y A ls hF hr hAe hP hD hS hl
  have hF : FX p e s m args meth c cX11_type 2 RX11 "type" D y A := hF
  obtain ⟨⟨hx, hb, hml, hown, hts⟩, hev, heh, hA, hlk, hnm⟩ := id hF
  have hK := hev.1
  have hP : va_P D vwCl [(a0, .inr (13, [.ref z0, .ref z1, .ref z2, .ref z3, .ref z4, .ref z5, .int 45, .ref z6, .ref z7, .ref z8, .int 0, .ref z9, .ref z10, .int 0, .int 0, .int 0, .int 0, .ref z11, .int 0, .null, .ref z12, .ref z13]))] s.heap := hP
  have hD : va_D A [(a0, .inr (13, [.ref z0, .ref z1, .ref z2, .ref z3, .ref z4, .ref z5, .int 45, .ref z6, .ref z7, .ref z8, .int 0, .ref z9, .ref z10, .int 0, .int 0, .int 0, .int 0, .ref z11, .int 0, .null, .ref z12, .ref z13]))] := by rw [← hAe]; exact hD.self
  have hl : lv_has ls 2 [(0, .ref a0), (1, .int p0)] := hl
  refine lv_aload_n hx hb dX11_type_0 rfl (lv_at hl 0 rfl) ?_
  refine lv_iload_n hx hb dX11_type_1 rfl (lv_at hl 1 rfl) ?_
  refine lv_bipush (v := 32) hx hb dX11_type_2 (by decide) ?_
  refine lv_bipush (v := 126) hx hb dX11_type_4 (by decide) ?_
  refine cS (l := l) (yM := yX11_in) (As := [.int p0, .int 32, .int 126]) (rest := [.ref a0]) (wr := [(a0, .inr (13, [.ref z0, .ref z1, .ref z2, .ref z3, .ref z4, .ref z5, .int 45, .ref z6, .ref z7, .ref z8, .int 0, .ref z9, .ref z10, .int 0, .int 0, .int 0, .int 0, .ref z11, .int 0, .null, .ref z12, .ref z13]))]) hF (c111_X11_in l p0 f0 f1) gs_RX11_78 3 (by decide +kernel) rfl ⟨(Nat.le_of_ble_eq_true rfl), (Nat.le_of_ble_eq_true rfl)⟩ hl.1 rfl (Nat.le_of_ble_eq_true rfl) dX11_type_6 ⟨(Nat.le_of_ble_eq_true rfl), (Nat.le_of_ble_eq_true rfl)⟩ hP hD hS (pA hA hS) (fun _ h => h) [] [] [0] rfl rfl rfl rfl rfl (by decide) (fun u_1 H locs hP hD hS => ?_)
  have hP : va_P D vwCl [(a0, .inr (13, [.ref z0, .ref z1, .ref z2, .ref z3, .ref z4, .ref z5, .int 45, .ref z6, .ref z7, .ref z8, .int 0, .ref z9, .ref z10, .int 0, .int 0, .int 0, .int 0, .ref z11, .int 0, .null, .ref z12, .ref z13]))] H := hP
  have hD : va_D A [(a0, .inr (13, [.ref z0, .ref z1, .ref z2, .ref z3, .ref z4, .ref z5, .int 45, .ref z6, .ref z7, .ref z8, .int 0, .ref z9, .ref z10, .int 0, .int 0, .int 0, .int 0, .ref z11, .int 0, .null, .ref z12, .ref z13]))] := hD
  refine W.widen (k := 0) (n := 0) (Nat.le_of_ble_eq_true rfl) (Nat.le_of_ble_eq_true rfl) ?_
  refine W.eq (g2 := F0 m 9 ls [.int 0, .ref a0]) rfl ?_
  refine lv_if_ne (tgt := 16) hx hb dX11_type_9 (by decide) (fun c => absurd (by decide) c) (fun _ => ?_)
  refine lv_iconst (v := 1) hx hb dX11_type_12 (by decide) ?_
  refine lv_goto (tgt := 17) hx hb dX11_type_13 (by decide) ?_
  refine lv_aload_n hx hb dX11_type_17 rfl (lv_at hl 0 rfl) ?_
  refine va_get (D := D) (ci := 13) (v := .int 0) (C := RX11) (T := TX11) (N := 22) hx hb hts inX11 hown hK hP 0 rfl rfl 13 (by decide) (hts _ wd_294) (fun _ h9 => h9) rfl dX11_type_18 ?_
  refine lv_bipush (v := 60) hx hb dX11_type_21 (by decide) ?_
  refine lv_icmp_ne (tgt := 30) hx hb dX11_type_23 (by decide) (fun _ => ?_) (fun c => absurd c (by decide))
  refine lv_iconst (v := 0) hx hb dX11_type_30 (by decide) ?_
  refine lv_iconst (v := 0) hx hb dX11_type_31 (by decide) ?_
  refine cV (l := l) (yM := yX11_fails) (C := RX11) (As := [.int 1, .int 0, .int 0]) (rest := []) (wr := []) hF (c67_X11_fails l a0 z0 z1 z2 z3 z4 z5 z6 z7 z8 z9 z10 z11 z12 z13) gv_RX11_128 3 (by decide +kernel) rfl ⟨(Nat.le_of_ble_eq_true rfl), (Nat.le_of_ble_eq_true rfl)⟩ hl.1 rfl (Nat.le_of_ble_eq_true rfl) dX11_type_32 ⟨(Nat.le_of_ble_eq_true rfl), (Nat.le_of_ble_eq_true rfl)⟩ hP hD hS (va_free (wc := [(a0, .inr (13, [.ref z0, .ref z1, .ref z2, .ref z3, .ref z4, .ref z5, .int 45, .ref z6, .ref z7, .ref z8, .int 0, .ref z9, .ref z10, .int 0, .int 0, .int 0, .int 0, .ref z11, .int 0, .null, .ref z12, .ref z13]))]) hD hS hA [0] rfl) (fun _ h => h) [0] [0] [] rfl rfl rfl rfl rfl (by decide) 0 (ci := 13) rfl rfl rfl (fun u_2 H locs hP hD hS => ?_)
  have hP : va_P D vwCl [(a0, .inr (13, [.ref z0, .ref z1, .ref z2, .ref z3, .ref z4, .ref z5, .int 45, .ref z6, .ref z7, .ref z8, .int 0, .ref z9, .ref z10, .int 0, .int 0, .int 1, .int 0, .ref z11, .int 0, .null, .ref z12, .ref z13]))] H := hP
  have hD : va_D A [(a0, .inr (13, [.ref z0, .ref z1, .ref z2, .ref z3, .ref z4, .ref z5, .int 45, .ref z6, .ref z7, .ref z8, .int 0, .ref z9, .ref z10, .int 0, .int 0, .int 1, .int 0, .ref z11, .int 0, .null, .ref z12, .ref z13]))] := hD
  refine W.widen (k := 0) (n := 0) (Nat.le_of_ble_eq_true rfl) (Nat.le_of_ble_eq_true rfl) ?_
  refine W.eq (g2 := F0 m 35 ls [.int 1]) rfl ?_
  refine lv_if_eq (tgt := 40) hx hb dX11_type_35 (by decide) (fun c => absurd c (by decide)) (fun _ => ?_)
  refine lv_iconst (v := 0) hx hb dX11_type_38 (by decide) ?_
  exact e_i hF hr (Nat.le_of_ble_eq_true rfl) (Nat.le_of_ble_eq_true rfl) hS (qg_end hS (fun _ => 0) rfl [0] hP rfl (hD.sub [0] rfl rfl)) dX11_type_39

set_option maxHeartbeats 4000000 in
set_option maxRecDepth 100000 in
theorem c113_X8_clear (l : Launch) (a0 : Nat) (z0 : Nat) (z1 : Nat) : CT l (.code yX8_clear cX8_clear 1 none) yX8_clear { frames := 0, cells := 0, slots := 0, locals := 0 } [.ref a0] (fun y => [(a0, .inr (10, [.int 0, .ref z0, .int 0, .ref z1]))]) (fun y => [(a0, .inr (10, [.int 0, .ref z0, .int 0, .ref z1]))]) (fun u => none) (fun y u => [(a0, .inr (10, [.int 0, .ref z0, .int 0, .ref z1]))]) := by
  refine mkM (by decide) (Nat.le_of_ble_eq_true rfl) ?_
  intro p e s m args below meth c D y A ls hF hr hAe hP hD hS hl
  have hF : FX p e s m args meth c cX8_clear 1 RX8 "clear" D y A := hF
  obtain ⟨⟨hx, hb, hml, hown, hts⟩, hev, heh, hA, hlk, hnm⟩ := id hF
  have hK := hev.1
  have hP : va_P D vwCl [(a0, .inr (10, [.int 0, .ref z0, .int 0, .ref z1]))] s.heap := hP
  have hD : va_D A [(a0, .inr (10, [.int 0, .ref z0, .int 0, .ref z1]))] := by rw [← hAe]; exact hD.self
  have hl : lv_has ls 1 [(0, .ref a0)] := hl
  refine lv_aload_n hx hb dX8_clear_0 rfl (lv_at hl 0 rfl) ?_
  refine lv_iconst (v := 0) hx hb dX8_clear_1 (by decide) ?_
  refine va_put (D := D) (ci := 10) (v := .int 0) (ty := .int) (C := RX8) (T := TX8) (N := 4) hx hb hts inX8 tyX8 tyX8_ok nmX8 hown hK hP hD hS 0 rfl rfl 0 (by decide) (hts _ wd_299) (fun _ h9 => h9) rfl (by decide +kernel) rfl rfl (Nat.le_of_ble_eq_true rfl) dX8_clear_2 (fun H locs hP hD hS => ?_)
  have hP : va_P D vwCl [(a0, .inr (10, [.int 0, .ref z0, .int 0, .ref z1]))] H := hP
  have hD : va_D A [(a0, .inr (10, [.int 0, .ref z0, .int 0, .ref z1]))] := hD
  exact e_v hF hr (Nat.le_of_ble_eq_true rfl) (Nat.le_of_ble_eq_true rfl) hS (qg_end hS (fun _ => 0) rfl [0] hP rfl (hD.sub [0] rfl rfl)) dX8_clear_5

set_option maxHeartbeats 4000000 in
set_option maxRecDepth 100000 in
theorem c113_X10_erase (l : Launch) (a0 : Nat) (a1 : Nat) (z0 : Nat) (z1 : Nat) (z2 : Nat) (z3 : Nat) (z4 : Nat) (z5 : Nat) (z6 : Nat) (z7 : Nat) (z8 : Nat) (z9 : Nat) (z10 : Nat) (z11 : Nat) (z12 : Nat) (z13 : Nat) (z14 : Nat) (z15 : Nat) : CT l (.code yX10_erase cX10_erase 2 (some .int)) yX10_erase { frames := 1, cells := 0, slots := 0, locals := 20 } [.ref a0] (fun y => [(a0, .inr (12, [.ref z0, .ref z1, .ref z2, .ref a1, .ref z3, .ref z4, .ref z5, .ref z6, .ref z7, .ref z8, .ref z9, .ref z10, .ref z11, .ref z12, .ref z13])), (a1, .inr (10, [.int 0, .ref z14, .int 0, .ref z15]))]) (fun y => [(a0, .inr (12, [.ref z0, .ref z1, .ref z2, .ref a1, .ref z3, .ref z4, .ref z5, .ref z6, .ref z7, .ref z8, .ref z9, .ref z10, .ref z11, .ref z12, .ref z13])), (a1, .inr (10, [.int 0, .ref z14, .int 0, .ref z15]))]) (fun u => some (.int 0)) (fun y u => [(a0, .inr (12, [.ref z0, .ref z1, .ref z2, .ref a1, .ref z3, .ref z4, .ref z5, .ref z6, .ref z7, .ref z8, .ref z9, .ref z10, .ref z11, .ref z12, .ref z13])), (a1, .inr (10, [.int 0, .ref z14, .int 0, .ref z15]))]) := by
  refine mkM (by decide) (Nat.le_of_ble_eq_true rfl) ?_
  intro p e s m args below meth c D y A ls hF hr hAe hP hD hS hl
  have hF : FX p e s m args meth c cX10_erase 2 RX10 "erase" D y A := hF
  obtain ⟨⟨hx, hb, hml, hown, hts⟩, hev, heh, hA, hlk, hnm⟩ := id hF
  have hK := hev.1
  have hP : va_P D vwCl [(a0, .inr (12, [.ref z0, .ref z1, .ref z2, .ref a1, .ref z3, .ref z4, .ref z5, .ref z6, .ref z7, .ref z8, .ref z9, .ref z10, .ref z11, .ref z12, .ref z13])), (a1, .inr (10, [.int 0, .ref z14, .int 0, .ref z15]))] s.heap := hP
  have hD : va_D A [(a0, .inr (12, [.ref z0, .ref z1, .ref z2, .ref a1, .ref z3, .ref z4, .ref z5, .ref z6, .ref z7, .ref z8, .ref z9, .ref z10, .ref z11, .ref z12, .ref z13])), (a1, .inr (10, [.int 0, .ref z14, .int 0, .ref z15]))] := by rw [← hAe]; exact hD.self
  have hl : lv_has ls 2 [(0, .ref a0)] := hl
  refine lv_aload_n hx hb dX10_erase_0 rfl (lv_at hl 0 rfl) ?_
  refine va_get (D := D) (ci := 12) (v := .ref a1) (C := RX10) (T := TX10) (N := 15) hx hb hts inX10 hown hK hP 0 rfl rfl 3 (by decide) (hts _ wd_37) (fun _ h9 => h9) rfl dX10_erase_1 ?_
  refine va_getN (D := D) (ci := 10) (v := .int 0) (C := RX8) (T := TX8) (N := 4) hx hb hts inX8 hown hK hP 1 rfl rfl 0 (by decide) (va_Nw.use (A := args) rfl (hev.2.1 (RX10, 140, RX8, "size", "I") (List.mem_of_getElem? (i := 13) rfl))) (fun _ h9 => h9) rfl dX10_erase_4 ?_
  refine lv_istore_n (lv' := [(1, .int 0), (0, .ref a0)]) hx hb dX10_erase_7 rfl hl (by decide) rfl (fun ls hl => ?_)
  refine lv_aload_n hx hb dX10_erase_8 rfl (lv_at hl 1 rfl) ?_
  refine va_get (D := D) (ci := 12) (v := .ref a1) (C := RX10) (T := TX10) (N := 15) hx hb hts inX10 hown hK hP 0 rfl rfl 3 (by decide) (hts _ wd_37) (fun _ h9 => h9) rfl dX10_erase_9 ?_
  refine cV (l := l) (yM := yX8_clear) (C := RX8) (As := []) (rest := []) (wr := [(a0, .inr (12, [.ref z0, .ref z1, .ref z2, .ref a1, .ref z3, .ref z4, .ref z5, .ref z6, .ref z7, .ref z8, .ref z9, .ref z10, .ref z11, .ref z12, .ref z13]))]) hF (c113_X8_clear l a1 z14 z15) gv_RX10_149 0 (by decide +kernel) rfl ⟨(Nat.le_of_ble_eq_true rfl), (Nat.le_of_ble_eq_true rfl)⟩ hl.1 rfl (Nat.le_of_ble_eq_true rfl) dX10_erase_12 ⟨(Nat.le_of_ble_eq_true rfl), (Nat.le_of_ble_eq_true rfl)⟩ hP hD hS (va_free (wc := [(a1, .inr (10, [.int 0, .ref z14, .int 0, .ref z15]))]) hD hS hA [1] rfl) (fun _ h => h) [1] [1] [0] rfl rfl rfl rfl rfl (by decide) 1 (ci := 10) rfl rfl rfl (fun u_1 H locs hP hD hS => ?_)
  have hP : va_P D vwCl [(a0, .inr (12, [.ref z0, .ref z1, .ref z2, .ref a1, .ref z3, .ref z4, .ref z5, .ref z6, .ref z7, .ref z8, .ref z9, .ref z10, .ref z11, .ref z12, .ref z13])), (a1, .inr (10, [.int 0, .ref z14, .int 0, .ref z15]))] H := hP
  have hD : va_D A [(a0, .inr (12, [.ref z0, .ref z1, .ref z2, .ref a1, .ref z3, .ref z4, .ref z5, .ref z6, .ref z7, .ref z8, .ref z9, .ref z10, .ref z11, .ref z12, .ref z13])), (a1, .inr (10, [.int 0, .ref z14, .int 0, .ref z15]))] := hD
  refine W.widen (k := 0) (n := 0) (Nat.le_of_ble_eq_true rfl) (Nat.le_of_ble_eq_true rfl) ?_
  refine W.eq (g2 := F0 m 15 ls []) rfl ?_
  refine lv_iload_n hx hb dX10_erase_15 rfl (lv_at hl 0 rfl) ?_
  exact e_i hF hr (Nat.le_of_ble_eq_true rfl) (Nat.le_of_ble_eq_true rfl) hS (qg_end hS (fun _ => 0) rfl [0, 1] hP rfl (hD.sub [0, 1] rfl rfl)) dX10_erase_16

set_option maxHeartbeats 4000000 in
set_option maxRecDepth 100000 in
theorem c115_X11_erase (l : Launch) (a0 : Nat) (z0 : Nat) (z1 : Nat) (z2 : Nat) (z3 : Nat) (z4 : Nat) (z5 : Nat) (z6 : Nat) (z7 : Nat) (z8 : Nat) (z9 : Nat) (z10 : Nat) (z11 : Nat) (z12 : Nat) (z13 : Nat) : CT l (.code yX11_erase cX11_erase 2 (some .int)) yX11_erase { frames := 0, cells := 0, slots := 0, locals := 0 } [.ref a0] (fun y => [(a0, .inr (13, [.ref z0, .ref z1, .ref z2, .ref z3, .ref z4, .ref z5, .int 45, .ref z6, .ref z7, .ref z8, .int 0, .ref z9, .ref z10, .int 0, .int 0, .int 0, .int 0, .ref z11, .int 0, .null, .ref z12, .ref z13]))]) (fun y => [(a0, .inr (13, [.ref z0, .ref z1, .ref z2, .ref z3, .ref z4, .ref z5, .int 45, .ref z6, .ref z7, .ref z8, .int 0, .ref z9, .ref z10, .int 0, .int 0, .int 0, .int 0, .ref z11, .int 0, .null, .ref z12, .ref z13]))]) (fun u => some (.int 0)) (fun y u => [(a0, .inr (13, [.ref z0, .ref z1, .ref z2, .ref z3, .ref z4, .ref z5, .int 45, .ref z6, .ref z7, .ref z8, .int 0, .ref z9, .ref z10, .int 0, .int 0, .int 0, .int 0, .ref z11, .int 0, .null, .ref z12, .ref z13]))]) := by
  refine mkM (by decide) (Nat.le_of_ble_eq_true rfl) ?_
  intro p e s m args below meth c D y A ls hF hr hAe hP hD hS hl
  have hF : FX p e s m args meth c cX11_erase 2 RX11 "erase" D y A := hF
  obtain ⟨⟨hx, hb, hml, hown, hts⟩, hev, heh, hA, hlk, hnm⟩ := id hF
  have hK := hev.1
  have hP : va_P D vwCl [(a0, .inr (13, [.ref z0, .ref z1, .ref z2, .ref z3, .ref z4, .ref z5, .int 45, .ref z6, .ref z7, .ref z8, .int 0, .ref z9, .ref z10, .int 0, .int 0, .int 0, .int 0, .ref z11, .int 0, .null, .ref z12, .ref z13]))] s.heap := hP
  have hD : va_D A [(a0, .inr (13, [.ref z0, .ref z1, .ref z2, .ref z3, .ref z4, .ref z5, .int 45, .ref z6, .ref z7, .ref z8, .int 0, .ref z9, .ref z10, .int 0, .int 0, .int 0, .int 0, .ref z11, .int 0, .null, .ref z12, .ref z13]))] := by rw [← hAe]; exact hD.self
  have hl : lv_has ls 2 [(0, .ref a0)] := hl
  refine lv_aload_n hx hb dX11_erase_0 rfl (lv_at hl 0 rfl) ?_
  refine lv_iconst (v := 0) hx hb dX11_erase_1 (by decide) ?_
  refine va_put (D := D) (ci := 13) (v := .int 0) (ty := .int) (C := RX11) (T := TX11) (N := 22) hx hb hts inX11 tyX11 tyX11_ok nmX11 hown hK hP hD hS 0 rfl rfl 15 (by decide) (hts _ wd_216) (fun _ h9 => h9) rfl (by decide +kernel) rfl rfl (Nat.le_of_ble_eq_true rfl) dX11_erase_2 (fun H locs hP hD hS => ?_)
  have hP : va_P D vwCl [(a0, .inr (13, [.ref z0, .ref z1, .ref z2, .ref z3, .ref z4, .ref z5, .int 45, .ref z6, .ref z7, .ref z8, .int 0, .ref z9, .ref z10, .int 0, .int 0, .int 0, .int 0, .ref z11, .int 0, .null, .ref z12, .ref z13]))] H := hP
  have hD : va_D A [(a0, .inr (13, [.ref z0, .ref z1, .ref z2, .ref z3, .ref z4, .ref z5, .int 45, .ref z6, .ref z7, .ref z8, .int 0, .ref z9, .ref z10, .int 0, .int 0, .int 0, .int 0, .ref z11, .int 0, .null, .ref z12, .ref z13]))] := hD
  refine lv_aload_n hx hb dX11_erase_5 rfl (lv_at hl 0 rfl) ?_
  refine va_get (D := D) (ci := 13) (v := .int 0) (C := RX11) (T := TX11) (N := 22) hx hb hts inX11 hown hK hP 0 rfl rfl 13 (by decide) (hts _ wd_294) (fun _ h9 => h9) rfl dX11_erase_6 ?_
  refine lv_istore_n (lv' := [(1, .int 0), (0, .ref a0)]) hx hb dX11_erase_9 rfl hl (by decide) rfl (fun ls hl => ?_)
  refine lv_aload_n hx hb dX11_erase_10 rfl (lv_at hl 1 rfl) ?_
  refine lv_iconst (v := 0) hx hb dX11_erase_11 (by decide) ?_
  refine va_put (D := D) (ci := 13) (v := .int 0) (ty := .int) (C := RX11) (T := TX11) (N := 22) hx hb hts inX11 tyX11 tyX11_ok nmX11 hown hK hP hD hS 0 rfl rfl 13 (by decide) (hts _ wd_294) (fun _ h9 => h9) rfl (by decide +kernel) rfl rfl (Nat.le_of_ble_eq_true rfl) dX11_erase_12 (fun H locs hP hD hS => ?_)
  have hP : va_P D vwCl [(a0, .inr (13, [.ref z0, .ref z1, .ref z2, .ref z3, .ref z4, .ref z5, .int 45, .ref z6, .ref z7, .ref z8, .int 0, .ref z9, .ref z10, .int 0, .int 0, .int 0, .int 0, .ref z11, .int 0, .null, .ref z12, .ref z13]))] H := hP
  have hD : va_D A [(a0, .inr (13, [.ref z0, .ref z1, .ref z2, .ref z3, .ref z4, .ref z5, .int 45, .ref z6, .ref z7, .ref z8, .int 0, .ref z9, .ref z10, .int 0, .int 0, .int 0, .int 0, .ref z11, .int 0, .null, .ref z12, .ref z13]))] := hD
  refine lv_iload_n hx hb dX11_erase_15 rfl (lv_at hl 0 rfl) ?_
  exact e_i hF hr (Nat.le_of_ble_eq_true rfl) (Nat.le_of_ble_eq_true rfl) hS (qg_end hS (fun _ => 0) rfl [0] hP rfl (hD.sub [0] rfl rfl)) dX11_erase_16

set_option maxHeartbeats 4000000 in
set_option maxRecDepth 100000 in
theorem c116_X10_signAt (l : Launch) (hlt : l.stackTraces = false) (a0 : Nat) (a1 : Nat) (z0 : Nat) (z1 : Nat) (z2 : Nat) (z3 : Nat) (z4 : Nat) (z5 : Nat) (z6 : Nat) (z7 : Nat) (z8 : Nat) (z9 : Nat) (z10 : Nat) (z11 : Nat) (z12 : Nat) (z13 : Nat) (z14 : Nat) (z15 : Nat) (p0 : Int32) : CX l (.code yX10_signAt cX10_signAt 2 (some .char)) yX10_signAt { frames := 6, cells := 1, slots := 6, locals := 90 } [.ref a0, .int p0] (fun y => [(a0, .inr (12, [.ref z0, .ref z1, .ref z2, .ref a1, .ref z3, .ref z4, .ref z5, .ref z6, .ref z7, .ref z8, .ref z9, .ref z10, .ref z11, .ref z12, .ref z13])), (a1, .inr (10, [.int 0, .ref z14, .int 0, .ref z15]))]) (fun _ => []) "java/lang/IndexOutOfBoundsException" := by
  refine mkX (by decide) (Nat.le_of_ble_eq_true rfl) ?_
  intro p e s m args below meth c D y A ls hF htb hAe hP hD hS hl
  have hF : FX p e s m args meth c cX10_signAt 2 RX10 "signAt" D y A := hF
  obtain ⟨⟨hx, hb, hml, hown, hts⟩, hev, heh, hA, hlk, hnm⟩ := id hF
  have hK := hev.1
  have hP : va_P D vwCl [(a0, .inr (12, [.ref z0, .ref z1, .ref z2, .ref a1, .ref z3, .ref z4, .ref z5, .ref z6, .ref z7, .ref z8, .ref z9, .ref z10, .ref z11, .ref z12, .ref z13])), (a1, .inr (10, [.int 0, .ref z14, .int 0, .ref z15]))] s.heap := hP
  have hD : va_D (fun _ => True) [(a0, .inr (12, [.ref z0, .ref z1, .ref z2, .ref a1, .ref z3, .ref z4, .ref z5, .ref z6, .ref z7, .ref z8, .ref z9, .ref z10, .ref z11, .ref z12, .ref z13])), (a1, .inr (10, [.int 0, .ref z14, .int 0, .ref z15]))] := hD
  have hl : lv_has ls 2 [(0, .ref a0), (1, .int p0)] := hl
  refine lv_iload_n hx hb dX10_signAt_0 rfl (lv_at hl 1 rfl) ?_
  refine lv_if_lt (tgt := 15) hx hb dX10_signAt_1 (by decide) (fun c_1 => ?_) (fun c_1 => ?_)
  · exact th_S (text := "no such place in the text") hF htb hlt (by decide) wd_316 wd_317 (List.mem_of_getElem? (i := 7) rfl) exg4 exf4 exo4 hS hl.1 (Nat.le_of_ble_eq_true rfl) ⟨(Nat.le_of_ble_eq_true rfl), (Nat.le_of_ble_eq_true rfl)⟩ ⟨(Nat.le_of_ble_eq_true rfl), (Nat.le_of_ble_eq_true rfl)⟩ ⟨(Nat.le_of_ble_eq_true rfl), (Nat.le_of_ble_eq_true rfl)⟩ dX10_signAt_15 dX10_signAt_18 dX10_signAt_19 dX10_signAt_21 dX10_signAt_24
  · refine lv_iload_n hx hb dX10_signAt_4 rfl (lv_at hl 1 rfl) ?_
    refine lv_aload_n hx hb dX10_signAt_5 rfl (lv_at hl 0 rfl) ?_
    refine va_get (D := D) (ci := 12) (v := .ref a1) (C := RX10) (T := TX10) (N := 15) hx hb hts inX10 hown hK hP 0 rfl rfl 3 (by decide) (hts _ wd_37) (fun _ h9 => h9) rfl dX10_signAt_6 ?_
    refine va_getN (D := D) (ci := 10) (v := .int 0) (C := RX8) (T := TX8) (N := 4) hx hb hts inX8 hown hK hP 1 rfl rfl 0 (by decide) (va_Nw.use (A := args) rfl (hev.2.1 (RX10, 140, RX8, "size", "I") (List.mem_of_getElem? (i := 13) rfl))) (fun _ h9 => h9) rfl dX10_signAt_9 ?_
    refine lv_icmp_lt (tgt := 25) hx hb dX10_signAt_12 (by decide) (fun c => absurd c c_1) (fun _ => ?_)
    exact th_S (text := "no such place in the text") hF htb hlt (by decide) wd_316 wd_317 (List.mem_of_getElem? (i := 7) rfl) exg4 exf4 exo4 hS hl.1 (Nat.le_of_ble_eq_true rfl) ⟨(Nat.le_of_ble_eq_true rfl), (Nat.le_of_ble_eq_true rfl)⟩ ⟨(Nat.le_of_ble_eq_true rfl), (Nat.le_of_ble_eq_true rfl)⟩ ⟨(Nat.le_of_ble_eq_true rfl), (Nat.le_of_ble_eq_true rfl)⟩ dX10_signAt_15 dX10_signAt_18 dX10_signAt_19 dX10_signAt_21 dX10_signAt_24

set_option maxHeartbeats 4000000 in
set_option maxRecDepth 100000 in
theorem c116_L_signAt (l : Launch) (hlt : l.stackTraces = false) (a0 : Nat) (a1 : Nat) (z0 : Nat) (z1 : Nat) (z2 : Nat) (z3 : Nat) (z4 : Nat) (z5 : Nat) (z6 : Nat) (z7 : Nat) (z8 : Nat) (z9 : Nat) (z10 : Nat) (z11 : Nat) (z12 : Nat) (z13 : Nat) (z14 : Nat) (z15 : Nat) (p0 : Int32) (z16 : Nat) : CT l (.codeWith yL_signAt cL_signAt 4 (some .int) [(0, 9, 12, 36)]) yL_signAt { frames := 7, cells := 1, slots := 6, locals := 111 } [.ref a0, .int p0, .ref z16] (fun y => [(a0, .inr (12, [.ref z0, .ref z1, .ref z2, .ref a1, .ref z3, .ref z4, .ref z5, .ref z6, .ref z7, .ref z8, .ref z9, .ref z10, .ref z11, .ref z12, .ref z13])), (a1, .inr (10, [.int 0, .ref z14, .int 0, .ref z15]))]) (fun _ => []) (fun u => some (.int 1)) (fun y u => []) := by
  refine mkH (by decide) (Nat.le_of_ble_eq_true rfl) ?_
  intro p e s m args below meth c D y A ls hF htab hr hAe hP hD hS hl
  have hF : FX p e s m args meth c cL_signAt 4 RL "signAt" D y A := hF
  obtain ⟨⟨hx, hb, hml, hown, hts⟩, hev, heh, hA, hlk, hnm⟩ := id hF
  have hK := hev.1
  have hP : va_P D vwCl [(a0, .inr (12, [.ref z0, .ref z1, .ref z2, .ref a1, .ref z3, .ref z4, .ref z5, .ref z6, .ref z7, .ref z8, .ref z9, .ref z10, .ref z11, .ref z12, .ref z13])), (a1, .inr (10, [.int 0, .ref z14, .int 0, .ref z15]))] s.heap := hP
  have hD : va_D (fun _ => True) [(a0, .inr (12, [.ref z0, .ref z1, .ref z2, .ref a1, .ref z3, .ref z4, .ref z5, .ref z6, .ref z7, .ref z8, .ref z9, .ref z10, .ref z11, .ref z12, .ref z13])), (a1, .inr (10, [.int 0, .ref z14, .int 0, .ref z15]))] := hD
  have hl : lv_has ls 4 [(0, .ref a0), (1, .int p0), (2, .ref z16)] := hl
  refine lv_aload_n hx hb dL_signAt_0 rfl (lv_at hl 2 rfl) ?_
  refine lv_iconst (v := 0) hx hb dL_signAt_1 (by decide) ?_
  refine lv_aload_n hx hb dL_signAt_2 rfl (lv_at hl 0 rfl) ?_
  refine lv_iload_n hx hb dL_signAt_3 rfl (lv_at hl 1 rfl) ?_
  refine hV (wr := [(a0, .inr (12, [.ref z0, .ref z1, .ref z2, .ref a1, .ref z3, .ref z4, .ref z5, .ref z6, .ref z7, .ref z8, .ref z9, .ref z10, .ref z11, .ref z12, .ref z13])), (a1, .inr (10, [.int 0, .ref z14, .int 0, .ref z15]))]) (name := "java/lang/IndexOutOfBoundsException") (E0 := "java/lang/IndexOutOfBoundsException") (l := l) (yM := yX10_signAt) (C := RX10) (As := [.int p0]) (rest := [.int 0, .ref z16]) hF (c116_X10_signAt l hlt a0 a1 z0 z1 z2 z3 z4 z5 z6 z7 z8 z9 z10 z11 z12 z13 z14 z15 p0) gv_RL_32 1 (by decide +kernel) rfl ⟨(Nat.le_of_ble_eq_true rfl), (Nat.le_of_ble_eq_true rfl)⟩ hl.1 rfl (Nat.le_of_ble_eq_true rfl) dL_signAt_4 ⟨(Nat.le_of_ble_eq_true rfl), (Nat.le_of_ble_eq_true rfl)⟩ hP hD hS (pA hA hS) (fun _ _ => trivial) [0, 1] [] [0, 1] rfl rfl rfl rfl rfl (by decide) 0 (ci := 12) rfl rfl rfl [] ⟨0, 9, 12, 36⟩ [] htab (fun z hz => nomatch hz) (by decide) (by decide) wd_322 (by decide) (fun q9 H locs hP hD hS => ?_)
  have hP : va_P D vwCl [(a0, .inr (12, [.ref z0, .ref z1, .ref z2, .ref a1, .ref z3, .ref z4, .ref z5, .ref z6, .ref z7, .ref z8, .ref z9, .ref z10, .ref z11, .ref z12, .ref z13])), (a1, .inr (10, [.int 0, .ref z14, .int 0, .ref z15]))] H := hP
  have hD : va_D (fun _ => True) [(a0, .inr (12, [.ref z0, .ref z1, .ref z2, .ref a1, .ref z3, .ref z4, .ref z5, .ref z6, .ref z7, .ref z8, .ref z9, .ref z10, .ref z11, .ref z12, .ref z13])), (a1, .inr (10, [.int 0, .ref z14, .int 0, .ref z15]))] := hD
  refine W.widen (k := 1) (n := 6) (Nat.le_of_ble_eq_true rfl) (Nat.le_of_ble_eq_true rfl) ?_
  refine W.eq (g2 := F0 m 12 ls [.ref q9]) rfl ?_
  refine lv_astore_n (lv' := [(3, .ref q9), (0, .ref a0), (1, .int p0), (2, .ref z16)]) hx hb dL_signAt_12 rfl hl (by decide) rfl (fun ls hl => ?_)
  refine lv_iconst (v := 1) hx hb dL_signAt_13 (by decide) ?_
  exact e_i hF hr (Nat.le_of_ble_eq_true rfl) (Nat.le_of_ble_eq_true rfl) hS (qg_end hS (fun _ => 0) rfl [] hP rfl d_nil) dL_signAt_14

set_option maxHeartbeats 4000000 in
set_option maxRecDepth 100000 in
theorem c118_X11_signAt (l : Launch) (a0 : Nat) (z0 : Nat) (z1 : Nat) (z2 : Nat) (z3 : Nat) (z4 : Nat) (z5 : Nat) (z6 : Nat) (z7 : Nat) (z8 : Nat) (z9 : Nat) (z10 : Nat) (z11 : Nat) (z12 : Nat) (z13 : Nat) (p0 : Int32) : CT l (.code yX11_signAt cX11_signAt 2 (some .char)) yX11_signAt { frames := 1, cells := 0, slots := 0, locals := 23 } [.ref a0, .int p0] (fun y => [(a0, .inr (13, [.ref z0, .ref z1, .ref z2, .ref z3, .ref z4, .ref z5, .int 45, .ref z6, .ref z7, .ref z8, .int 0, .ref z9, .ref z10, .int 0, .int 0, .int 0, .int 0, .ref z11, .int 0, .null, .ref z12, .ref z13]))]) (fun y => [(a0, .inr (13, [.ref z0, .ref z1, .ref z2, .ref z3, .ref z4, .ref z5, .int 45, .ref z6, .ref z7, .ref z8, .int 0, .ref z9, .ref z10, .int 0, .int 0, .int 0, .int 0, .ref z11, .int 0, .null, .ref z12, .ref z13]))]) (fun u => some (.int 32)) (fun y u => [(a0, .inr (13, [.ref z0, .ref z1, .ref z2, .ref z3, .ref z4, .ref z5, .int 45, .ref z6, .ref z7, .ref z8, .int 0, .ref z9, .ref z10, .int 0, .int 0, .int 1, .int 0, .ref z11, .int 0, .null, .ref z12, .ref z13]))]) := by
  refine mkM (by decide) (Nat.le_of_ble_eq_true rfl) ?_
  intro p e s m args below meth c D y A ls hF hr hAe hP hD hS hl
  have hF : FX p e s m args meth c cX11_signAt 2 RX11 "signAt" D y A := hF
  obtain ⟨⟨hx, hb, hml, hown, hts⟩, hev, heh, hA, hlk, hnm⟩ := id hF
  have hK := hev.1
  have hP : va_P D vwCl [(a0, .inr (13, [.ref z0, .ref z1, .ref z2, .ref z3, .ref z4, .ref z5, .int 45, .ref z6, .ref z7, .ref z8, .int 0, .ref z9, .ref z10, .int 0, .int 0, .int 0, .int 0, .ref z11, .int 0, .null, .ref z12, .ref z13]))] s.heap := hP
  have hD : va_D A [(a0, .inr (13, [.ref z0, .ref z1, .ref z2, .ref z3, .ref z4, .ref z5, .int 45, .ref z6, .ref z7, .ref z8, .int 0, .ref z9, .ref z10, .int 0, .int 0, .int 0, .int 0, .ref z11, .int 0, .null, .ref z12, .ref z13]))] := by rw [← hAe]; exact hD.self
  have hl : lv_has ls 2 [(0, .ref a0), (1, .int p0)] := hl
  refine lv_aload_n hx hb dX11_signAt_0 rfl (lv_at hl 0 rfl) ?_
  refine lv_iload_n hx hb dX11_signAt_1 rfl (lv_at hl 1 rfl) ?_
  refine lv_iconst (v := 0) hx hb dX11_signAt_2 (by decide) ?_
  refine lv_aload_n hx hb dX11_signAt_3 rfl (lv_at hl 0 rfl) ?_
  refine va_get (D := D) (ci := 13) (v := .int 0) (C := RX11) (T := TX11) (N := 22) hx hb hts inX11 hown hK hP 0 rfl rfl 13 (by decide) (hts _ wd_294) (fun _ h9 => h9) rfl dX11_signAt_4 ?_
  refine lv_iconst (v := 1) hx hb dX11_signAt_7 (by decide) ?_
  refine lv_isub hx hb dX11_signAt_8 ?_
  refine tp_i (v := (-1)) (by decide) ?_
  refine cS (l := l) (yM := yX11_in) (As := [.int p0, .int 0, .int (-1)]) (rest := [.ref a0]) (wr := [(a0, .inr (13, [.ref z0, .ref z1, .ref z2, .ref z3, .ref z4, .ref z5, .int 45, .ref z6, .ref z7, .ref z8, .int 0, .ref z9, .ref z10, .int 0, .int 0, .int 0, .int 0, .ref z11, .int 0, .null, .ref z12, .ref z13]))]) hF (c86_X11_in l p0) gs_RX11_78 3 (by decide +kernel) rfl ⟨(Nat.le_of_ble_eq_true rfl), (Nat.le_of_ble_eq_true rfl)⟩ hl.1 rfl (Nat.le_of_ble_eq_true rfl) dX11_signAt_9 ⟨(Nat.le_of_ble_eq_true rfl), (Nat.le_of_ble_eq_true rfl)⟩ hP hD hS (pA hA hS) (fun _ h => h) [] [] [0] rfl rfl rfl rfl rfl (by decide) (fun u_1 H locs hP hD hS => ?_)
  have hP : va_P D vwCl [(a0, .inr (13, [.ref z0, .ref z1, .ref z2, .ref z3, .ref z4, .ref z5, .int 45, .ref z6, .ref z7, .ref z8, .int 0, .ref z9, .ref z10, .int 0, .int 0, .int 0, .int 0, .ref z11, .int 0, .null, .ref z12, .ref z13]))] H := hP
  have hD : va_D A [(a0, .inr (13, [.ref z0, .ref z1, .ref z2, .ref z3, .ref z4, .ref z5, .int 45, .ref z6, .ref z7, .ref z8, .int 0, .ref z9, .ref z10, .int 0, .int 0, .int 0, .int 0, .ref z11, .int 0, .null, .ref z12, .ref z13]))] := hD
  refine W.widen (k := 0) (n := 0) (Nat.le_of_ble_eq_true rfl) (Nat.le_of_ble_eq_true rfl) ?_
  refine W.eq (g2 := F0 m 12 ls [.int 0, .ref a0]) rfl ?_
  refine lv_if_ne (tgt := 19) hx hb dX11_signAt_12 (by decide) (fun c => absurd (by decide) c) (fun _ => ?_)
  refine lv_iconst (v := 1) hx hb dX11_signAt_15 (by decide) ?_
  refine lv_goto (tgt := 20) hx hb dX11_signAt_16 (by decide) ?_
  refine lv_iconst (v := 0) hx hb dX11_signAt_20 (by decide) ?_
  refine lv_iconst (v := 0) hx hb dX11_signAt_21 (by decide) ?_
  refine cV (l := l) (yM := yX11_fails) (C := RX11) (As := [.int 1, .int 0, .int 0]) (rest := []) (wr := []) hF (c67_X11_fails l a0 z0 z1 z2 z3 z4 z5 z6 z7 z8 z9 z10 z11 z12 z13) gv_RX11_128 3 (by decide +kernel) rfl ⟨(Nat.le_of_ble_eq_true rfl), (Nat.le_of_ble_eq_true rfl)⟩ hl.1 rfl (Nat.le_of_ble_eq_true rfl) dX11_signAt_22 ⟨(Nat.le_of_ble_eq_true rfl), (Nat.le_of_ble_eq_true rfl)⟩ hP hD hS (va_free (wc := [(a0, .inr (13, [.ref z0, .ref z1, .ref z2, .ref z3, .ref z4, .ref z5, .int 45, .ref z6, .ref z7, .ref z8, .int 0, .ref z9, .ref z10, .int 0, .int 0, .int 0, .int 0, .ref z11, .int 0, .null, .ref z12, .ref z13]))]) hD hS hA [0] rfl) (fun _ h => h) [0] [0] [] rfl rfl rfl rfl rfl (by decide) 0 (ci := 13) rfl rfl rfl (fun u_2 H locs hP hD hS => ?_)
  have hP : va_P D vwCl [(a0, .inr (13, [.ref z0, .ref z1, .ref z2, .ref z3, .ref z4, .ref z5, .int 45, .ref z6, .ref z7, .ref z8, .int 0, .ref z9, .ref z10, .int 0, .int 0, .int 1, .int 0, .ref z11, .int 0, .null, .ref z12, .ref z13]))] H := hP
  have hD : va_D A [(a0, .inr (13, [.ref z0, .ref z1, .ref z2, .ref z3, .ref z4, .ref z5, .int 45, .ref z6, .ref z7, .ref z8, .int 0, .ref z9, .ref z10, .int 0, .int 0, .int 1, .int 0, .ref z11, .int 0, .null, .ref z12, .ref z13]))] := hD
  refine W.widen (k := 0) (n := 0) (Nat.le_of_ble_eq_true rfl) (Nat.le_of_ble_eq_true rfl) ?_
  refine W.eq (g2 := F0 m 25 ls [.int 1]) rfl ?_
  refine lv_if_eq (tgt := 33) hx hb dX11_signAt_25 (by decide) (fun c => absurd c (by decide)) (fun _ => ?_)
  refine lv_bipush (v := 32) hx hb dX11_signAt_28 (by decide) ?_
  refine lv_goto (tgt := 39) hx hb dX11_signAt_30 (by decide) ?_
  exact e_z hF hr (by decide) (Nat.le_of_ble_eq_true rfl) (Nat.le_of_ble_eq_true rfl) hS (qg_end hS (fun _ => 0) rfl [0] hP rfl (hD.sub [0] rfl rfl)) dX11_signAt_39

set_option maxHeartbeats 4000000 in
set_option maxRecDepth 100000 in
theorem c119_X10_needOne (l : Launch) (hlt : l.stackTraces = false) (a0 : Nat) (a1 : Nat) (a2 : Nat) (z0 : Nat) (z1 : Nat) (z2 : Nat) (z3 : Nat) (z4 : Nat) (z5 : Nat) (z6 : Nat) (z7 : Nat) (z8 : Nat) (z9 : Nat) (z10 : Nat) (z11 : Nat) (z12 : Nat) (z13 : Nat) (z14 : Nat) (z15 : Nat) (z16 : Nat) (z17 : Nat) (z18 : Nat) (p0 : Int32) : CX l (.code yX10_needOne cX10_needOne 4 (some (.object "StablepairBureau$Lists"))) yX10_needOne { frames := 6, cells := 1, slots := 6, locals := 90 } [.ref a0, .int 112, .int p0] (fun y => [(a0, .inr (12, [.ref a1, .ref z0, .ref z1, .ref z2, .ref z3, .ref z4, .ref z5, .ref z6, .ref z7, .ref z8, .ref z9, .ref z10, .ref z11, .ref z12, .ref z13])), (a1, .inr (5, [.ref a2, .ref z14, .ref z15])), (a2, .inr (4, [.int 0, .ref z16, .ref z17, .ref z18]))]) (fun _ => []) "java/util/NoSuchElementException" := by
  refine mkX (by decide) (Nat.le_of_ble_eq_true rfl) ?_
  intro p e s m args below meth c D y A ls hF htb hAe hP hD hS hl
  have hF : FX p e s m args meth c cX10_needOne 4 RX10 "needOne" D y A := hF
  obtain ⟨⟨hx, hb, hml, hown, hts⟩, hev, heh, hA, hlk, hnm⟩ := id hF
  have hK := hev.1
  have hP : va_P D vwCl [(a0, .inr (12, [.ref a1, .ref z0, .ref z1, .ref z2, .ref z3, .ref z4, .ref z5, .ref z6, .ref z7, .ref z8, .ref z9, .ref z10, .ref z11, .ref z12, .ref z13])), (a1, .inr (5, [.ref a2, .ref z14, .ref z15])), (a2, .inr (4, [.int 0, .ref z16, .ref z17, .ref z18]))] s.heap := hP
  have hD : va_D (fun _ => True) [(a0, .inr (12, [.ref a1, .ref z0, .ref z1, .ref z2, .ref z3, .ref z4, .ref z5, .ref z6, .ref z7, .ref z8, .ref z9, .ref z10, .ref z11, .ref z12, .ref z13])), (a1, .inr (5, [.ref a2, .ref z14, .ref z15])), (a2, .inr (4, [.int 0, .ref z16, .ref z17, .ref z18]))] := hD
  have hl : lv_has ls 4 [(0, .ref a0), (1, .int 112), (2, .int p0)] := hl
  refine lv_aload_n hx hb dX10_needOne_0 rfl (lv_at hl 0 rfl) ?_
  refine lv_iload_n hx hb dX10_needOne_1 rfl (lv_at hl 1 rfl) ?_
  refine cV (l := l) (yM := yX10_needSide) (C := RX10) (As := [.int 112]) (rest := []) (wr := [(a0, .inr (12, [.ref a1, .ref z0, .ref z1, .ref z2, .ref z3, .ref z4, .ref z5, .ref z6, .ref z7, .ref z8, .ref z9, .ref z10, .ref z11, .ref z12, .ref z13])), (a1, .inr (5, [.ref a2, .ref z14, .ref z15])), (a2, .inr (4, [.int 0, .ref z16, .ref z17, .ref z18]))]) hF (c14_X10_needSide l a0 a1 z0 z1 z2 z3 z4 z5 z6 z7 z8 z9 z10 z11 z12 z13 a2 z14 z15) gv_RX10_95 1 (by decide +kernel) rfl ⟨(Nat.le_of_ble_eq_true rfl), (Nat.le_of_ble_eq_true rfl)⟩ hl.1 rfl (Nat.le_of_ble_eq_true rfl) dX10_needOne_2 ⟨(Nat.le_of_ble_eq_true rfl), (Nat.le_of_ble_eq_true rfl)⟩ hP hD hS (pA hA hS) (fun _ _ => trivial) [0, 1] [] [0, 1, 2] rfl rfl rfl rfl rfl (by decide) 0 (ci := 12) rfl rfl rfl (fun u_1 H locs hP hD hS => ?_)
  have hP : va_P D vwCl [(a0, .inr (12, [.ref a1, .ref z0, .ref z1, .ref z2, .ref z3, .ref z4, .ref z5, .ref z6, .ref z7, .ref z8, .ref z9, .ref z10, .ref z11, .ref z12, .ref z13])), (a1, .inr (5, [.ref a2, .ref z14, .ref z15])), (a2, .inr (4, [.int 0, .ref z16, .ref z17, .ref z18]))] H := hP
  have hD : va_D (fun _ => True) [(a0, .inr (12, [.ref a1, .ref z0, .ref z1, .ref z2, .ref z3, .ref z4, .ref z5, .ref z6, .ref z7, .ref z8, .ref z9, .ref z10, .ref z11, .ref z12, .ref z13])), (a1, .inr (5, [.ref a2, .ref z14, .ref z15])), (a2, .inr (4, [.int 0, .ref z16, .ref z17, .ref z18]))] := hD
  refine W.widen (k := 0) (n := 0) (Nat.le_of_ble_eq_true rfl) (Nat.le_of_ble_eq_true rfl) ?_
  refine W.eq (g2 := F0 m 5 ls [.ref a2]) rfl ?_
  refine lv_astore_n (lv' := [(3, .ref a2), (0, .ref a0), (1, .int 112), (2, .int p0)]) hx hb dX10_needOne_5 rfl hl (by decide) rfl (fun ls hl => ?_)
  refine lv_aload_n hx hb dX10_needOne_6 rfl (lv_at hl 0 rfl) ?_
  refine lv_iload_n hx hb dX10_needOne_7 rfl (lv_at hl 3 rfl) ?_
  refine cV (l := l) (yM := yX2_has) (C := RX2) (As := [.int p0]) (rest := []) (wr := [(a0, .inr (12, [.ref a1, .ref z0, .ref z1, .ref z2, .ref z3, .ref z4, .ref z5, .ref z6, .ref z7, .ref z8, .ref z9, .ref z10, .ref z11, .ref z12, .ref z13])), (a1, .inr (5, [.ref a2, .ref z14, .ref z15])), (a2, .inr (4, [.int 0, .ref z16, .ref z17, .ref z18]))]) hF (c82_X2_has l a2 z16 z17 z18 p0) gv_RX10_216 1 (by decide +kernel) rfl ⟨(Nat.le_of_ble_eq_true rfl), (Nat.le_of_ble_eq_true rfl)⟩ hl.1 rfl (Nat.le_of_ble_eq_true rfl) dX10_needOne_8 ⟨(Nat.le_of_ble_eq_true rfl), (Nat.le_of_ble_eq_true rfl)⟩ hP hD hS (pA hA hS) (fun _ _ => trivial) [2] [] [0, 1, 2] rfl rfl rfl rfl rfl (by decide) 2 (ci := 4) rfl rfl rfl (fun u_2 H locs hP hD hS => ?_)
  have hP : va_P D vwCl [(a0, .inr (12, [.ref a1, .ref z0, .ref z1, .ref z2, .ref z3, .ref z4, .ref z5, .ref z6, .ref z7, .ref z8, .ref z9, .ref z10, .ref z11, .ref z12, .ref z13])), (a1, .inr (5, [.ref a2, .ref z14, .ref z15])), (a2, .inr (4, [.int 0, .ref z16, .ref z17, .ref z18]))] H := hP
  have hD : va_D (fun _ => True) [(a0, .inr (12, [.ref a1, .ref z0, .ref z1, .ref z2, .ref z3, .ref z4, .ref z5, .ref z6, .ref z7, .ref z8, .ref z9, .ref z10, .ref z11, .ref z12, .ref z13])), (a1, .inr (5, [.ref a2, .ref z14, .ref z15])), (a2, .inr (4, [.int 0, .ref z16, .ref z17, .ref z18]))] := hD
  refine W.widen (k := 0) (n := 0) (Nat.le_of_ble_eq_true rfl) (Nat.le_of_ble_eq_true rfl) ?_
  refine W.eq (g2 := F0 m 11 ls [.int 0]) rfl ?_
  refine lv_if_ne (tgt := 25) hx hb dX10_needOne_11 (by decide) (fun c => absurd (by decide) c) (fun _ => ?_)
  exact th_N (text := "no such one on this side") hF htb hlt wd_251 wd_252 (List.mem_of_getElem? (i := 8) rfl) exg3 exf3 exo3 hS hl.1 (Nat.le_of_ble_eq_true rfl) ⟨(Nat.le_of_ble_eq_true rfl), (Nat.le_of_ble_eq_true rfl)⟩ ⟨(Nat.le_of_ble_eq_true rfl), (Nat.le_of_ble_eq_true rfl)⟩ ⟨(Nat.le_of_ble_eq_true rfl), (Nat.le_of_ble_eq_true rfl)⟩ dX10_needOne_14 dX10_needOne_17 dX10_needOne_18 dX10_needOne_21 dX10_needOne_24

set_option maxHeartbeats 4000000 in
set_option maxRecDepth 100000 in
theorem c119_X10_read (l : Launch) (hlt : l.stackTraces = false) (a0 : Nat) (a1 : Nat) (a2 : Nat) (z0 : Nat) (z1 : Nat) (z2 : Nat) (z3 : Nat) (z4 : Nat) (z5 : Nat) (z6 : Nat) (z7 : Nat) (z8 : Nat) (z9 : Nat) (z10 : Nat) (z11 : Nat) (z12 : Nat) (z13 : Nat) (z14 : Nat) (z15 : Nat) (z16 : Nat) (z17 : Nat) (z18 : Nat) (p0 : Int32) : CX l (.code yX10_read cX10_read 5 (some .int)) yX10_read { frames := 7, cells := 1, slots := 6, locals := 113 } [.ref a0, .int 112, .int p0] (fun y => [(a0, .inr (12, [.ref a1, .ref z0, .ref z1, .ref z2, .ref z3, .ref z4, .ref z5, .ref z6, .ref z7, .ref z8, .ref z9, .ref z10, .ref z11, .ref z12, .ref z13])), (a1, .inr (5, [.ref a2, .ref z14, .ref z15])), (a2, .inr (4, [.int 0, .ref z16, .ref z17, .ref z18]))]) (fun _ => []) "java/util/NoSuchElementException" := by
  refine mkX (by decide) (Nat.le_of_ble_eq_true rfl) ?_
  intro p e s m args below meth c D y A ls hF htb hAe hP hD hS hl
  have hF : FX p e s m args meth c cX10_read 5 RX10 "read" D y A := hF
  obtain ⟨⟨hx, hb, hml, hown, hts⟩, hev, heh, hA, hlk, hnm⟩ := id hF
  have hK := hev.1
  have hP : va_P D vwCl [(a0, .inr (12, [.ref a1, .ref z0, .ref z1, .ref z2, .ref z3, .ref z4, .ref z5, .ref z6, .ref z7, .ref z8, .ref z9, .ref z10, .ref z11, .ref z12, .ref z13])), (a1, .inr (5, [.ref a2, .ref z14, .ref z15])), (a2, .inr (4, [.int 0, .ref z16, .ref z17, .ref z18]))] s.heap := hP
  have hD : va_D (fun _ => True) [(a0, .inr (12, [.ref a1, .ref z0, .ref z1, .ref z2, .ref z3, .ref z4, .ref z5, .ref z6, .ref z7, .ref z8, .ref z9, .ref z10, .ref z11, .ref z12, .ref z13])), (a1, .inr (5, [.ref a2, .ref z14, .ref z15])), (a2, .inr (4, [.int 0, .ref z16, .ref z17, .ref z18]))] := hD
  have hl : lv_has ls 5 [(0, .ref a0), (1, .int 112), (2, .int p0)] := hl
  refine lv_aload_n hx hb dX10_read_0 rfl (lv_at hl 0 rfl) ?_
  refine lv_iload_n hx hb dX10_read_1 rfl (lv_at hl 1 rfl) ?_
  refine lv_iload_n hx hb dX10_read_2 rfl (lv_at hl 2 rfl) ?_
  exact xV (l := l) (yM := yX10_needOne) (C := RX10) (As := [.int 112, .int p0]) (rest := []) hF htb (c119_X10_needOne l hlt a0 a1 a2 z0 z1 z2 z3 z4 z5 z6 z7 z8 z9 z10 z11 z12 z13 z14 z15 z16 z17 z18 p0) gv_RX10_161 2 (by decide +kernel) rfl ⟨(Nat.le_of_ble_eq_true rfl), (Nat.le_of_ble_eq_true rfl)⟩ hl.1 rfl (Nat.le_of_ble_eq_true rfl) dX10_read_3 ⟨(Nat.le_of_ble_eq_true rfl), (Nat.le_of_ble_eq_true rfl)⟩ hP hD hS (pA hA hS) [0, 1, 2] rfl rfl 0 (ci := 12) rfl rfl rfl ⟨(Nat.le_of_ble_eq_true rfl), (Nat.le_of_ble_eq_true rfl)⟩

set_option maxHeartbeats 4000000 in
set_option maxRecDepth 100000 in
theorem c119_L_read (l : Launch) (hlt : l.stackTraces = false) (a0 : Nat) (a1 : Nat) (a2 : Nat) (z0 : Nat) (z1 : Nat) (z2 : Nat) (z3 : Nat) (z4 : Nat) (z5 : Nat) (z6 : Nat) (z7 : Nat) (z8 : Nat) (z9 : Nat) (z10 : Nat) (z11 : Nat) (z12 : Nat) (z13 : Nat) (z14 : Nat) (z15 : Nat) (z16 : Nat) (z17 : Nat) (z18 : Nat) (p0 : Int32) (z19 : Nat) : CT l (.codeWith yL_read cL_read 5 (some .int) [(0, 10, 13, 13), (0, 10, 17, 24)]) yL_read { frames := 8, cells := 1, slots := 6, locals := 137 } [.ref a0, .int 112, .int p0, .ref z19] (fun y => [(a0, .inr (12, [.ref a1, .ref z0, .ref z1, .ref z2, .ref z3, .ref z4, .ref z5, .ref z6, .ref z7, .ref z8, .ref z9, .ref z10, .ref z11, .ref z12, .ref z13])), (a1, .inr (5, [.ref a2, .ref z14, .ref z15])), (a2, .inr (4, [.int 0, .ref z16, .ref z17, .ref z18]))]) (fun _ => []) (fun u => some (.int 2)) (fun y u => []) := by
  refine mkH (by decide) (Nat.le_of_ble_eq_true rfl) ?_
  intro p e s m args below meth c D y A ls hF htab hr hAe hP hD hS hl
  have hF : FX p e s m args meth c cL_read 5 RL "read" D y A := hF
  obtain ⟨⟨hx, hb, hml, hown, hts⟩, hev, heh, hA, hlk, hnm⟩ := id hF
  have hK := hev.1
  have hP : va_P D vwCl [(a0, .inr (12, [.ref a1, .ref z0, .ref z1, .ref z2, .ref z3, .ref z4, .ref z5, .ref z6, .ref z7, .ref z8, .ref z9, .ref z10, .ref z11, .ref z12, .ref z13])), (a1, .inr (5, [.ref a2, .ref z14, .ref z15])), (a2, .inr (4, [.int 0, .ref z16, .ref z17, .ref z18]))] s.heap := hP
  have hD : va_D (fun _ => True) [(a0, .inr (12, [.ref a1, .ref z0, .ref z1, .ref z2, .ref z3, .ref z4, .ref z5, .ref z6, .ref z7, .ref z8, .ref z9, .ref z10, .ref z11, .ref z12, .ref z13])), (a1, .inr (5, [.ref a2, .ref z14, .ref z15])), (a2, .inr (4, [.int 0, .ref z16, .ref z17, .ref z18]))] := hD
  have hl : lv_has ls 5 [(0, .ref a0), (1, .int 112), (2, .int p0), (3, .ref z19)] := hl
  refine lv_aload_n hx hb dL_read_0 rfl (lv_at hl 3 rfl) ?_
  refine lv_iconst (v := 0) hx hb dL_read_1 (by decide) ?_
  refine lv_aload_n hx hb dL_read_2 rfl (lv_at hl 0 rfl) ?_
  refine lv_iload_n hx hb dL_read_3 rfl (lv_at hl 1 rfl) ?_
  refine lv_iload_n hx hb dL_read_4 rfl (lv_at hl 2 rfl) ?_
  refine hV (wr := [(a0, .inr (12, [.ref a1, .ref z0, .ref z1, .ref z2, .ref z3, .ref z4, .ref z5, .ref z6, .ref z7, .ref z8, .ref z9, .ref z10, .ref z11, .ref z12, .ref z13])), (a1, .inr (5, [.ref a2, .ref z14, .ref z15])), (a2, .inr (4, [.int 0, .ref z16, .ref z17, .ref z18]))]) (name := "java/util/NoSuchElementException") (E0 := "java/util/NoSuchElementException") (l := l) (yM := yX10_read) (C := RX10) (As := [.int 112, .int p0]) (rest := [.int 0, .ref z19]) hF (c119_X10_read l hlt a0 a1 a2 z0 z1 z2 z3 z4 z5 z6 z7 z8 z9 z10 z11 z12 z13 z14 z15 z16 z17 z18 p0) gv_RL_38 2 (by decide +kernel) rfl ⟨(Nat.le_of_ble_eq_true rfl), (Nat.le_of_ble_eq_true rfl)⟩ hl.1 rfl (Nat.le_of_ble_eq_true rfl) dL_read_5 ⟨(Nat.le_of_ble_eq_true rfl), (Nat.le_of_ble_eq_true rfl)⟩ hP hD hS (pA hA hS) (fun _ _ => trivial) [0, 1, 2] [] [0, 1, 2] rfl rfl rfl rfl rfl (by decide) 0 (ci := 12) rfl rfl rfl [⟨0, 10, 13, 13⟩] ⟨0, 10, 17, 24⟩ [] htab (List.forall_mem_cons.mpr ⟨Or.inr ⟨by decide, "java/lang/IllegalArgumentException", wd_235, List.mem_of_getElem? (i := 0) rfl⟩, (fun z hz => nomatch hz)⟩) (by decide) (by decide) wd_261 (by decide) (fun q9 H locs hP hD hS => ?_)
  have hP : va_P D vwCl [(a0, .inr (12, [.ref a1, .ref z0, .ref z1, .ref z2, .ref z3, .ref z4, .ref z5, .ref z6, .ref z7, .ref z8, .ref z9, .ref z10, .ref z11, .ref z12, .ref z13])), (a1, .inr (5, [.ref a2, .ref z14, .ref z15])), (a2, .inr (4, [.int 0, .ref z16, .ref z17, .ref z18]))] H := hP
  have hD : va_D (fun _ => True) [(a0, .inr (12, [.ref a1, .ref z0, .ref z1, .ref z2, .ref z3, .ref z4, .ref z5, .ref z6, .ref z7, .ref z8, .ref z9, .ref z10, .ref z11, .ref z12, .ref z13])), (a1, .inr (5, [.ref a2, .ref z14, .ref z15])), (a2, .inr (4, [.int 0, .ref z16, .ref z17, .ref z18]))] := hD
  refine W.widen (k := 1) (n := 6) (Nat.le_of_ble_eq_true rfl) (Nat.le_of_ble_eq_true rfl) ?_
  refine W.eq (g2 := F0 m 17 ls [.ref q9]) rfl ?_
  refine lv_astore (lv' := [(4, .ref q9), (0, .ref a0), (1, .int 112), (2, .int p0), (3, .ref z19)]) hx hb dL_read_17 hl (by decide) rfl (fun ls hl => ?_)
  refine lv_iconst (v := 2) hx hb dL_read_19 (by decide) ?_
  exact e_i hF hr (Nat.le_of_ble_eq_true rfl) (Nat.le_of_ble_eq_true rfl) hS (qg_end hS (fun _ => 0) rfl [] hP rfl d_nil) dL_read_20

set_option maxHeartbeats 4000000 in
set_option maxRecDepth 100000 in
theorem c122_X11_isOne (l : Launch) (a0 : Nat) (a1 : Nat) (z0 : Nat) (z1 : Nat) (z2 : Nat) (z3 : Nat) (z4 : Nat) (z5 : Nat) (z6 : Nat) (z7 : Nat) (z8 : Nat) (z9 : Nat) (z10 : Nat) (z11 : Nat) (z12 : Nat) (p0 : Int32) : CT l (.code yX11_isOne cX11_isOne 3 (some .boolean)) yX11_isOne { frames := 1, cells := 0, slots := 0, locals := 22 } [.ref a0, .int 0, .int p0] (fun y => [(a0, .inr (13, [.ref a1, .ref z0, .ref z1, .ref z2, .ref z3, .ref z4, .int 45, .ref z5, .ref z6, .ref z7, .int 0, .ref z8, .ref z9, .int 0, .int 0, .int 0, .int 0, .ref z10, .int 0, .null, .ref z11, .ref z12])), (a1, .inl (y 0, 3, .inl (fun _ => 0)))]) (fun _ => []) (fun u => some (.int 0)) (fun y u => []) := by
  refine mkM (by decide) (Nat.le_of_ble_eq_true rfl) ?_
  intro p e s m args below meth c D y A ls hF hr hAe hP hD hS hl
  have hF : FX p e s m args meth c cX11_isOne 3 RX11 "isOne" D y A := hF
  obtain ⟨⟨hx, hb, hml, hown, hts⟩, hev, heh, hA, hlk, hnm⟩ := id hF
  have hK := hev.1
  have hP : va_P D vwCl [(a0, .inr (13, [.ref a1, .ref z0, .ref z1, .ref z2, .ref z3, .ref z4, .int 45, .ref z5, .ref z6, .ref z7, .int 0, .ref z8, .ref z9, .int 0, .int 0, .int 0, .int 0, .ref z10, .int 0, .null, .ref z11, .ref z12])), (a1, .inl (y 0, 3, .inl (fun _ => 0)))] s.heap := hP
  have hD : va_D (fun _ => True) [(a0, .inr (13, [.ref a1, .ref z0, .ref z1, .ref z2, .ref z3, .ref z4, .int 45, .ref z5, .ref z6, .ref z7, .int 0, .ref z8, .ref z9, .int 0, .int 0, .int 0, .int 0, .ref z10, .int 0, .null, .ref z11, .ref z12])), (a1, .inl (y 0, 3, .inl (fun _ => 0)))] := hD
  have hl : lv_has ls 3 [(0, .ref a0), (1, .int 0), (2, .int p0)] := hl
  refine lv_iload_n hx hb dX11_isOne_0 rfl (lv_at hl 1 rfl) ?_
  refine lv_if_lt (tgt := 24) hx hb dX11_isOne_1 (by decide) (fun c => absurd c (by decide)) (fun _ => ?_)
  refine lv_iload_n hx hb dX11_isOne_4 rfl (lv_at hl 2 rfl) ?_
  refine lv_iconst (v := 0) hx hb dX11_isOne_5 (by decide) ?_
  refine lv_aload_n hx hb dX11_isOne_6 rfl (lv_at hl 0 rfl) ?_
  refine va_get (D := D) (ci := 13) (v := .ref a1) (C := RX11) (T := TX11) (N := 22) hx hb hts inX11 hown hK hP 0 rfl rfl 0 (by decide) (hts _ wd_115) (fun _ h9 => h9) rfl dX11_isOne_7 ?_
  refine lv_iload_n hx hb dX11_isOne_10 rfl (lv_at hl 1 rfl) ?_
  refine va_iald hx hb hK hP 1 0 rfl rfl (vp_in_nI (n := 0) (by decide) (by decide)) dX11_isOne_11 ?_
  refine tp_i (v := 0) rfl ?_
  refine lv_iconst (v := 1) hx hb dX11_isOne_12 (by decide) ?_
  refine lv_isub hx hb dX11_isOne_13 ?_
  refine tp_i (v := (-1)) (by decide) ?_
  refine cS (l := l) (yM := yX11_in) (As := [.int p0, .int 0, .int (-1)]) (rest := []) (wr := [(a0, .inr (13, [.ref a1, .ref z0, .ref z1, .ref z2, .ref z3, .ref z4, .int 45, .ref z5, .ref z6, .ref z7, .int 0, .ref z8, .ref z9, .int 0, .int 0, .int 0, .int 0, .ref z10, .int 0, .null, .ref z11, .ref z12])), (a1, .inl (y 0, 3, .inl (fun _ => 0)))]) hF (c86_X11_in l p0) gs_RX11_78 3 (by decide +kernel) rfl ⟨(Nat.le_of_ble_eq_true rfl), (Nat.le_of_ble_eq_true rfl)⟩ hl.1 rfl (Nat.le_of_ble_eq_true rfl) dX11_isOne_14 ⟨(Nat.le_of_ble_eq_true rfl), (Nat.le_of_ble_eq_true rfl)⟩ hP hD hS (pA hA hS) (fun _ _ => trivial) [] [] [0, 1] rfl rfl rfl rfl rfl (by decide) (fun u_1 H locs hP hD hS => ?_)
  have hP : va_P D vwCl [(a0, .inr (13, [.ref a1, .ref z0, .ref z1, .ref z2, .ref z3, .ref z4, .int 45, .ref z5, .ref z6, .ref z7, .int 0, .ref z8, .ref z9, .int 0, .int 0, .int 0, .int 0, .ref z10, .int 0, .null, .ref z11, .ref z12])), (a1, .inl (y 0, 3, .inl (fun _ => 0)))] H := hP
  have hD : va_D (fun _ => True) [(a0, .inr (13, [.ref a1, .ref z0, .ref z1, .ref z2, .ref z3, .ref z4, .int 45, .ref z5, .ref z6, .ref z7, .int 0, .ref z8, .ref z9, .int 0, .int 0, .int 0, .int 0, .ref z10, .int 0, .null, .ref z11, .ref z12])), (a1, .inl (y 0, 3, .inl (fun _ => 0)))] := hD
  refine W.widen (k := 0) (n := 0) (Nat.le_of_ble_eq_true rfl) (Nat.le_of_ble_eq_true rfl) ?_
  refine W.eq (g2 := F0 m 17 ls [.int 0]) rfl ?_
  refine lv_if_eq (tgt := 24) hx hb dX11_isOne_17 (by decide) (fun _ => ?_) (fun c => absurd (by decide) c)
  refine lv_iconst (v := 0) hx hb dX11_isOne_24 (by decide) ?_
  exact e_z hF hr (by decide) (Nat.le_of_ble_eq_true rfl) (Nat.le_of_ble_eq_true rfl) hS (qg_end hS (fun _ => 0) rfl [] hP rfl d_nil) dX11_isOne_25

set_option maxHeartbeats 4000000 in
set_option maxRecDepth 100000 in
theorem c123_X11_fails (l : Launch) (a0 : Nat) (z0 : Nat) (z1 : Nat) (z2 : Nat) (z3 : Nat) (z4 : Nat) (z5 : Nat) (z6 : Nat) (z7 : Nat) (z8 : Nat) (z9 : Nat) (z10 : Nat) (z11 : Nat) (z12 : Nat) (z13 : Nat) : CT l (.code yX11_fails cX11_fails 4 (some .boolean)) yX11_fails { frames := 0, cells := 0, slots := 0, locals := 0 } [.ref a0, .int 0, .int 1, .int 0] (fun y => [(a0, .inr (13, [.ref z0, .ref z1, .ref z2, .ref z3, .ref z4, .ref z5, .int 45, .ref z6, .ref z7, .ref z8, .int 0, .ref z9, .ref z10, .int 0, .int 0, .int 0, .int 0, .ref z11, .int 0, .null, .ref z12, .ref z13]))]) (fun y => [(a0, .inr (13, [.ref z0, .ref z1, .ref z2, .ref z3, .ref z4, .ref z5, .int 45, .ref z6, .ref z7, .ref z8, .int 0, .ref z9, .ref z10, .int 0, .int 0, .int 0, .int 0, .ref z11, .int 0, .null, .ref z12, .ref z13]))]) (fun u => some (.int 1)) (fun y u => [(a0, .inr (13, [.ref z0, .ref z1, .ref z2, .ref z3, .ref z4, .ref z5, .int 45, .ref z6, .ref z7, .ref z8, .int 0, .ref z9, .ref z10, .int 0, .int 0, .int 2, .int 0, .ref z11, .int 0, .null, .ref z12, .ref z13]))]) := by
  refine mkM (by decide) (Nat.le_of_ble_eq_true rfl) ?_
  intro p e s m args below meth c D y A ls hF hr hAe hP hD hS hl
  have hF : FX p e s m args meth c cX11_fails 4 RX11 "fails" D y A := hF
  obtain ⟨⟨hx, hb, hml, hown, hts⟩, hev, heh, hA, hlk, hnm⟩ := id hF
  have hK := hev.1
  have hP : va_P D vwCl [(a0, .inr (13, [.ref z0, .ref z1, .ref z2, .ref z3, .ref z4, .ref z5, .int 45, .ref z6, .ref z7, .ref z8, .int 0, .ref z9, .ref z10, .int 0, .int 0, .int 0, .int 0, .ref z11, .int 0, .null, .ref z12, .ref z13]))] s.heap := hP
  have hD : va_D A [(a0, .inr (13, [.ref z0, .ref z1, .ref z2, .ref z3, .ref z4, .ref z5, .int 45, .ref z6, .ref z7, .ref z8, .int 0, .ref z9, .ref z10, .int 0, .int 0, .int 0, .int 0, .ref z11, .int 0, .null, .ref z12, .ref z13]))] := by rw [← hAe]; exact hD.self
  have hl : lv_has ls 4 [(0, .ref a0), (1, .int 0), (2, .int 1), (3, .int 0)] := hl
  refine lv_aload_n hx hb dX11_fails_0 rfl (lv_at hl 0 rfl) ?_
  refine lv_iload_n hx hb dX11_fails_1 rfl (lv_at hl 1 rfl) ?_
  refine lv_if_eq (tgt := 9) hx hb dX11_fails_2 (by decide) (fun _ => ?_) (fun c => absurd (by decide) c)
  refine lv_iload_n hx hb dX11_fails_9 rfl (lv_at hl 2 rfl) ?_
  refine lv_if_eq (tgt := 17) hx hb dX11_fails_10 (by decide) (fun c => absurd c (by decide)) (fun _ => ?_)
  refine lv_iconst (v := 2) hx hb dX11_fails_13 (by decide) ?_
  refine lv_goto (tgt := 26) hx hb dX11_fails_14 (by decide) ?_
  refine va_put (D := D) (ci := 13) (v := .int 2) (ty := .int) (C := RX11) (T := TX11) (N := 22) hx hb hts inX11 tyX11 tyX11_ok nmX11 hown hK hP hD hS 0 rfl rfl 15 (by decide) (hts _ wd_216) (fun _ h9 => h9) rfl (by decide +kernel) rfl rfl (Nat.le_of_ble_eq_true rfl) dX11_fails_26 (fun H locs hP hD hS => ?_)
  have hP : va_P D vwCl [(a0, .inr (13, [.ref z0, .ref z1, .ref z2, .ref z3, .ref z4, .ref z5, .int 45, .ref z6, .ref z7, .ref z8, .int 0, .ref z9, .ref z10, .int 0, .int 0, .int 2, .int 0, .ref z11, .int 0, .null, .ref z12, .ref z13]))] H := hP
  have hD : va_D A [(a0, .inr (13, [.ref z0, .ref z1, .ref z2, .ref z3, .ref z4, .ref z5, .int 45, .ref z6, .ref z7, .ref z8, .int 0, .ref z9, .ref z10, .int 0, .int 0, .int 2, .int 0, .ref z11, .int 0, .null, .ref z12, .ref z13]))] := hD
  refine lv_aload_n hx hb dX11_fails_29 rfl (lv_at hl 0 rfl) ?_
  refine va_get (D := D) (ci := 13) (v := .int 2) (C := RX11) (T := TX11) (N := 22) hx hb hts inX11 hown hK hP 0 rfl rfl 15 (by decide) (hts _ wd_216) (fun _ h9 => h9) rfl dX11_fails_30 ?_
  refine lv_if_le (tgt := 40) hx hb dX11_fails_33 (by decide) (fun c => absurd c (by decide)) (fun _ => ?_)
  refine lv_iconst (v := 1) hx hb dX11_fails_36 (by decide) ?_
  refine lv_goto (tgt := 41) hx hb dX11_fails_37 (by decide) ?_
  exact e_z hF hr (by decide) (Nat.le_of_ble_eq_true rfl) (Nat.le_of_ble_eq_true rfl) hS (qg_end hS (fun _ => 0) rfl [0] hP rfl (hD.sub [0] rfl rfl)) dX11_fails_41

set_option maxHeartbeats 4000000 in
set_option maxRecDepth 100000 in
theorem c122_X11_read (l : Launch) (a0 : Nat) (a1 : Nat) (z0 : Nat) (z1 : Nat) (z2 : Nat) (z3 : Nat) (z4 : Nat) (z5 : Nat) (z6 : Nat) (z7 : Nat) (z8 : Nat) (z9 : Nat) (z10 : Nat) (z11 : Nat) (z12 : Nat) (p0 : Int32) : CT l (.code yX11_read cX11_read 7 (some .int)) yX11_read { frames := 5, cells := 0, slots := 0, locals := 111 } [.ref a0, .int 112, .int p0] (fun y => [(a0, .inr (13, [.ref a1, .ref z0, .ref z1, .ref z2, .ref z3, .ref z4, .int 45, .ref z5, .ref z6, .ref z7, .int 0, .ref z8, .ref z9, .int 0, .int 0, .int 0, .int 0, .ref z10, .int 0, .null, .ref z11, .ref z12])), (a1, .inl (y 0, 3, .inl (fun _ => 0)))]) (fun y => [(a0, .inr (13, [.ref a1, .ref z0, .ref z1, .ref z2, .ref z3, .ref z4, .int 45, .ref z5, .ref z6, .ref z7, .int 0, .ref z8, .ref z9, .int 0, .int 0, .int 0, .int 0, .ref z10, .int 0, .null, .ref z11, .ref z12])), (a1, .inl (y 0, 3, .inl (fun _ => 0)))]) (fun u => some (.int 0)) (fun y u => [(a0, .inr (13, [.ref a1, .ref z0, .ref z1, .ref z2, .ref z3, .ref z4, .int 45, .ref z5, .ref z6, .ref z7, .int 0, .ref z8, .ref z9, .int 0, .int 0, .int 2, .int 0, .ref z10, .int 0, .null, .ref z11, .ref z12])), (a1, .inl (y 0, 3, .inl (fun _ => 0)))]) := by
  refine mkM (by decide) (Nat.le_of_ble_eq_true rfl) ?_
  intro p e s m args below meth c D y A ls hF hr hAe hP hD hS hl
  have hF : FX p e s m args meth c cX11_read 7 RX11 "read" D y A := hF
  obtain ⟨⟨hx, hb, hml, hown, hts⟩, hev, heh, hA, hlk, hnm⟩ := id hF
  have hK := hev.1
  have hP : va_P D vwCl [(a0, .inr (13, [.ref a1, .ref z0, .ref z1, .ref z2, .ref z3, .ref z4, .int 45, .ref z5, .ref z6, .ref z7, .int 0, .ref z8, .ref z9, .int 0, .int 0, .int 0, .int 0, .ref z10, .int 0, .null, .ref z11, .ref z12])), (a1, .inl (y 0, 3, .inl (fun _ => 0)))] s.heap := hP
  have hD : va_D A [(a0, .inr (13, [.ref a1, .ref z0, .ref z1, .ref z2, .ref z3, .ref z4, .int 45, .ref z5, .ref z6, .ref z7, .int 0, .ref z8, .ref z9, .int 0, .int 0, .int 0, .int 0, .ref z10, .int 0, .null, .ref z11, .ref z12])), (a1, .inl (y 0, 3, .inl (fun _ => 0)))] := by rw [← hAe]; exact hD.self
  have hl : lv_has ls 7 [(0, .ref a0), (1, .int 112), (2, .int p0)] := hl
  refine lv_iload_n hx hb dX11_read_0 rfl (lv_at hl 1 rfl) ?_
  refine cS (l := l) (yM := yX11_sideOf) (As := [.int 112]) (rest := []) (wr := [(a0, .inr (13, [.ref a1, .ref z0, .ref z1, .ref z2, .ref z3, .ref z4, .int 45, .ref z5, .ref z6, .ref z7, .int 0, .ref z8, .ref z9, .int 0, .int 0, .int 0, .int 0, .ref z10, .int 0, .null, .ref z11, .ref z12])), (a1, .inl (y 0, 3, .inl (fun _ => 0)))]) hF (c23_X11_sideOf l) gs_RX11_124 1 (by decide +kernel) rfl ⟨(Nat.le_of_ble_eq_true rfl), (Nat.le_of_ble_eq_true rfl)⟩ hl.1 rfl (Nat.le_of_ble_eq_true rfl) dX11_read_1 ⟨(Nat.le_of_ble_eq_true rfl), (Nat.le_of_ble_eq_true rfl)⟩ hP hD hS (pA hA hS) (fun _ h => h) [] [] [0, 1] rfl rfl rfl rfl rfl (by decide) (fun u_1 H locs hP hD hS => ?_)
  have hP : va_P D vwCl [(a0, .inr (13, [.ref a1, .ref z0, .ref z1, .ref z2, .ref z3, .ref z4, .int 45, .ref z5, .ref z6, .ref z7, .int 0, .ref z8, .ref z9, .int 0, .int 0, .int 0, .int 0, .ref z10, .int 0, .null, .ref z11, .ref z12])), (a1, .inl (y 0, 3, .inl (fun _ => 0)))] H := hP
  have hD : va_D A [(a0, .inr (13, [.ref a1, .ref z0, .ref z1, .ref z2, .ref z3, .ref z4, .int 45, .ref z5, .ref z6, .ref z7, .int 0, .ref z8, .ref z9, .int 0, .int 0, .int 0, .int 0, .ref z10, .int 0, .null, .ref z11, .ref z12])), (a1, .inl (y 0, 3, .inl (fun _ => 0)))] := hD
  refine W.widen (k := 0) (n := 0) (Nat.le_of_ble_eq_true rfl) (Nat.le_of_ble_eq_true rfl) ?_
  refine W.eq (g2 := F0 m 4 ls [.int 0]) rfl ?_
  refine lv_istore_n (lv' := [(3, .int 0), (0, .ref a0), (1, .int 112), (2, .int p0)]) hx hb dX11_read_4 rfl hl (by decide) rfl (fun ls hl => ?_)
  refine lv_aload_n hx hb dX11_read_5 rfl (lv_at hl 1 rfl) ?_
  refine lv_iload_n hx hb dX11_read_6 rfl (lv_at hl 0 rfl) ?_
  refine lv_if_ge (tgt := 14) hx hb dX11_read_7 (by decide) (fun _ => ?_) (fun c => absurd (by decide) c)
  refine lv_iconst (v := 0) hx hb dX11_read_14 (by decide) ?_
  refine lv_aload_n hx hb dX11_read_15 rfl (lv_at hl 1 rfl) ?_
  refine lv_iload_n hx hb dX11_read_16 rfl (lv_at hl 0 rfl) ?_
  refine lv_iload_n hx hb dX11_read_17 rfl (lv_at hl 3 rfl) ?_
  refine cV (l := l) (yM := yX11_isOne) (C := RX11) (As := [.int 0, .int p0]) (rest := [.int 0, .ref a0]) (wr := [(a0, .inr (13, [.ref a1, .ref z0, .ref z1, .ref z2, .ref z3, .ref z4, .int 45, .ref z5, .ref z6, .ref z7, .int 0, .ref z8, .ref z9, .int 0, .int 0, .int 0, .int 0, .ref z10, .int 0, .null, .ref z11, .ref z12])), (a1, .inl (y 0, 3, .inl (fun _ => 0)))]) hF (c122_X11_isOne l a0 a1 z0 z1 z2 z3 z4 z5 z6 z7 z8 z9 z10 z11 z12 p0) gv_RX11_155 2 (by decide +kernel) rfl ⟨(Nat.le_of_ble_eq_true rfl), (Nat.le_of_ble_eq_true rfl)⟩ hl.1 rfl (Nat.le_of_ble_eq_true rfl) dX11_read_18 ⟨(Nat.le_of_ble_eq_true rfl), (Nat.le_of_ble_eq_true rfl)⟩ hP hD hS (pA hA hS) (fun _ h => h) [0, 1] [] [0, 1] rfl rfl rfl rfl rfl (by decide) 0 (ci := 13) rfl rfl rfl (fun u_2 H locs hP hD hS => ?_)
  have hP : va_P D vwCl [(a0, .inr (13, [.ref a1, .ref z0, .ref z1, .ref z2, .ref z3, .ref z4, .int 45, .ref z5, .ref z6, .ref z7, .int 0, .ref z8, .ref z9, .int 0, .int 0, .int 0, .int 0, .ref z10, .int 0, .null, .ref z11, .ref z12])), (a1, .inl (y 0, 3, .inl (fun _ => 0)))] H := hP
  have hD : va_D A [(a0, .inr (13, [.ref a1, .ref z0, .ref z1, .ref z2, .ref z3, .ref z4, .int 45, .ref z5, .ref z6, .ref z7, .int 0, .ref z8, .ref z9, .int 0, .int 0, .int 0, .int 0, .ref z10, .int 0, .null, .ref z11, .ref z12])), (a1, .inl (y 0, 3, .inl (fun _ => 0)))] := hD
  refine W.widen (k := 0) (n := 0) (Nat.le_of_ble_eq_true rfl) (Nat.le_of_ble_eq_true rfl) ?_
  refine W.eq (g2 := F0 m 21 ls [.int 0, .int 0, .ref a0]) rfl ?_
  refine lv_if_ne (tgt := 28) hx hb dX11_read_21 (by decide) (fun c => absurd (by decide) c) (fun _ => ?_)
  refine lv_iconst (v := 1) hx hb dX11_read_24 (by decide) ?_
  refine lv_goto (tgt := 29) hx hb dX11_read_25 (by decide) ?_
  refine lv_iconst (v := 0) hx hb dX11_read_29 (by decide) ?_
  refine cV (l := l) (yM := yX11_fails) (C := RX11) (As := [.int 0, .int 1, .int 0]) (rest := []) (wr := [(a1, .inl (y 0, 3, .inl (fun _ => 0)))]) hF (c123_X11_fails l a0 a1 z0 z1 z2 z3 z4 z5 z6 z7 z8 z9 z10 z11 z12) gv_RX11_128 3 (by decide +kernel) rfl ⟨(Nat.le_of_ble_eq_true rfl), (Nat.le_of_ble_eq_true rfl)⟩ hl.1 rfl (Nat.le_of_ble_eq_true rfl) dX11_read_30 ⟨(Nat.le_of_ble_eq_true rfl), (Nat.le_of_ble_eq_true rfl)⟩ hP hD hS (va_free (wc := [(a0, .inr (13, [.ref a1, .ref z0, .ref z1, .ref z2, .ref z3, .ref z4, .int 45, .ref z5, .ref z6, .ref z7, .int 0, .ref z8, .ref z9, .int 0, .int 0, .int 0, .int 0, .ref z10, .int 0, .null, .ref z11, .ref z12]))]) hD hS hA [0] rfl) (fun _ h => h) [0] [0] [1] rfl rfl rfl rfl rfl (by decide) 0 (ci := 13) rfl rfl rfl (fun u_3 H locs hP hD hS => ?_)
  have hP : va_P D vwCl [(a1, .inl (y 0, 3, .inl (fun _ => 0))), (a0, .inr (13, [.ref a1, .ref z0, .ref z1, .ref z2, .ref z3, .ref z4, .int 45, .ref z5, .ref z6, .ref z7, .int 0, .ref z8, .ref z9, .int 0, .int 0, .int 2, .int 0, .ref z10, .int 0, .null, .ref z11, .ref z12]))] H := hP
  have hD : va_D A [(a1, .inl (y 0, 3, .inl (fun _ => 0))), (a0, .inr (13, [.ref a1, .ref z0, .ref z1, .ref z2, .ref z3, .ref z4, .int 45, .ref z5, .ref z6, .ref z7, .int 0, .ref z8, .ref z9, .int 0, .int 0, .int 2, .int 0, .ref z10, .int 0, .null, .ref z11, .ref z12]))] := hD
  refine W.widen (k := 0) (n := 0) (Nat.le_of_ble_eq_true rfl) (Nat.le_of_ble_eq_true rfl) ?_
  refine W.eq (g2 := F0 m 33 ls [.int 1]) rfl ?_
  refine lv_if_eq (tgt := 38) hx hb dX11_read_33 (by decide) (fun c => absurd c (by decide)) (fun _ => ?_)
  refine lv_iconst (v := 0) hx hb dX11_read_36 (by decide) ?_
  exact e_i hF hr (Nat.le_of_ble_eq_true rfl) (Nat.le_of_ble_eq_true rfl) hS (qg_end hS (fun _ => 0) rfl [1, 0] hP rfl (hD.sub [1, 0] rfl rfl)) dX11_read_37

set_option maxHeartbeats 4000000 in
set_option maxRecDepth 100000 in
theorem c125_X11_thrown (l : Launch) (a0 : Nat) (z0 : Nat) (z1 : Nat) (z2 : Nat) (z3 : Nat) (z4 : Nat) (z5 : Nat) (z6 : Nat) (z7 : Nat) (z8 : Nat) (z9 : Nat) (z10 : Nat) (z11 : Nat) (z12 : Nat) (z13 : Nat) : CT l (.code yX11_thrown cX11_thrown 1 (some .int)) yX11_thrown { frames := 0, cells := 0, slots := 0, locals := 0 } [.ref a0] (fun y => [(a0, .inr (13, [.ref z0, .ref z1, .ref z2, .ref z3, .ref z4, .ref z5, .int 45, .ref z6, .ref z7, .ref z8, .int 0, .ref z9, .ref z10, .int 0, .int 0, .int 2, .int 0, .ref z11, .int 0, .null, .ref z12, .ref z13]))]) (fun _ => []) (fun u => some (.int 2)) (fun y u => []) := by
  refine mkM (by decide) (Nat.le_of_ble_eq_true rfl) ?_
  intro p e s m args below meth c D y A ls hF hr hAe hP hD hS hl
  have hF : FX p e s m args meth c cX11_thrown 1 RX11 "thrown" D y A := hF
  obtain ⟨⟨hx, hb, hml, hown, hts⟩, hev, heh, hA, hlk, hnm⟩ := id hF
  have hK := hev.1
  have hP : va_P D vwCl [(a0, .inr (13, [.ref z0, .ref z1, .ref z2, .ref z3, .ref z4, .ref z5, .int 45, .ref z6, .ref z7, .ref z8, .int 0, .ref z9, .ref z10, .int 0, .int 0, .int 2, .int 0, .ref z11, .int 0, .null, .ref z12, .ref z13]))] s.heap := hP
  have hD : va_D (fun _ => True) [(a0, .inr (13, [.ref z0, .ref z1, .ref z2, .ref z3, .ref z4, .ref z5, .int 45, .ref z6, .ref z7, .ref z8, .int 0, .ref z9, .ref z10, .int 0, .int 0, .int 2, .int 0, .ref z11, .int 0, .null, .ref z12, .ref z13]))] := hD
  have hl : lv_has ls 1 [(0, .ref a0)] := hl
  refine lv_aload_n hx hb dX11_thrown_0 rfl (lv_at hl 0 rfl) ?_
  refine va_get (D := D) (ci := 13) (v := .int 2) (C := RX11) (T := TX11) (N := 22) hx hb hts inX11 hown hK hP 0 rfl rfl 15 (by decide) (hts _ wd_216) (fun _ h9 => h9) rfl dX11_thrown_1 ?_
  exact e_i hF hr (Nat.le_of_ble_eq_true rfl) (Nat.le_of_ble_eq_true rfl) hS (qg_end hS (fun _ => 0) rfl [] hP rfl d_nil) dX11_thrown_4

set_option maxHeartbeats 4000000 in
set_option maxRecDepth 100000 in
theorem c126_X10_needOne (l : Launch) (hlt : l.stackTraces = false) (a0 : Nat) (a1 : Nat) (a2 : Nat) (z0 : Nat) (z1 : Nat) (z2 : Nat) (z3 : Nat) (z4 : Nat) (z5 : Nat) (z6 : Nat) (z7 : Nat) (z8 : Nat) (z9 : Nat) (z10 : Nat) (z11 : Nat) (z12 : Nat) (z13 : Nat) (z14 : Nat) (z15 : Nat) (z16 : Nat) (z17 : Nat) (z18 : Nat) (p0 : Int32) : CX l (.code yX10_needOne cX10_needOne 4 (some (.object "StablepairBureau$Lists"))) yX10_needOne { frames := 6, cells := 1, slots := 6, locals := 90 } [.ref a0, .int 104, .int p0] (fun y => [(a0, .inr (12, [.ref a1, .ref z0, .ref z1, .ref z2, .ref z3, .ref z4, .ref z5, .ref z6, .ref z7, .ref z8, .ref z9, .ref z10, .ref z11, .ref z12, .ref z13])), (a1, .inr (5, [.ref z14, .ref a2, .ref z15])), (a2, .inr (4, [.int 0, .ref z16, .ref z17, .ref z18]))]) (fun _ => []) "java/util/NoSuchElementException" := by
  refine mkX (by decide) (Nat.le_of_ble_eq_true rfl) ?_
  intro p e s m args below meth c D y A ls hF htb hAe hP hD hS hl
  have hF : FX p e s m args meth c cX10_needOne 4 RX10 "needOne" D y A := hF
  obtain ⟨⟨hx, hb, hml, hown, hts⟩, hev, heh, hA, hlk, hnm⟩ := id hF
  have hK := hev.1
  have hP : va_P D vwCl [(a0, .inr (12, [.ref a1, .ref z0, .ref z1, .ref z2, .ref z3, .ref z4, .ref z5, .ref z6, .ref z7, .ref z8, .ref z9, .ref z10, .ref z11, .ref z12, .ref z13])), (a1, .inr (5, [.ref z14, .ref a2, .ref z15])), (a2, .inr (4, [.int 0, .ref z16, .ref z17, .ref z18]))] s.heap := hP
  have hD : va_D (fun _ => True) [(a0, .inr (12, [.ref a1, .ref z0, .ref z1, .ref z2, .ref z3, .ref z4, .ref z5, .ref z6, .ref z7, .ref z8, .ref z9, .ref z10, .ref z11, .ref z12, .ref z13])), (a1, .inr (5, [.ref z14, .ref a2, .ref z15])), (a2, .inr (4, [.int 0, .ref z16, .ref z17, .ref z18]))] := hD
  have hl : lv_has ls 4 [(0, .ref a0), (1, .int 104), (2, .int p0)] := hl
  refine lv_aload_n hx hb dX10_needOne_0 rfl (lv_at hl 0 rfl) ?_
  refine lv_iload_n hx hb dX10_needOne_1 rfl (lv_at hl 1 rfl) ?_
  refine cV (l := l) (yM := yX10_needSide) (C := RX10) (As := [.int 104]) (rest := []) (wr := [(a0, .inr (12, [.ref a1, .ref z0, .ref z1, .ref z2, .ref z3, .ref z4, .ref z5, .ref z6, .ref z7, .ref z8, .ref z9, .ref z10, .ref z11, .ref z12, .ref z13])), (a1, .inr (5, [.ref z14, .ref a2, .ref z15])), (a2, .inr (4, [.int 0, .ref z16, .ref z17, .ref z18]))]) hF (c36_X10_needSide l a0 a1 z0 z1 z2 z3 z4 z5 z6 z7 z8 z9 z10 z11 z12 z13 z14 a2 z15) gv_RX10_95 1 (by decide +kernel) rfl ⟨(Nat.le_of_ble_eq_true rfl), (Nat.le_of_ble_eq_true rfl)⟩ hl.1 rfl (Nat.le_of_ble_eq_true rfl) dX10_needOne_2 ⟨(Nat.le_of_ble_eq_true rfl), (Nat.le_of_ble_eq_true rfl)⟩ hP hD hS (pA hA hS) (fun _ _ => trivial) [0, 1] [] [0, 1, 2] rfl rfl rfl rfl rfl (by decide) 0 (ci := 12) rfl rfl rfl (fun u_1 H locs hP hD hS => ?_)
  have hP : va_P D vwCl [(a0, .inr (12, [.ref a1, .ref z0, .ref z1, .ref z2, .ref z3, .ref z4, .ref z5, .ref z6, .ref z7, .ref z8, .ref z9, .ref z10, .ref z11, .ref z12, .ref z13])), (a1, .inr (5, [.ref z14, .ref a2, .ref z15])), (a2, .inr (4, [.int 0, .ref z16, .ref z17, .ref z18]))] H := hP
  have hD : va_D (fun _ => True) [(a0, .inr (12, [.ref a1, .ref z0, .ref z1, .ref z2, .ref z3, .ref z4, .ref z5, .ref z6, .ref z7, .ref z8, .ref z9, .ref z10, .ref z11, .ref z12, .ref z13])), (a1, .inr (5, [.ref z14, .ref a2, .ref z15])), (a2, .inr (4, [.int 0, .ref z16, .ref z17, .ref z18]))] := hD
  refine W.widen (k := 0) (n := 0) (Nat.le_of_ble_eq_true rfl) (Nat.le_of_ble_eq_true rfl) ?_
  refine W.eq (g2 := F0 m 5 ls [.ref a2]) rfl ?_
  refine lv_astore_n (lv' := [(3, .ref a2), (0, .ref a0), (1, .int 104), (2, .int p0)]) hx hb dX10_needOne_5 rfl hl (by decide) rfl (fun ls hl => ?_)
  refine lv_aload_n hx hb dX10_needOne_6 rfl (lv_at hl 0 rfl) ?_
  refine lv_iload_n hx hb dX10_needOne_7 rfl (lv_at hl 3 rfl) ?_
  refine cV (l := l) (yM := yX2_has) (C := RX2) (As := [.int p0]) (rest := []) (wr := [(a0, .inr (12, [.ref a1, .ref z0, .ref z1, .ref z2, .ref z3, .ref z4, .ref z5, .ref z6, .ref z7, .ref z8, .ref z9, .ref z10, .ref z11, .ref z12, .ref z13])), (a1, .inr (5, [.ref z14, .ref a2, .ref z15])), (a2, .inr (4, [.int 0, .ref z16, .ref z17, .ref z18]))]) hF (c82_X2_has l a2 z16 z17 z18 p0) gv_RX10_216 1 (by decide +kernel) rfl ⟨(Nat.le_of_ble_eq_true rfl), (Nat.le_of_ble_eq_true rfl)⟩ hl.1 rfl (Nat.le_of_ble_eq_true rfl) dX10_needOne_8 ⟨(Nat.le_of_ble_eq_true rfl), (Nat.le_of_ble_eq_true rfl)⟩ hP hD hS (pA hA hS) (fun _ _ => trivial) [2] [] [0, 1, 2] rfl rfl rfl rfl rfl (by decide) 2 (ci := 4) rfl rfl rfl (fun u_2 H locs hP hD hS => ?_)
  have hP : va_P D vwCl [(a0, .inr (12, [.ref a1, .ref z0, .ref z1, .ref z2, .ref z3, .ref z4, .ref z5, .ref z6, .ref z7, .ref z8, .ref z9, .ref z10, .ref z11, .ref z12, .ref z13])), (a1, .inr (5, [.ref z14, .ref a2, .ref z15])), (a2, .inr (4, [.int 0, .ref z16, .ref z17, .ref z18]))] H := hP
  have hD : va_D (fun _ => True) [(a0, .inr (12, [.ref a1, .ref z0, .ref z1, .ref z2, .ref z3, .ref z4, .ref z5, .ref z6, .ref z7, .ref z8, .ref z9, .ref z10, .ref z11, .ref z12, .ref z13])), (a1, .inr (5, [.ref z14, .ref a2, .ref z15])), (a2, .inr (4, [.int 0, .ref z16, .ref z17, .ref z18]))] := hD
  refine W.widen (k := 0) (n := 0) (Nat.le_of_ble_eq_true rfl) (Nat.le_of_ble_eq_true rfl) ?_
  refine W.eq (g2 := F0 m 11 ls [.int 0]) rfl ?_
  refine lv_if_ne (tgt := 25) hx hb dX10_needOne_11 (by decide) (fun c => absurd (by decide) c) (fun _ => ?_)
  exact th_N (text := "no such one on this side") hF htb hlt wd_251 wd_252 (List.mem_of_getElem? (i := 8) rfl) exg3 exf3 exo3 hS hl.1 (Nat.le_of_ble_eq_true rfl) ⟨(Nat.le_of_ble_eq_true rfl), (Nat.le_of_ble_eq_true rfl)⟩ ⟨(Nat.le_of_ble_eq_true rfl), (Nat.le_of_ble_eq_true rfl)⟩ ⟨(Nat.le_of_ble_eq_true rfl), (Nat.le_of_ble_eq_true rfl)⟩ dX10_needOne_14 dX10_needOne_17 dX10_needOne_18 dX10_needOne_21 dX10_needOne_24

set_option maxHeartbeats 4000000 in
set_option maxRecDepth 100000 in
theorem c126_X10_read (l : Launch) (hlt : l.stackTraces = false) (a0 : Nat) (a1 : Nat) (a2 : Nat) (z0 : Nat) (z1 : Nat) (z2 : Nat) (z3 : Nat) (z4 : Nat) (z5 : Nat) (z6 : Nat) (z7 : Nat) (z8 : Nat) (z9 : Nat) (z10 : Nat) (z11 : Nat) (z12 : Nat) (z13 : Nat) (z14 : Nat) (z15 : Nat) (z16 : Nat) (z17 : Nat) (z18 : Nat) (p0 : Int32) : CX l (.code yX10_read cX10_read 5 (some .int)) yX10_read { frames := 7, cells := 1, slots := 6, locals := 113 } [.ref a0, .int 104, .int p0] (fun y => [(a0, .inr (12, [.ref a1, .ref z0, .ref z1, .ref z2, .ref z3, .ref z4, .ref z5, .ref z6, .ref z7, .ref z8, .ref z9, .ref z10, .ref z11, .ref z12, .ref z13])), (a1, .inr (5, [.ref z14, .ref a2, .ref z15])), (a2, .inr (4, [.int 0, .ref z16, .ref z17, .ref z18]))]) (fun _ => []) "java/util/NoSuchElementException" := by
  refine mkX (by decide) (Nat.le_of_ble_eq_true rfl) ?_
  intro p e s m args below meth c D y A ls hF htb hAe hP hD hS hl
  have hF : FX p e s m args meth c cX10_read 5 RX10 "read" D y A := hF
  obtain ⟨⟨hx, hb, hml, hown, hts⟩, hev, heh, hA, hlk, hnm⟩ := id hF
  have hK := hev.1
  have hP : va_P D vwCl [(a0, .inr (12, [.ref a1, .ref z0, .ref z1, .ref z2, .ref z3, .ref z4, .ref z5, .ref z6, .ref z7, .ref z8, .ref z9, .ref z10, .ref z11, .ref z12, .ref z13])), (a1, .inr (5, [.ref z14, .ref a2, .ref z15])), (a2, .inr (4, [.int 0, .ref z16, .ref z17, .ref z18]))] s.heap := hP
  have hD : va_D (fun _ => True) [(a0, .inr (12, [.ref a1, .ref z0, .ref z1, .ref z2, .ref z3, .ref z4, .ref z5, .ref z6, .ref z7, .ref z8, .ref z9, .ref z10, .ref z11, .ref z12, .ref z13])), (a1, .inr (5, [.ref z14, .ref a2, .ref z15])), (a2, .inr (4, [.int 0, .ref z16, .ref z17, .ref z18]))] := hD
  have hl : lv_has ls 5 [(0, .ref a0), (1, .int 104), (2, .int p0)] := hl
  refine lv_aload_n hx hb dX10_read_0 rfl (lv_at hl 0 rfl) ?_
  refine lv_iload_n hx hb dX10_read_1 rfl (lv_at hl 1 rfl) ?_
  refine lv_iload_n hx hb dX10_read_2 rfl (lv_at hl 2 rfl) ?_
  exact xV (l := l) (yM := yX10_needOne) (C := RX10) (As := [.int 104, .int p0]) (rest := []) hF htb (c126_X10_needOne l hlt a0 a1 a2 z0 z1 z2 z3 z4 z5 z6 z7 z8 z9 z10 z11 z12 z13 z14 z15 z16 z17 z18 p0) gv_RX10_161 2 (by decide +kernel) rfl ⟨(Nat.le_of_ble_eq_true rfl), (Nat.le_of_ble_eq_true rfl)⟩ hl.1 rfl (Nat.le_of_ble_eq_true rfl) dX10_read_3 ⟨(Nat.le_of_ble_eq_true rfl), (Nat.le_of_ble_eq_true rfl)⟩ hP hD hS (pA hA hS) [0, 1, 2] rfl rfl 0 (ci := 12) rfl rfl rfl ⟨(Nat.le_of_ble_eq_true rfl), (Nat.le_of_ble_eq_true rfl)⟩

set_option maxHeartbeats 4000000 in
set_option maxRecDepth 100000 in
theorem c126_L_read (l : Launch) (hlt : l.stackTraces = false) (a0 : Nat) (a1 : Nat) (a2 : Nat) (z0 : Nat) (z1 : Nat) (z2 : Nat) (z3 : Nat) (z4 : Nat) (z5 : Nat) (z6 : Nat) (z7 : Nat) (z8 : Nat) (z9 : Nat) (z10 : Nat) (z11 : Nat) (z12 : Nat) (z13 : Nat) (z14 : Nat) (z15 : Nat) (z16 : Nat) (z17 : Nat) (z18 : Nat) (p0 : Int32) (z19 : Nat) : CT l (.codeWith yL_read cL_read 5 (some .int) [(0, 10, 13, 13), (0, 10, 17, 24)]) yL_read { frames := 8, cells := 1, slots := 6, locals := 137 } [.ref a0, .int 104, .int p0, .ref z19] (fun y => [(a0, .inr (12, [.ref a1, .ref z0, .ref z1, .ref z2, .ref z3, .ref z4, .ref z5, .ref z6, .ref z7, .ref z8, .ref z9, .ref z10, .ref z11, .ref z12, .ref z13])), (a1, .inr (5, [.ref z14, .ref a2, .ref z15])), (a2, .inr (4, [.int 0, .ref z16, .ref z17, .ref z18]))]) (fun _ => []) (fun u => some (.int 2)) (fun y u => []) := by
  refine mkH (by decide) (Nat.le_of_ble_eq_true rfl) ?_
  intro p e s m args below meth c D y A ls hF htab hr hAe hP hD hS hl
  have hF : FX p e s m args meth c cL_read 5 RL "read" D y A := hF
  obtain ⟨⟨hx, hb, hml, hown, hts⟩, hev, heh, hA, hlk, hnm⟩ := id hF
  have hK := hev.1
  have hP : va_P D vwCl [(a0, .inr (12, [.ref a1, .ref z0, .ref z1, .ref z2, .ref z3, .ref z4, .ref z5, .ref z6, .ref z7, .ref z8, .ref z9, .ref z10, .ref z11, .ref z12, .ref z13])), (a1, .inr (5, [.ref z14, .ref a2, .ref z15])), (a2, .inr (4, [.int 0, .ref z16, .ref z17, .ref z18]))] s.heap := hP
  have hD : va_D (fun _ => True) [(a0, .inr (12, [.ref a1, .ref z0, .ref z1, .ref z2, .ref z3, .ref z4, .ref z5, .ref z6, .ref z7, .ref z8, .ref z9, .ref z10, .ref z11, .ref z12, .ref z13])), (a1, .inr (5, [.ref z14, .ref a2, .ref z15])), (a2, .inr (4, [.int 0, .ref z16, .ref z17, .ref z18]))] := hD
  have hl : lv_has ls 5 [(0, .ref a0), (1, .int 104), (2, .int p0), (3, .ref z19)] := hl
  refine lv_aload_n hx hb dL_read_0 rfl (lv_at hl 3 rfl) ?_
  refine lv_iconst (v := 0) hx hb dL_read_1 (by decide) ?_
  refine lv_aload_n hx hb dL_read_2 rfl (lv_at hl 0 rfl) ?_
  refine lv_iload_n hx hb dL_read_3 rfl (lv_at hl 1 rfl) ?_
  refine lv_iload_n hx hb dL_read_4 rfl (lv_at hl 2 rfl) ?_
  refine hV (wr := [(a0, .inr (12, [.ref a1, .ref z0, .ref z1, .ref z2, .ref z3, .ref z4, .ref z5, .ref z6, .ref z7, .ref z8, .ref z9, .ref z10, .ref z11, .ref z12, .ref z13])), (a1, .inr (5, [.ref z14, .ref a2, .ref z15])), (a2, .inr (4, [.int 0, .ref z16, .ref z17, .ref z18]))]) (name := "java/util/NoSuchElementException") (E0 := "java/util/NoSuchElementException") (l := l) (yM := yX10_read) (C := RX10) (As := [.int 104, .int p0]) (rest := [.int 0, .ref z19]) hF (c126_X10_read l hlt a0 a1 a2 z0 z1 z2 z3 z4 z5 z6 z7 z8 z9 z10 z11 z12 z13 z14 z15 z16 z17 z18 p0) gv_RL_38 2 (by decide +kernel) rfl ⟨(Nat.le_of_ble_eq_true rfl), (Nat.le_of_ble_eq_true rfl)⟩ hl.1 rfl (Nat.le_of_ble_eq_true rfl) dL_read_5 ⟨(Nat.le_of_ble_eq_true rfl), (Nat.le_of_ble_eq_true rfl)⟩ hP hD hS (pA hA hS) (fun _ _ => trivial) [0, 1, 2] [] [0, 1, 2] rfl rfl rfl rfl rfl (by decide) 0 (ci := 12) rfl rfl rfl [⟨0, 10, 13, 13⟩] ⟨0, 10, 17, 24⟩ [] htab (List.forall_mem_cons.mpr ⟨Or.inr ⟨by decide, "java/lang/IllegalArgumentException", wd_235, List.mem_of_getElem? (i := 0) rfl⟩, (fun z hz => nomatch hz)⟩) (by decide) (by decide) wd_261 (by decide) (fun q9 H locs hP hD hS => ?_)
  have hP : va_P D vwCl [(a0, .inr (12, [.ref a1, .ref z0, .ref z1, .ref z2, .ref z3, .ref z4, .ref z5, .ref z6, .ref z7, .ref z8, .ref z9, .ref z10, .ref z11, .ref z12, .ref z13])), (a1, .inr (5, [.ref z14, .ref a2, .ref z15])), (a2, .inr (4, [.int 0, .ref z16, .ref z17, .ref z18]))] H := hP
  have hD : va_D (fun _ => True) [(a0, .inr (12, [.ref a1, .ref z0, .ref z1, .ref z2, .ref z3, .ref z4, .ref z5, .ref z6, .ref z7, .ref z8, .ref z9, .ref z10, .ref z11, .ref z12, .ref z13])), (a1, .inr (5, [.ref z14, .ref a2, .ref z15])), (a2, .inr (4, [.int 0, .ref z16, .ref z17, .ref z18]))] := hD
  refine W.widen (k := 1) (n := 6) (Nat.le_of_ble_eq_true rfl) (Nat.le_of_ble_eq_true rfl) ?_
  refine W.eq (g2 := F0 m 17 ls [.ref q9]) rfl ?_
  refine lv_astore (lv' := [(4, .ref q9), (0, .ref a0), (1, .int 104), (2, .int p0), (3, .ref z19)]) hx hb dL_read_17 hl (by decide) rfl (fun ls hl => ?_)
  refine lv_iconst (v := 2) hx hb dL_read_19 (by decide) ?_
  exact e_i hF hr (Nat.le_of_ble_eq_true rfl) (Nat.le_of_ble_eq_true rfl) hS (qg_end hS (fun _ => 0) rfl [] hP rfl d_nil) dL_read_20

set_option maxHeartbeats 4000000 in
set_option maxRecDepth 100000 in
theorem c129_X11_isOne (l : Launch) (a0 : Nat) (a1 : Nat) (z0 : Nat) (z1 : Nat) (z2 : Nat) (z3 : Nat) (z4 : Nat) (z5 : Nat) (z6 : Nat) (z7 : Nat) (z8 : Nat) (z9 : Nat) (z10 : Nat) (z11 : Nat) (z12 : Nat) (p0 : Int32) : CT l (.code yX11_isOne cX11_isOne 3 (some .boolean)) yX11_isOne { frames := 1, cells := 0, slots := 0, locals := 22 } [.ref a0, .int 1, .int p0] (fun y => [(a0, .inr (13, [.ref a1, .ref z0, .ref z1, .ref z2, .ref z3, .ref z4, .int 45, .ref z5, .ref z6, .ref z7, .int 0, .ref z8, .ref z9, .int 0, .int 0, .int 0, .int 0, .ref z10, .int 0, .null, .ref z11, .ref z12])), (a1, .inl (y 0, 3, .inl (fun _ => 0)))]) (fun _ => []) (fun u => some (.int 0)) (fun y u => []) := by
  refine mkM (by decide) (Nat.le_of_ble_eq_true rfl) ?_
  intro p e s m args below meth c D y A ls hF hr hAe hP hD hS hl
  have hF : FX p e s m args meth c cX11_isOne 3 RX11 "isOne" D y A := hF
  obtain ⟨⟨hx, hb, hml, hown, hts⟩, hev, heh, hA, hlk, hnm⟩ := id hF
  have hK := hev.1
  have hP : va_P D vwCl [(a0, .inr (13, [.ref a1, .ref z0, .ref z1, .ref z2, .ref z3, .ref z4, .int 45, .ref z5, .ref z6, .ref z7, .int 0, .ref z8, .ref z9, .int 0, .int 0, .int 0, .int 0, .ref z10, .int 0, .null, .ref z11, .ref z12])), (a1, .inl (y 0, 3, .inl (fun _ => 0)))] s.heap := hP
  have hD : va_D (fun _ => True) [(a0, .inr (13, [.ref a1, .ref z0, .ref z1, .ref z2, .ref z3, .ref z4, .int 45, .ref z5, .ref z6, .ref z7, .int 0, .ref z8, .ref z9, .int 0, .int 0, .int 0, .int 0, .ref z10, .int 0, .null, .ref z11, .ref z12])), (a1, .inl (y 0, 3, .inl (fun _ => 0)))] := hD
  have hl : lv_has ls 3 [(0, .ref a0), (1, .int 1), (2, .int p0)] := hl
  refine lv_iload_n hx hb dX11_isOne_0 rfl (lv_at hl 1 rfl) ?_
  refine lv_if_lt (tgt := 24) hx hb dX11_isOne_1 (by decide) (fun c => absurd c (by decide)) (fun _ => ?_)
  refine lv_iload_n hx hb dX11_isOne_4 rfl (lv_at hl 2 rfl) ?_
  refine lv_iconst (v := 0) hx hb dX11_isOne_5 (by decide) ?_
  refine lv_aload_n hx hb dX11_isOne_6 rfl (lv_at hl 0 rfl) ?_
  refine va_get (D := D) (ci := 13) (v := .ref a1) (C := RX11) (T := TX11) (N := 22) hx hb hts inX11 hown hK hP 0 rfl rfl 0 (by decide) (hts _ wd_115) (fun _ h9 => h9) rfl dX11_isOne_7 ?_
  refine lv_iload_n hx hb dX11_isOne_10 rfl (lv_at hl 1 rfl) ?_
  refine va_iald hx hb hK hP 1 0 rfl rfl (vp_in_nI (n := 1) (by decide) (by decide)) dX11_isOne_11 ?_
  refine tp_i (v := 0) rfl ?_
  refine lv_iconst (v := 1) hx hb dX11_isOne_12 (by decide) ?_
  refine lv_isub hx hb dX11_isOne_13 ?_
  refine tp_i (v := (-1)) (by decide) ?_
  refine cS (l := l) (yM := yX11_in) (As := [.int p0, .int 0, .int (-1)]) (rest := []) (wr := [(a0, .inr (13, [.ref a1, .ref z0, .ref z1, .ref z2, .ref z3, .ref z4, .int 45, .ref z5, .ref z6, .ref z7, .int 0, .ref z8, .ref z9, .int 0, .int 0, .int 0, .int 0, .ref z10, .int 0, .null, .ref z11, .ref z12])), (a1, .inl (y 0, 3, .inl (fun _ => 0)))]) hF (c86_X11_in l p0) gs_RX11_78 3 (by decide +kernel) rfl ⟨(Nat.le_of_ble_eq_true rfl), (Nat.le_of_ble_eq_true rfl)⟩ hl.1 rfl (Nat.le_of_ble_eq_true rfl) dX11_isOne_14 ⟨(Nat.le_of_ble_eq_true rfl), (Nat.le_of_ble_eq_true rfl)⟩ hP hD hS (pA hA hS) (fun _ _ => trivial) [] [] [0, 1] rfl rfl rfl rfl rfl (by decide) (fun u_1 H locs hP hD hS => ?_)
  have hP : va_P D vwCl [(a0, .inr (13, [.ref a1, .ref z0, .ref z1, .ref z2, .ref z3, .ref z4, .int 45, .ref z5, .ref z6, .ref z7, .int 0, .ref z8, .ref z9, .int 0, .int 0, .int 0, .int 0, .ref z10, .int 0, .null, .ref z11, .ref z12])), (a1, .inl (y 0, 3, .inl (fun _ => 0)))] H := hP
  have hD : va_D (fun _ => True) [(a0, .inr (13, [.ref a1, .ref z0, .ref z1, .ref z2, .ref z3, .ref z4, .int 45, .ref z5, .ref z6, .ref z7, .int 0, .ref z8, .ref z9, .int 0, .int 0, .int 0, .int 0, .ref z10, .int 0, .null, .ref z11, .ref z12])), (a1, .inl (y 0, 3, .inl (fun _ => 0)))] := hD
  refine W.widen (k := 0) (n := 0) (Nat.le_of_ble_eq_true rfl) (Nat.le_of_ble_eq_true rfl) ?_
  refine W.eq (g2 := F0 m 17 ls [.int 0]) rfl ?_
  refine lv_if_eq (tgt := 24) hx hb dX11_isOne_17 (by decide) (fun _ => ?_) (fun c => absurd (by decide) c)
  refine lv_iconst (v := 0) hx hb dX11_isOne_24 (by decide) ?_
  exact e_z hF hr (by decide) (Nat.le_of_ble_eq_true rfl) (Nat.le_of_ble_eq_true rfl) hS (qg_end hS (fun _ => 0) rfl [] hP rfl d_nil) dX11_isOne_25

set_option maxHeartbeats 4000000 in
set_option maxRecDepth 100000 in
theorem c129_X11_read (l : Launch) (a0 : Nat) (a1 : Nat) (z0 : Nat) (z1 : Nat) (z2 : Nat) (z3 : Nat) (z4 : Nat) (z5 : Nat) (z6 : Nat) (z7 : Nat) (z8 : Nat) (z9 : Nat) (z10 : Nat) (z11 : Nat) (z12 : Nat) (p0 : Int32) : CT l (.code yX11_read cX11_read 7 (some .int)) yX11_read { frames := 5, cells := 0, slots := 0, locals := 111 } [.ref a0, .int 104, .int p0] (fun y => [(a0, .inr (13, [.ref a1, .ref z0, .ref z1, .ref z2, .ref z3, .ref z4, .int 45, .ref z5, .ref z6, .ref z7, .int 0, .ref z8, .ref z9, .int 0, .int 0, .int 0, .int 0, .ref z10, .int 0, .null, .ref z11, .ref z12])), (a1, .inl (y 0, 3, .inl (fun _ => 0)))]) (fun y => [(a0, .inr (13, [.ref a1, .ref z0, .ref z1, .ref z2, .ref z3, .ref z4, .int 45, .ref z5, .ref z6, .ref z7, .int 0, .ref z8, .ref z9, .int 0, .int 0, .int 0, .int 0, .ref z10, .int 0, .null, .ref z11, .ref z12])), (a1, .inl (y 0, 3, .inl (fun _ => 0)))]) (fun u => some (.int 0)) (fun y u => [(a0, .inr (13, [.ref a1, .ref z0, .ref z1, .ref z2, .ref z3, .ref z4, .int 45, .ref z5, .ref z6, .ref z7, .int 0, .ref z8, .ref z9, .int 0, .int 0, .int 2, .int 0, .ref z10, .int 0, .null, .ref z11, .ref z12])), (a1, .inl (y 0, 3, .inl (fun _ => 0)))]) := by
  refine mkM (by decide) (Nat.le_of_ble_eq_true rfl) ?_
  intro p e s m args below meth c D y A ls hF hr hAe hP hD hS hl
  have hF : FX p e s m args meth c cX11_read 7 RX11 "read" D y A := hF
  obtain ⟨⟨hx, hb, hml, hown, hts⟩, hev, heh, hA, hlk, hnm⟩ := id hF
  have hK := hev.1
  have hP : va_P D vwCl [(a0, .inr (13, [.ref a1, .ref z0, .ref z1, .ref z2, .ref z3, .ref z4, .int 45, .ref z5, .ref z6, .ref z7, .int 0, .ref z8, .ref z9, .int 0, .int 0, .int 0, .int 0, .ref z10, .int 0, .null, .ref z11, .ref z12])), (a1, .inl (y 0, 3, .inl (fun _ => 0)))] s.heap := hP
  have hD : va_D A [(a0, .inr (13, [.ref a1, .ref z0, .ref z1, .ref z2, .ref z3, .ref z4, .int 45, .ref z5, .ref z6, .ref z7, .int 0, .ref z8, .ref z9, .int 0, .int 0, .int 0, .int 0, .ref z10, .int 0, .null, .ref z11, .ref z12])), (a1, .inl (y 0, 3, .inl (fun _ => 0)))] := by rw [← hAe]; exact hD.self
  have hl : lv_has ls 7 [(0, .ref a0), (1, .int 104), (2, .int p0)] := hl
  refine lv_iload_n hx hb dX11_read_0 rfl (lv_at hl 1 rfl) ?_
  refine cS (l := l) (yM := yX11_sideOf) (As := [.int 104]) (rest := []) (wr := [(a0, .inr (13, [.ref a1, .ref z0, .ref z1, .ref z2, .ref z3, .ref z4, .int 45, .ref z5, .ref z6, .ref z7, .int 0, .ref z8, .ref z9, .int 0, .int 0, .int 0, .int 0, .ref z10, .int 0, .null, .ref z11, .ref z12])), (a1, .inl (y 0, 3, .inl (fun _ => 0)))]) hF (c39_X11_sideOf l) gs_RX11_124 1 (by decide +kernel) rfl ⟨(Nat.le_of_ble_eq_true rfl), (Nat.le_of_ble_eq_true rfl)⟩ hl.1 rfl (Nat.le_of_ble_eq_true rfl) dX11_read_1 ⟨(Nat.le_of_ble_eq_true rfl), (Nat.le_of_ble_eq_true rfl)⟩ hP hD hS (pA hA hS) (fun _ h => h) [] [] [0, 1] rfl rfl rfl rfl rfl (by decide) (fun u_1 H locs hP hD hS => ?_)
  have hP : va_P D vwCl [(a0, .inr (13, [.ref a1, .ref z0, .ref z1, .ref z2, .ref z3, .ref z4, .int 45, .ref z5, .ref z6, .ref z7, .int 0, .ref z8, .ref z9, .int 0, .int 0, .int 0, .int 0, .ref z10, .int 0, .null, .ref z11, .ref z12])), (a1, .inl (y 0, 3, .inl (fun _ => 0)))] H := hP
  have hD : va_D A [(a0, .inr (13, [.ref a1, .ref z0, .ref z1, .ref z2, .ref z3, .ref z4, .int 45, .ref z5, .ref z6, .ref z7, .int 0, .ref z8, .ref z9, .int 0, .int 0, .int 0, .int 0, .ref z10, .int 0, .null, .ref z11, .ref z12])), (a1, .inl (y 0, 3, .inl (fun _ => 0)))] := hD
  refine W.widen (k := 0) (n := 0) (Nat.le_of_ble_eq_true rfl) (Nat.le_of_ble_eq_true rfl) ?_
  refine W.eq (g2 := F0 m 4 ls [.int 1]) rfl ?_
  refine lv_istore_n (lv' := [(3, .int 1), (0, .ref a0), (1, .int 104), (2, .int p0)]) hx hb dX11_read_4 rfl hl (by decide) rfl (fun ls hl => ?_)
  refine lv_aload_n hx hb dX11_read_5 rfl (lv_at hl 1 rfl) ?_
  refine lv_iload_n hx hb dX11_read_6 rfl (lv_at hl 0 rfl) ?_
  refine lv_if_ge (tgt := 14) hx hb dX11_read_7 (by decide) (fun _ => ?_) (fun c => absurd (by decide) c)
  refine lv_iconst (v := 0) hx hb dX11_read_14 (by decide) ?_
  refine lv_aload_n hx hb dX11_read_15 rfl (lv_at hl 1 rfl) ?_
  refine lv_iload_n hx hb dX11_read_16 rfl (lv_at hl 0 rfl) ?_
  refine lv_iload_n hx hb dX11_read_17 rfl (lv_at hl 3 rfl) ?_
  refine cV (l := l) (yM := yX11_isOne) (C := RX11) (As := [.int 1, .int p0]) (rest := [.int 0, .ref a0]) (wr := [(a0, .inr (13, [.ref a1, .ref z0, .ref z1, .ref z2, .ref z3, .ref z4, .int 45, .ref z5, .ref z6, .ref z7, .int 0, .ref z8, .ref z9, .int 0, .int 0, .int 0, .int 0, .ref z10, .int 0, .null, .ref z11, .ref z12])), (a1, .inl (y 0, 3, .inl (fun _ => 0)))]) hF (c129_X11_isOne l a0 a1 z0 z1 z2 z3 z4 z5 z6 z7 z8 z9 z10 z11 z12 p0) gv_RX11_155 2 (by decide +kernel) rfl ⟨(Nat.le_of_ble_eq_true rfl), (Nat.le_of_ble_eq_true rfl)⟩ hl.1 rfl (Nat.le_of_ble_eq_true rfl) dX11_read_18 ⟨(Nat.le_of_ble_eq_true rfl), (Nat.le_of_ble_eq_true rfl)⟩ hP hD hS (pA hA hS) (fun _ h => h) [0, 1] [] [0, 1] rfl rfl rfl rfl rfl (by decide) 0 (ci := 13) rfl rfl rfl (fun u_2 H locs hP hD hS => ?_)
  have hP : va_P D vwCl [(a0, .inr (13, [.ref a1, .ref z0, .ref z1, .ref z2, .ref z3, .ref z4, .int 45, .ref z5, .ref z6, .ref z7, .int 0, .ref z8, .ref z9, .int 0, .int 0, .int 0, .int 0, .ref z10, .int 0, .null, .ref z11, .ref z12])), (a1, .inl (y 0, 3, .inl (fun _ => 0)))] H := hP
  have hD : va_D A [(a0, .inr (13, [.ref a1, .ref z0, .ref z1, .ref z2, .ref z3, .ref z4, .int 45, .ref z5, .ref z6, .ref z7, .int 0, .ref z8, .ref z9, .int 0, .int 0, .int 0, .int 0, .ref z10, .int 0, .null, .ref z11, .ref z12])), (a1, .inl (y 0, 3, .inl (fun _ => 0)))] := hD
  refine W.widen (k := 0) (n := 0) (Nat.le_of_ble_eq_true rfl) (Nat.le_of_ble_eq_true rfl) ?_
  refine W.eq (g2 := F0 m 21 ls [.int 0, .int 0, .ref a0]) rfl ?_
  refine lv_if_ne (tgt := 28) hx hb dX11_read_21 (by decide) (fun c => absurd (by decide) c) (fun _ => ?_)
  refine lv_iconst (v := 1) hx hb dX11_read_24 (by decide) ?_
  refine lv_goto (tgt := 29) hx hb dX11_read_25 (by decide) ?_
  refine lv_iconst (v := 0) hx hb dX11_read_29 (by decide) ?_
  refine cV (l := l) (yM := yX11_fails) (C := RX11) (As := [.int 0, .int 1, .int 0]) (rest := []) (wr := [(a1, .inl (y 0, 3, .inl (fun _ => 0)))]) hF (c123_X11_fails l a0 a1 z0 z1 z2 z3 z4 z5 z6 z7 z8 z9 z10 z11 z12) gv_RX11_128 3 (by decide +kernel) rfl ⟨(Nat.le_of_ble_eq_true rfl), (Nat.le_of_ble_eq_true rfl)⟩ hl.1 rfl (Nat.le_of_ble_eq_true rfl) dX11_read_30 ⟨(Nat.le_of_ble_eq_true rfl), (Nat.le_of_ble_eq_true rfl)⟩ hP hD hS (va_free (wc := [(a0, .inr (13, [.ref a1, .ref z0, .ref z1, .ref z2, .ref z3, .ref z4, .int 45, .ref z5, .ref z6, .ref z7, .int 0, .ref z8, .ref z9, .int 0, .int 0, .int 0, .int 0, .ref z10, .int 0, .null, .ref z11, .ref z12]))]) hD hS hA [0] rfl) (fun _ h => h) [0] [0] [1] rfl rfl rfl rfl rfl (by decide) 0 (ci := 13) rfl rfl rfl (fun u_3 H locs hP hD hS => ?_)
  have hP : va_P D vwCl [(a1, .inl (y 0, 3, .inl (fun _ => 0))), (a0, .inr (13, [.ref a1, .ref z0, .ref z1, .ref z2, .ref z3, .ref z4, .int 45, .ref z5, .ref z6, .ref z7, .int 0, .ref z8, .ref z9, .int 0, .int 0, .int 2, .int 0, .ref z10, .int 0, .null, .ref z11, .ref z12]))] H := hP
  have hD : va_D A [(a1, .inl (y 0, 3, .inl (fun _ => 0))), (a0, .inr (13, [.ref a1, .ref z0, .ref z1, .ref z2, .ref z3, .ref z4, .int 45, .ref z5, .ref z6, .ref z7, .int 0, .ref z8, .ref z9, .int 0, .int 0, .int 2, .int 0, .ref z10, .int 0, .null, .ref z11, .ref z12]))] := hD
  refine W.widen (k := 0) (n := 0) (Nat.le_of_ble_eq_true rfl) (Nat.le_of_ble_eq_true rfl) ?_
  refine W.eq (g2 := F0 m 33 ls [.int 1]) rfl ?_
  refine lv_if_eq (tgt := 38) hx hb dX11_read_33 (by decide) (fun c => absurd c (by decide)) (fun _ => ?_)
  refine lv_iconst (v := 0) hx hb dX11_read_36 (by decide) ?_
  exact e_i hF hr (Nat.le_of_ble_eq_true rfl) (Nat.le_of_ble_eq_true rfl) hS (qg_end hS (fun _ => 0) rfl [1, 0] hP rfl (hD.sub [1, 0] rfl rfl)) dX11_read_37

set_option maxHeartbeats 4000000 in
set_option maxRecDepth 100000 in
theorem c131_X10_needOne (l : Launch) (hlt : l.stackTraces = false) (a0 : Nat) (a1 : Nat) (z0 : Nat) (z1 : Nat) (z2 : Nat) (z3 : Nat) (z4 : Nat) (z5 : Nat) (z6 : Nat) (z7 : Nat) (z8 : Nat) (z9 : Nat) (z10 : Nat) (z11 : Nat) (z12 : Nat) (z13 : Nat) (z14 : Nat) (z15 : Nat) (z16 : Nat) (p0 : Int32) : CX l (.code yX10_needOne cX10_needOne 4 (some (.object "StablepairBureau$Lists"))) yX10_needOne { frames := 6, cells := 1, slots := 6, locals := 90 } [.ref a0, .int 109, .int p0] (fun y => [(a0, .inr (12, [.ref z0, .ref a1, .ref z1, .ref z2, .ref z3, .ref z4, .ref z5, .ref z6, .ref z7, .ref z8, .ref z9, .ref z10, .ref z11, .ref z12, .ref z13])), (a1, .inr (4, [.int 0, .ref z14, .ref z15, .ref z16]))]) (fun _ => []) "java/util/NoSuchElementException" := by
  refine mkX (by decide) (Nat.le_of_ble_eq_true rfl) ?_
  intro p e s m args below meth c D y A ls hF htb hAe hP hD hS hl
  have hF : FX p e s m args meth c cX10_needOne 4 RX10 "needOne" D y A := hF
  obtain ⟨⟨hx, hb, hml, hown, hts⟩, hev, heh, hA, hlk, hnm⟩ := id hF
  have hK := hev.1
  have hP : va_P D vwCl [(a0, .inr (12, [.ref z0, .ref a1, .ref z1, .ref z2, .ref z3, .ref z4, .ref z5, .ref z6, .ref z7, .ref z8, .ref z9, .ref z10, .ref z11, .ref z12, .ref z13])), (a1, .inr (4, [.int 0, .ref z14, .ref z15, .ref z16]))] s.heap := hP
  have hD : va_D (fun _ => True) [(a0, .inr (12, [.ref z0, .ref a1, .ref z1, .ref z2, .ref z3, .ref z4, .ref z5, .ref z6, .ref z7, .ref z8, .ref z9, .ref z10, .ref z11, .ref z12, .ref z13])), (a1, .inr (4, [.int 0, .ref z14, .ref z15, .ref z16]))] := hD
  have hl : lv_has ls 4 [(0, .ref a0), (1, .int 109), (2, .int p0)] := hl
  refine lv_aload_n hx hb dX10_needOne_0 rfl (lv_at hl 0 rfl) ?_
  refine lv_iload_n hx hb dX10_needOne_1 rfl (lv_at hl 1 rfl) ?_
  refine cV (l := l) (yM := yX10_needSide) (C := RX10) (As := [.int 109]) (rest := []) (wr := [(a0, .inr (12, [.ref z0, .ref a1, .ref z1, .ref z2, .ref z3, .ref z4, .ref z5, .ref z6, .ref z7, .ref z8, .ref z9, .ref z10, .ref z11, .ref z12, .ref z13])), (a1, .inr (4, [.int 0, .ref z14, .ref z15, .ref z16]))]) hF (c46_X10_needSide l a0 z0 a1 z1 z2 z3 z4 z5 z6 z7 z8 z9 z10 z11 z12 z13) gv_RX10_95 1 (by decide +kernel) rfl ⟨(Nat.le_of_ble_eq_true rfl), (Nat.le_of_ble_eq_true rfl)⟩ hl.1 rfl (Nat.le_of_ble_eq_true rfl) dX10_needOne_2 ⟨(Nat.le_of_ble_eq_true rfl), (Nat.le_of_ble_eq_true rfl)⟩ hP hD hS (pA hA hS) (fun _ _ => trivial) [0] [] [0, 1] rfl rfl rfl rfl rfl (by decide) 0 (ci := 12) rfl rfl rfl (fun u_1 H locs hP hD hS => ?_)
  have hP : va_P D vwCl [(a0, .inr (12, [.ref z0, .ref a1, .ref z1, .ref z2, .ref z3, .ref z4, .ref z5, .ref z6, .ref z7, .ref z8, .ref z9, .ref z10, .ref z11, .ref z12, .ref z13])), (a1, .inr (4, [.int 0, .ref z14, .ref z15, .ref z16]))] H := hP
  have hD : va_D (fun _ => True) [(a0, .inr (12, [.ref z0, .ref a1, .ref z1, .ref z2, .ref z3, .ref z4, .ref z5, .ref z6, .ref z7, .ref z8, .ref z9, .ref z10, .ref z11, .ref z12, .ref z13])), (a1, .inr (4, [.int 0, .ref z14, .ref z15, .ref z16]))] := hD
  refine W.widen (k := 0) (n := 0) (Nat.le_of_ble_eq_true rfl) (Nat.le_of_ble_eq_true rfl) ?_
  refine W.eq (g2 := F0 m 5 ls [.ref a1]) rfl ?_
  refine lv_astore_n (lv' := [(3, .ref a1), (0, .ref a0), (1, .int 109), (2, .int p0)]) hx hb dX10_needOne_5 rfl hl (by decide) rfl (fun ls hl => ?_)
  refine lv_aload_n hx hb dX10_needOne_6 rfl (lv_at hl 0 rfl) ?_
  refine lv_iload_n hx hb dX10_needOne_7 rfl (lv_at hl 3 rfl) ?_
  refine cV (l := l) (yM := yX2_has) (C := RX2) (As := [.int p0]) (rest := []) (wr := [(a0, .inr (12, [.ref z0, .ref a1, .ref z1, .ref z2, .ref z3, .ref z4, .ref z5, .ref z6, .ref z7, .ref z8, .ref z9, .ref z10, .ref z11, .ref z12, .ref z13])), (a1, .inr (4, [.int 0, .ref z14, .ref z15, .ref z16]))]) hF (c82_X2_has l a1 z14 z15 z16 p0) gv_RX10_216 1 (by decide +kernel) rfl ⟨(Nat.le_of_ble_eq_true rfl), (Nat.le_of_ble_eq_true rfl)⟩ hl.1 rfl (Nat.le_of_ble_eq_true rfl) dX10_needOne_8 ⟨(Nat.le_of_ble_eq_true rfl), (Nat.le_of_ble_eq_true rfl)⟩ hP hD hS (pA hA hS) (fun _ _ => trivial) [1] [] [0, 1] rfl rfl rfl rfl rfl (by decide) 1 (ci := 4) rfl rfl rfl (fun u_2 H locs hP hD hS => ?_)
  have hP : va_P D vwCl [(a0, .inr (12, [.ref z0, .ref a1, .ref z1, .ref z2, .ref z3, .ref z4, .ref z5, .ref z6, .ref z7, .ref z8, .ref z9, .ref z10, .ref z11, .ref z12, .ref z13])), (a1, .inr (4, [.int 0, .ref z14, .ref z15, .ref z16]))] H := hP
  have hD : va_D (fun _ => True) [(a0, .inr (12, [.ref z0, .ref a1, .ref z1, .ref z2, .ref z3, .ref z4, .ref z5, .ref z6, .ref z7, .ref z8, .ref z9, .ref z10, .ref z11, .ref z12, .ref z13])), (a1, .inr (4, [.int 0, .ref z14, .ref z15, .ref z16]))] := hD
  refine W.widen (k := 0) (n := 0) (Nat.le_of_ble_eq_true rfl) (Nat.le_of_ble_eq_true rfl) ?_
  refine W.eq (g2 := F0 m 11 ls [.int 0]) rfl ?_
  refine lv_if_ne (tgt := 25) hx hb dX10_needOne_11 (by decide) (fun c => absurd (by decide) c) (fun _ => ?_)
  exact th_N (text := "no such one on this side") hF htb hlt wd_251 wd_252 (List.mem_of_getElem? (i := 8) rfl) exg3 exf3 exo3 hS hl.1 (Nat.le_of_ble_eq_true rfl) ⟨(Nat.le_of_ble_eq_true rfl), (Nat.le_of_ble_eq_true rfl)⟩ ⟨(Nat.le_of_ble_eq_true rfl), (Nat.le_of_ble_eq_true rfl)⟩ ⟨(Nat.le_of_ble_eq_true rfl), (Nat.le_of_ble_eq_true rfl)⟩ dX10_needOne_14 dX10_needOne_17 dX10_needOne_18 dX10_needOne_21 dX10_needOne_24

set_option maxHeartbeats 4000000 in
set_option maxRecDepth 100000 in
theorem c131_X10_read (l : Launch) (hlt : l.stackTraces = false) (a0 : Nat) (a1 : Nat) (z0 : Nat) (z1 : Nat) (z2 : Nat) (z3 : Nat) (z4 : Nat) (z5 : Nat) (z6 : Nat) (z7 : Nat) (z8 : Nat) (z9 : Nat) (z10 : Nat) (z11 : Nat) (z12 : Nat) (z13 : Nat) (z14 : Nat) (z15 : Nat) (z16 : Nat) (p0 : Int32) : CX l (.code yX10_read cX10_read 5 (some .int)) yX10_read { frames := 7, cells := 1, slots := 6, locals := 113 } [.ref a0, .int 109, .int p0] (fun y => [(a0, .inr (12, [.ref z0, .ref a1, .ref z1, .ref z2, .ref z3, .ref z4, .ref z5, .ref z6, .ref z7, .ref z8, .ref z9, .ref z10, .ref z11, .ref z12, .ref z13])), (a1, .inr (4, [.int 0, .ref z14, .ref z15, .ref z16]))]) (fun _ => []) "java/util/NoSuchElementException" := by
  refine mkX (by decide) (Nat.le_of_ble_eq_true rfl) ?_
  intro p e s m args below meth c D y A ls hF htb hAe hP hD hS hl
  have hF : FX p e s m args meth c cX10_read 5 RX10 "read" D y A := hF
  obtain ⟨⟨hx, hb, hml, hown, hts⟩, hev, heh, hA, hlk, hnm⟩ := id hF
  have hK := hev.1
  have hP : va_P D vwCl [(a0, .inr (12, [.ref z0, .ref a1, .ref z1, .ref z2, .ref z3, .ref z4, .ref z5, .ref z6, .ref z7, .ref z8, .ref z9, .ref z10, .ref z11, .ref z12, .ref z13])), (a1, .inr (4, [.int 0, .ref z14, .ref z15, .ref z16]))] s.heap := hP
  have hD : va_D (fun _ => True) [(a0, .inr (12, [.ref z0, .ref a1, .ref z1, .ref z2, .ref z3, .ref z4, .ref z5, .ref z6, .ref z7, .ref z8, .ref z9, .ref z10, .ref z11, .ref z12, .ref z13])), (a1, .inr (4, [.int 0, .ref z14, .ref z15, .ref z16]))] := hD
  have hl : lv_has ls 5 [(0, .ref a0), (1, .int 109), (2, .int p0)] := hl
  refine lv_aload_n hx hb dX10_read_0 rfl (lv_at hl 0 rfl) ?_
  refine lv_iload_n hx hb dX10_read_1 rfl (lv_at hl 1 rfl) ?_
  refine lv_iload_n hx hb dX10_read_2 rfl (lv_at hl 2 rfl) ?_
  exact xV (l := l) (yM := yX10_needOne) (C := RX10) (As := [.int 109, .int p0]) (rest := []) hF htb (c131_X10_needOne l hlt a0 a1 z0 z1 z2 z3 z4 z5 z6 z7 z8 z9 z10 z11 z12 z13 z14 z15 z16 p0) gv_RX10_161 2 (by decide +kernel) rfl ⟨(Nat.le_of_ble_eq_true rfl), (Nat.le_of_ble_eq_true rfl)⟩ hl.1 rfl (Nat.le_of_ble_eq_true rfl) dX10_read_3 ⟨(Nat.le_of_ble_eq_true rfl), (Nat.le_of_ble_eq_true rfl)⟩ hP hD hS (pA hA hS) [0, 1] rfl rfl 0 (ci := 12) rfl rfl rfl ⟨(Nat.le_of_ble_eq_true rfl), (Nat.le_of_ble_eq_true rfl)⟩

set_option maxHeartbeats 4000000 in
set_option maxRecDepth 100000 in
theorem c131_L_read (l : Launch) (hlt : l.stackTraces = false) (a0 : Nat) (a1 : Nat) (z0 : Nat) (z1 : Nat) (z2 : Nat) (z3 : Nat) (z4 : Nat) (z5 : Nat) (z6 : Nat) (z7 : Nat) (z8 : Nat) (z9 : Nat) (z10 : Nat) (z11 : Nat) (z12 : Nat) (z13 : Nat) (z14 : Nat) (z15 : Nat) (z16 : Nat) (p0 : Int32) (z17 : Nat) : CT l (.codeWith yL_read cL_read 5 (some .int) [(0, 10, 13, 13), (0, 10, 17, 24)]) yL_read { frames := 8, cells := 1, slots := 6, locals := 137 } [.ref a0, .int 109, .int p0, .ref z17] (fun y => [(a0, .inr (12, [.ref z0, .ref a1, .ref z1, .ref z2, .ref z3, .ref z4, .ref z5, .ref z6, .ref z7, .ref z8, .ref z9, .ref z10, .ref z11, .ref z12, .ref z13])), (a1, .inr (4, [.int 0, .ref z14, .ref z15, .ref z16]))]) (fun _ => []) (fun u => some (.int 2)) (fun y u => []) := by
  refine mkH (by decide) (Nat.le_of_ble_eq_true rfl) ?_
  intro p e s m args below meth c D y A ls hF htab hr hAe hP hD hS hl
  have hF : FX p e s m args meth c cL_read 5 RL "read" D y A := hF
  obtain ⟨⟨hx, hb, hml, hown, hts⟩, hev, heh, hA, hlk, hnm⟩ := id hF
  have hK := hev.1
  have hP : va_P D vwCl [(a0, .inr (12, [.ref z0, .ref a1, .ref z1, .ref z2, .ref z3, .ref z4, .ref z5, .ref z6, .ref z7, .ref z8, .ref z9, .ref z10, .ref z11, .ref z12, .ref z13])), (a1, .inr (4, [.int 0, .ref z14, .ref z15, .ref z16]))] s.heap := hP
  have hD : va_D (fun _ => True) [(a0, .inr (12, [.ref z0, .ref a1, .ref z1, .ref z2, .ref z3, .ref z4, .ref z5, .ref z6, .ref z7, .ref z8, .ref z9, .ref z10, .ref z11, .ref z12, .ref z13])), (a1, .inr (4, [.int 0, .ref z14, .ref z15, .ref z16]))] := hD
  have hl : lv_has ls 5 [(0, .ref a0), (1, .int 109), (2, .int p0), (3, .ref z17)] := hl
  refine lv_aload_n hx hb dL_read_0 rfl (lv_at hl 3 rfl) ?_
  refine lv_iconst (v := 0) hx hb dL_read_1 (by decide) ?_
  refine lv_aload_n hx hb dL_read_2 rfl (lv_at hl 0 rfl) ?_
  refine lv_iload_n hx hb dL_read_3 rfl (lv_at hl 1 rfl) ?_
  refine lv_iload_n hx hb dL_read_4 rfl (lv_at hl 2 rfl) ?_
  refine hV (wr := [(a0, .inr (12, [.ref z0, .ref a1, .ref z1, .ref z2, .ref z3, .ref z4, .ref z5, .ref z6, .ref z7, .ref z8, .ref z9, .ref z10, .ref z11, .ref z12, .ref z13])), (a1, .inr (4, [.int 0, .ref z14, .ref z15, .ref z16]))]) (name := "java/util/NoSuchElementException") (E0 := "java/util/NoSuchElementException") (l := l) (yM := yX10_read) (C := RX10) (As := [.int 109, .int p0]) (rest := [.int 0, .ref z17]) hF (c131_X10_read l hlt a0 a1 z0 z1 z2 z3 z4 z5 z6 z7 z8 z9 z10 z11 z12 z13 z14 z15 z16 p0) gv_RL_38 2 (by decide +kernel) rfl ⟨(Nat.le_of_ble_eq_true rfl), (Nat.le_of_ble_eq_true rfl)⟩ hl.1 rfl (Nat.le_of_ble_eq_true rfl) dL_read_5 ⟨(Nat.le_of_ble_eq_true rfl), (Nat.le_of_ble_eq_true rfl)⟩ hP hD hS (pA hA hS) (fun _ _ => trivial) [0, 1] [] [0, 1] rfl rfl rfl rfl rfl (by decide) 0 (ci := 12) rfl rfl rfl [⟨0, 10, 13, 13⟩] ⟨0, 10, 17, 24⟩ [] htab (List.forall_mem_cons.mpr ⟨Or.inr ⟨by decide, "java/lang/IllegalArgumentException", wd_235, List.mem_of_getElem? (i := 0) rfl⟩, (fun z hz => nomatch hz)⟩) (by decide) (by decide) wd_261 (by decide) (fun q9 H locs hP hD hS => ?_)
  have hP : va_P D vwCl [(a0, .inr (12, [.ref z0, .ref a1, .ref z1, .ref z2, .ref z3, .ref z4, .ref z5, .ref z6, .ref z7, .ref z8, .ref z9, .ref z10, .ref z11, .ref z12, .ref z13])), (a1, .inr (4, [.int 0, .ref z14, .ref z15, .ref z16]))] H := hP
  have hD : va_D (fun _ => True) [(a0, .inr (12, [.ref z0, .ref a1, .ref z1, .ref z2, .ref z3, .ref z4, .ref z5, .ref z6, .ref z7, .ref z8, .ref z9, .ref z10, .ref z11, .ref z12, .ref z13])), (a1, .inr (4, [.int 0, .ref z14, .ref z15, .ref z16]))] := hD
  refine W.widen (k := 1) (n := 6) (Nat.le_of_ble_eq_true rfl) (Nat.le_of_ble_eq_true rfl) ?_
  refine W.eq (g2 := F0 m 17 ls [.ref q9]) rfl ?_
  refine lv_astore (lv' := [(4, .ref q9), (0, .ref a0), (1, .int 109), (2, .int p0), (3, .ref z17)]) hx hb dL_read_17 hl (by decide) rfl (fun ls hl => ?_)
  refine lv_iconst (v := 2) hx hb dL_read_19 (by decide) ?_
  exact e_i hF hr (Nat.le_of_ble_eq_true rfl) (Nat.le_of_ble_eq_true rfl) hS (qg_end hS (fun _ => 0) rfl [] hP rfl d_nil) dL_read_20

set_option maxHeartbeats 4000000 in
set_option maxRecDepth 100000 in
theorem c134_X11_isOne (l : Launch) (a0 : Nat) (a1 : Nat) (z0 : Nat) (z1 : Nat) (z2 : Nat) (z3 : Nat) (z4 : Nat) (z5 : Nat) (z6 : Nat) (z7 : Nat) (z8 : Nat) (z9 : Nat) (z10 : Nat) (z11 : Nat) (z12 : Nat) (p0 : Int32) : CT l (.code yX11_isOne cX11_isOne 3 (some .boolean)) yX11_isOne { frames := 1, cells := 0, slots := 0, locals := 22 } [.ref a0, .int 2, .int p0] (fun y => [(a0, .inr (13, [.ref a1, .ref z0, .ref z1, .ref z2, .ref z3, .ref z4, .int 45, .ref z5, .ref z6, .ref z7, .int 0, .ref z8, .ref z9, .int 0, .int 0, .int 0, .int 0, .ref z10, .int 0, .null, .ref z11, .ref z12])), (a1, .inl (y 0, 3, .inl (fun _ => 0)))]) (fun _ => []) (fun u => some (.int 0)) (fun y u => []) := by
  refine mkM (by decide) (Nat.le_of_ble_eq_true rfl) ?_
  intro p e s m args below meth c D y A ls hF hr hAe hP hD hS hl
  have hF : FX p e s m args meth c cX11_isOne 3 RX11 "isOne" D y A := hF
  obtain ⟨⟨hx, hb, hml, hown, hts⟩, hev, heh, hA, hlk, hnm⟩ := id hF
  have hK := hev.1
  have hP : va_P D vwCl [(a0, .inr (13, [.ref a1, .ref z0, .ref z1, .ref z2, .ref z3, .ref z4, .int 45, .ref z5, .ref z6, .ref z7, .int 0, .ref z8, .ref z9, .int 0, .int 0, .int 0, .int 0, .ref z10, .int 0, .null, .ref z11, .ref z12])), (a1, .inl (y 0, 3, .inl (fun _ => 0)))] s.heap := hP
  have hD : va_D (fun _ => True) [(a0, .inr (13, [.ref a1, .ref z0, .ref z1, .ref z2, .ref z3, .ref z4, .int 45, .ref z5, .ref z6, .ref z7, .int 0, .ref z8, .ref z9, .int 0, .int 0, .int 0, .int 0, .ref z10, .int 0, .null, .ref z11, .ref z12])), (a1, .inl (y 0, 3, .inl (fun _ => 0)))] := hD
  have hl : lv_has ls 3 [(0, .ref a0), (1, .int 2), (2, .int p0)] := hl
  refine lv_iload_n hx hb dX11_isOne_0 rfl (lv_at hl 1 rfl) ?_
  refine lv_if_lt (tgt := 24) hx hb dX11_isOne_1 (by decide) (fun c => absurd c (by decide)) (fun _ => ?_)
  refine lv_iload_n hx hb dX11_isOne_4 rfl (lv_at hl 2 rfl) ?_
  refine lv_iconst (v := 0) hx hb dX11_isOne_5 (by decide) ?_
  refine lv_aload_n hx hb dX11_isOne_6 rfl (lv_at hl 0 rfl) ?_
  refine va_get (D := D) (ci := 13) (v := .ref a1) (C := RX11) (T := TX11) (N := 22) hx hb hts inX11 hown hK hP 0 rfl rfl 0 (by decide) (hts _ wd_115) (fun _ h9 => h9) rfl dX11_isOne_7 ?_
  refine lv_iload_n hx hb dX11_isOne_10 rfl (lv_at hl 1 rfl) ?_
  refine va_iald hx hb hK hP 1 0 rfl rfl (vp_in_nI (n := 2) (by decide) (by decide)) dX11_isOne_11 ?_
  refine tp_i (v := 0) rfl ?_
  refine lv_iconst (v := 1) hx hb dX11_isOne_12 (by decide) ?_
  refine lv_isub hx hb dX11_isOne_13 ?_
  refine tp_i (v := (-1)) (by decide) ?_
  refine cS (l := l) (yM := yX11_in) (As := [.int p0, .int 0, .int (-1)]) (rest := []) (wr := [(a0, .inr (13, [.ref a1, .ref z0, .ref z1, .ref z2, .ref z3, .ref z4, .int 45, .ref z5, .ref z6, .ref z7, .int 0, .ref z8, .ref z9, .int 0, .int 0, .int 0, .int 0, .ref z10, .int 0, .null, .ref z11, .ref z12])), (a1, .inl (y 0, 3, .inl (fun _ => 0)))]) hF (c86_X11_in l p0) gs_RX11_78 3 (by decide +kernel) rfl ⟨(Nat.le_of_ble_eq_true rfl), (Nat.le_of_ble_eq_true rfl)⟩ hl.1 rfl (Nat.le_of_ble_eq_true rfl) dX11_isOne_14 ⟨(Nat.le_of_ble_eq_true rfl), (Nat.le_of_ble_eq_true rfl)⟩ hP hD hS (pA hA hS) (fun _ _ => trivial) [] [] [0, 1] rfl rfl rfl rfl rfl (by decide) (fun u_1 H locs hP hD hS => ?_)
  have hP : va_P D vwCl [(a0, .inr (13, [.ref a1, .ref z0, .ref z1, .ref z2, .ref z3, .ref z4, .int 45, .ref z5, .ref z6, .ref z7, .int 0, .ref z8, .ref z9, .int 0, .int 0, .int 0, .int 0, .ref z10, .int 0, .null, .ref z11, .ref z12])), (a1, .inl (y 0, 3, .inl (fun _ => 0)))] H := hP
  have hD : va_D (fun _ => True) [(a0, .inr (13, [.ref a1, .ref z0, .ref z1, .ref z2, .ref z3, .ref z4, .int 45, .ref z5, .ref z6, .ref z7, .int 0, .ref z8, .ref z9, .int 0, .int 0, .int 0, .int 0, .ref z10, .int 0, .null, .ref z11, .ref z12])), (a1, .inl (y 0, 3, .inl (fun _ => 0)))] := hD
  refine W.widen (k := 0) (n := 0) (Nat.le_of_ble_eq_true rfl) (Nat.le_of_ble_eq_true rfl) ?_
  refine W.eq (g2 := F0 m 17 ls [.int 0]) rfl ?_
  refine lv_if_eq (tgt := 24) hx hb dX11_isOne_17 (by decide) (fun _ => ?_) (fun c => absurd (by decide) c)
  refine lv_iconst (v := 0) hx hb dX11_isOne_24 (by decide) ?_
  exact e_z hF hr (by decide) (Nat.le_of_ble_eq_true rfl) (Nat.le_of_ble_eq_true rfl) hS (qg_end hS (fun _ => 0) rfl [] hP rfl d_nil) dX11_isOne_25

set_option maxHeartbeats 4000000 in
set_option maxRecDepth 100000 in
theorem c134_X11_read (l : Launch) (a0 : Nat) (a1 : Nat) (z0 : Nat) (z1 : Nat) (z2 : Nat) (z3 : Nat) (z4 : Nat) (z5 : Nat) (z6 : Nat) (z7 : Nat) (z8 : Nat) (z9 : Nat) (z10 : Nat) (z11 : Nat) (z12 : Nat) (p0 : Int32) : CT l (.code yX11_read cX11_read 7 (some .int)) yX11_read { frames := 5, cells := 0, slots := 0, locals := 111 } [.ref a0, .int 109, .int p0] (fun y => [(a0, .inr (13, [.ref a1, .ref z0, .ref z1, .ref z2, .ref z3, .ref z4, .int 45, .ref z5, .ref z6, .ref z7, .int 0, .ref z8, .ref z9, .int 0, .int 0, .int 0, .int 0, .ref z10, .int 0, .null, .ref z11, .ref z12])), (a1, .inl (y 0, 3, .inl (fun _ => 0)))]) (fun y => [(a0, .inr (13, [.ref a1, .ref z0, .ref z1, .ref z2, .ref z3, .ref z4, .int 45, .ref z5, .ref z6, .ref z7, .int 0, .ref z8, .ref z9, .int 0, .int 0, .int 0, .int 0, .ref z10, .int 0, .null, .ref z11, .ref z12])), (a1, .inl (y 0, 3, .inl (fun _ => 0)))]) (fun u => some (.int 0)) (fun y u => [(a0, .inr (13, [.ref a1, .ref z0, .ref z1, .ref z2, .ref z3, .ref z4, .int 45, .ref z5, .ref z6, .ref z7, .int 0, .ref z8, .ref z9, .int 0, .int 0, .int 2, .int 0, .ref z10, .int 0, .null, .ref z11, .ref z12])), (a1, .inl (y 0, 3, .inl (fun _ => 0)))]) := by
  refine mkM (by decide) (Nat.le_of_ble_eq_true rfl) ?_
  intro p e s m args below meth c D y A ls hF hr hAe hP hD hS hl
  have hF : FX p e s m args meth c cX11_read 7 RX11 "read" D y A := hF
  obtain ⟨⟨hx, hb, hml, hown, hts⟩, hev, heh, hA, hlk, hnm⟩ := id hF
  have hK := hev.1
  have hP : va_P D vwCl [(a0, .inr (13, [.ref a1, .ref z0, .ref z1, .ref z2, .ref z3, .ref z4, .int 45, .ref z5, .ref z6, .ref z7, .int 0, .ref z8, .ref z9, .int 0, .int 0, .int 0, .int 0, .ref z10, .int 0, .null, .ref z11, .ref z12])), (a1, .inl (y 0, 3, .inl (fun _ => 0)))] s.heap := hP
  have hD : va_D A [(a0, .inr (13, [.ref a1, .ref z0, .ref z1, .ref z2, .ref z3, .ref z4, .int 45, .ref z5, .ref z6, .ref z7, .int 0, .ref z8, .ref z9, .int 0, .int 0, .int 0, .int 0, .ref z10, .int 0, .null, .ref z11, .ref z12])), (a1, .inl (y 0, 3, .inl (fun _ => 0)))] := by rw [← hAe]; exact hD.self
  have hl : lv_has ls 7 [(0, .ref a0), (1, .int 109), (2, .int p0)] := hl
  refine lv_iload_n hx hb dX11_read_0 rfl (lv_at hl 1 rfl) ?_
  refine cS (l := l) (yM := yX11_sideOf) (As := [.int 109]) (rest := []) (wr := [(a0, .inr (13, [.ref a1, .ref z0, .ref z1, .ref z2, .ref z3, .ref z4, .int 45, .ref z5, .ref z6, .ref z7, .int 0, .ref z8, .ref z9, .int 0, .int 0, .int 0, .int 0, .ref z10, .int 0, .null, .ref z11, .ref z12])), (a1, .inl (y 0, 3, .inl (fun _ => 0)))]) hF (c49_X11_sideOf l) gs_RX11_124 1 (by decide +kernel) rfl ⟨(Nat.le_of_ble_eq_true rfl), (Nat.le_of_ble_eq_true rfl)⟩ hl.1 rfl (Nat.le_of_ble_eq_true rfl) dX11_read_1 ⟨(Nat.le_of_ble_eq_true rfl), (Nat.le_of_ble_eq_true rfl)⟩ hP hD hS (pA hA hS) (fun _ h => h) [] [] [0, 1] rfl rfl rfl rfl rfl (by decide) (fun u_1 H locs hP hD hS => ?_)
  have hP : va_P D vwCl [(a0, .inr (13, [.ref a1, .ref z0, .ref z1, .ref z2, .ref z3, .ref z4, .int 45, .ref z5, .ref z6, .ref z7, .int 0, .ref z8, .ref z9, .int 0, .int 0, .int 0, .int 0, .ref z10, .int 0, .null, .ref z11, .ref z12])), (a1, .inl (y 0, 3, .inl (fun _ => 0)))] H := hP
  have hD : va_D A [(a0, .inr (13, [.ref a1, .ref z0, .ref z1, .ref z2, .ref z3, .ref z4, .int 45, .ref z5, .ref z6, .ref z7, .int 0, .ref z8, .ref z9, .int 0, .int 0, .int 0, .int 0, .ref z10, .int 0, .null, .ref z11, .ref z12])), (a1, .inl (y 0, 3, .inl (fun _ => 0)))] := hD
  refine W.widen (k := 0) (n := 0) (Nat.le_of_ble_eq_true rfl) (Nat.le_of_ble_eq_true rfl) ?_
  refine W.eq (g2 := F0 m 4 ls [.int 2]) rfl ?_
  refine lv_istore_n (lv' := [(3, .int 2), (0, .ref a0), (1, .int 109), (2, .int p0)]) hx hb dX11_read_4 rfl hl (by decide) rfl (fun ls hl => ?_)
  refine lv_aload_n hx hb dX11_read_5 rfl (lv_at hl 1 rfl) ?_
  refine lv_iload_n hx hb dX11_read_6 rfl (lv_at hl 0 rfl) ?_
  refine lv_if_ge (tgt := 14) hx hb dX11_read_7 (by decide) (fun _ => ?_) (fun c => absurd (by decide) c)
  refine lv_iconst (v := 0) hx hb dX11_read_14 (by decide) ?_
  refine lv_aload_n hx hb dX11_read_15 rfl (lv_at hl 1 rfl) ?_
  refine lv_iload_n hx hb dX11_read_16 rfl (lv_at hl 0 rfl) ?_
  refine lv_iload_n hx hb dX11_read_17 rfl (lv_at hl 3 rfl) ?_
  refine cV (l := l) (yM := yX11_isOne) (C := RX11) (As := [.int 2, .int p0]) (rest := [.int 0, .ref a0]) (wr := [(a0, .inr (13, [.ref a1, .ref z0, .ref z1, .ref z2, .ref z3, .ref z4, .int 45, .ref z5, .ref z6, .ref z7, .int 0, .ref z8, .ref z9, .int 0, .int 0, .int 0, .int 0, .ref z10, .int 0, .null, .ref z11, .ref z12])), (a1, .inl (y 0, 3, .inl (fun _ => 0)))]) hF (c134_X11_isOne l a0 a1 z0 z1 z2 z3 z4 z5 z6 z7 z8 z9 z10 z11 z12 p0) gv_RX11_155 2 (by decide +kernel) rfl ⟨(Nat.le_of_ble_eq_true rfl), (Nat.le_of_ble_eq_true rfl)⟩ hl.1 rfl (Nat.le_of_ble_eq_true rfl) dX11_read_18 ⟨(Nat.le_of_ble_eq_true rfl), (Nat.le_of_ble_eq_true rfl)⟩ hP hD hS (pA hA hS) (fun _ h => h) [0, 1] [] [0, 1] rfl rfl rfl rfl rfl (by decide) 0 (ci := 13) rfl rfl rfl (fun u_2 H locs hP hD hS => ?_)
  have hP : va_P D vwCl [(a0, .inr (13, [.ref a1, .ref z0, .ref z1, .ref z2, .ref z3, .ref z4, .int 45, .ref z5, .ref z6, .ref z7, .int 0, .ref z8, .ref z9, .int 0, .int 0, .int 0, .int 0, .ref z10, .int 0, .null, .ref z11, .ref z12])), (a1, .inl (y 0, 3, .inl (fun _ => 0)))] H := hP
  have hD : va_D A [(a0, .inr (13, [.ref a1, .ref z0, .ref z1, .ref z2, .ref z3, .ref z4, .int 45, .ref z5, .ref z6, .ref z7, .int 0, .ref z8, .ref z9, .int 0, .int 0, .int 0, .int 0, .ref z10, .int 0, .null, .ref z11, .ref z12])), (a1, .inl (y 0, 3, .inl (fun _ => 0)))] := hD
  refine W.widen (k := 0) (n := 0) (Nat.le_of_ble_eq_true rfl) (Nat.le_of_ble_eq_true rfl) ?_
  refine W.eq (g2 := F0 m 21 ls [.int 0, .int 0, .ref a0]) rfl ?_
  refine lv_if_ne (tgt := 28) hx hb dX11_read_21 (by decide) (fun c => absurd (by decide) c) (fun _ => ?_)
  refine lv_iconst (v := 1) hx hb dX11_read_24 (by decide) ?_
  refine lv_goto (tgt := 29) hx hb dX11_read_25 (by decide) ?_
  refine lv_iconst (v := 0) hx hb dX11_read_29 (by decide) ?_
  refine cV (l := l) (yM := yX11_fails) (C := RX11) (As := [.int 0, .int 1, .int 0]) (rest := []) (wr := [(a1, .inl (y 0, 3, .inl (fun _ => 0)))]) hF (c123_X11_fails l a0 a1 z0 z1 z2 z3 z4 z5 z6 z7 z8 z9 z10 z11 z12) gv_RX11_128 3 (by decide +kernel) rfl ⟨(Nat.le_of_ble_eq_true rfl), (Nat.le_of_ble_eq_true rfl)⟩ hl.1 rfl (Nat.le_of_ble_eq_true rfl) dX11_read_30 ⟨(Nat.le_of_ble_eq_true rfl), (Nat.le_of_ble_eq_true rfl)⟩ hP hD hS (va_free (wc := [(a0, .inr (13, [.ref a1, .ref z0, .ref z1, .ref z2, .ref z3, .ref z4, .int 45, .ref z5, .ref z6, .ref z7, .int 0, .ref z8, .ref z9, .int 0, .int 0, .int 0, .int 0, .ref z10, .int 0, .null, .ref z11, .ref z12]))]) hD hS hA [0] rfl) (fun _ h => h) [0] [0] [1] rfl rfl rfl rfl rfl (by decide) 0 (ci := 13) rfl rfl rfl (fun u_3 H locs hP hD hS => ?_)
  have hP : va_P D vwCl [(a1, .inl (y 0, 3, .inl (fun _ => 0))), (a0, .inr (13, [.ref a1, .ref z0, .ref z1, .ref z2, .ref z3, .ref z4, .int 45, .ref z5, .ref z6, .ref z7, .int 0, .ref z8, .ref z9, .int 0, .int 0, .int 2, .int 0, .ref z10, .int 0, .null, .ref z11, .ref z12]))] H := hP
  have hD : va_D A [(a1, .inl (y 0, 3, .inl (fun _ => 0))), (a0, .inr (13, [.ref a1, .ref z0, .ref z1, .ref z2, .ref z3, .ref z4, .int 45, .ref z5, .ref z6, .ref z7, .int 0, .ref z8, .ref z9, .int 0, .int 0, .int 2, .int 0, .ref z10, .int 0, .null, .ref z11, .ref z12]))] := hD
  refine W.widen (k := 0) (n := 0) (Nat.le_of_ble_eq_true rfl) (Nat.le_of_ble_eq_true rfl) ?_
  refine W.eq (g2 := F0 m 33 ls [.int 1]) rfl ?_
  refine lv_if_eq (tgt := 38) hx hb dX11_read_33 (by decide) (fun c => absurd c (by decide)) (fun _ => ?_)
  refine lv_iconst (v := 0) hx hb dX11_read_36 (by decide) ?_
  exact e_i hF hr (Nat.le_of_ble_eq_true rfl) (Nat.le_of_ble_eq_true rfl) hS (qg_end hS (fun _ => 0) rfl [1, 0] hP rfl (hD.sub [1, 0] rfl rfl)) dX11_read_37

set_option maxHeartbeats 4000000 in
set_option maxRecDepth 100000 in
theorem c136_X10_needOne (l : Launch) (hlt : l.stackTraces = false) (a0 : Nat) (z0 : Nat) (z1 : Nat) (z2 : Nat) (z3 : Nat) (z4 : Nat) (z5 : Nat) (z6 : Nat) (z7 : Nat) (z8 : Nat) (z9 : Nat) (z10 : Nat) (z11 : Nat) (z12 : Nat) (z13 : Nat) (z14 : Nat) (p0 : Int32) (p1 : Int32) (f0 : ¬ p0 = 112) (f1 : ¬ p0 = 104) (f2 : ¬ p0 = 109) : CX l (.code yX10_needOne cX10_needOne 4 (some (.object "StablepairBureau$Lists"))) yX10_needOne { frames := 7, cells := 1, slots := 6, locals := 111 } [.ref a0, .int p0, .int p1] (fun y => [(a0, .inr (12, [.ref z0, .ref z1, .ref z2, .ref z3, .ref z4, .ref z5, .ref z6, .ref z7, .ref z8, .ref z9, .ref z10, .ref z11, .ref z12, .ref z13, .ref z14]))]) (fun _ => []) "java/lang/IllegalArgumentException" := by
  refine mkX (by decide) (Nat.le_of_ble_eq_true rfl) ?_
  intro p e s m args below meth c D y A ls hF htb hAe hP hD hS hl
  have hF : FX p e s m args meth c cX10_needOne 4 RX10 "needOne" D y A := hF
  obtain ⟨⟨hx, hb, hml, hown, hts⟩, hev, heh, hA, hlk, hnm⟩ := id hF
  have hK := hev.1
  have hP : va_P D vwCl [(a0, .inr (12, [.ref z0, .ref z1, .ref z2, .ref z3, .ref z4, .ref z5, .ref z6, .ref z7, .ref z8, .ref z9, .ref z10, .ref z11, .ref z12, .ref z13, .ref z14]))] s.heap := hP
  have hD : va_D (fun _ => True) [(a0, .inr (12, [.ref z0, .ref z1, .ref z2, .ref z3, .ref z4, .ref z5, .ref z6, .ref z7, .ref z8, .ref z9, .ref z10, .ref z11, .ref z12, .ref z13, .ref z14]))] := hD
  have hl : lv_has ls 4 [(0, .ref a0), (1, .int p0), (2, .int p1)] := hl
  refine lv_aload_n hx hb dX10_needOne_0 rfl (lv_at hl 0 rfl) ?_
  refine lv_iload_n hx hb dX10_needOne_1 rfl (lv_at hl 1 rfl) ?_
  exact xV (l := l) (yM := yX10_needSide) (C := RX10) (As := [.int p0]) (rest := []) hF htb (c56_X10_needSide l hlt a0 p0 f0 f1 f2) gv_RX10_95 1 (by decide +kernel) rfl ⟨(Nat.le_of_ble_eq_true rfl), (Nat.le_of_ble_eq_true rfl)⟩ hl.1 rfl (Nat.le_of_ble_eq_true rfl) dX10_needOne_2 ⟨(Nat.le_of_ble_eq_true rfl), (Nat.le_of_ble_eq_true rfl)⟩ hP hD hS (pA hA hS) [] rfl rfl 0 (ci := 12) rfl rfl rfl ⟨(Nat.le_of_ble_eq_true rfl), (Nat.le_of_ble_eq_true rfl)⟩

set_option maxHeartbeats 4000000 in
set_option maxRecDepth 100000 in
theorem c136_X10_read (l : Launch) (hlt : l.stackTraces = false) (a0 : Nat) (z0 : Nat) (z1 : Nat) (z2 : Nat) (z3 : Nat) (z4 : Nat) (z5 : Nat) (z6 : Nat) (z7 : Nat) (z8 : Nat) (z9 : Nat) (z10 : Nat) (z11 : Nat) (z12 : Nat) (z13 : Nat) (z14 : Nat) (p0 : Int32) (p1 : Int32) (f0 : ¬ p0 = 112) (f1 : ¬ p0 = 104) (f2 : ¬ p0 = 109) : CX l (.code yX10_read cX10_read 5 (some .int)) yX10_read { frames := 8, cells := 1, slots := 6, locals := 134 } [.ref a0, .int p0, .int p1] (fun y => [(a0, .inr (12, [.ref z0, .ref z1, .ref z2, .ref z3, .ref z4, .ref z5, .ref z6, .ref z7, .ref z8, .ref z9, .ref z10, .ref z11, .ref z12, .ref z13, .ref z14]))]) (fun _ => []) "java/lang/IllegalArgumentException" := by
  refine mkX (by decide) (Nat.le_of_ble_eq_true rfl) ?_
  intro p e s m args below meth c D y A ls hF htb hAe hP hD hS hl
  have hF : FX p e s m args meth c cX10_read 5 RX10 "read" D y A := hF
  obtain ⟨⟨hx, hb, hml, hown, hts⟩, hev, heh, hA, hlk, hnm⟩ := id hF
  have hK := hev.1
  have hP : va_P D vwCl [(a0, .inr (12, [.ref z0, .ref z1, .ref z2, .ref z3, .ref z4, .ref z5, .ref z6, .ref z7, .ref z8, .ref z9, .ref z10, .ref z11, .ref z12, .ref z13, .ref z14]))] s.heap := hP
  have hD : va_D (fun _ => True) [(a0, .inr (12, [.ref z0, .ref z1, .ref z2, .ref z3, .ref z4, .ref z5, .ref z6, .ref z7, .ref z8, .ref z9, .ref z10, .ref z11, .ref z12, .ref z13, .ref z14]))] := hD
  have hl : lv_has ls 5 [(0, .ref a0), (1, .int p0), (2, .int p1)] := hl
  refine lv_aload_n hx hb dX10_read_0 rfl (lv_at hl 0 rfl) ?_
  refine lv_iload_n hx hb dX10_read_1 rfl (lv_at hl 1 rfl) ?_
  refine lv_iload_n hx hb dX10_read_2 rfl (lv_at hl 2 rfl) ?_
  exact xV (l := l) (yM := yX10_needOne) (C := RX10) (As := [.int p0, .int p1]) (rest := []) hF htb (c136_X10_needOne l hlt a0 z0 z1 z2 z3 z4 z5 z6 z7 z8 z9 z10 z11 z12 z13 z14 p0 p1 f0 f1 f2) gv_RX10_161 2 (by decide +kernel) rfl ⟨(Nat.le_of_ble_eq_true rfl), (Nat.le_of_ble_eq_true rfl)⟩ hl.1 rfl (Nat.le_of_ble_eq_true rfl) dX10_read_3 ⟨(Nat.le_of_ble_eq_true rfl), (Nat.le_of_ble_eq_true rfl)⟩ hP hD hS (pA hA hS) [0] rfl rfl 0 (ci := 12) rfl rfl rfl ⟨(Nat.le_of_ble_eq_true rfl), (Nat.le_of_ble_eq_true rfl)⟩

set_option maxHeartbeats 4000000 in
set_option maxRecDepth 100000 in
theorem c136_L_read (l : Launch) (hlt : l.stackTraces = false) (a0 : Nat) (z0 : Nat) (z1 : Nat) (z2 : Nat) (z3 : Nat) (z4 : Nat) (z5 : Nat) (z6 : Nat) (z7 : Nat) (z8 : Nat) (z9 : Nat) (z10 : Nat) (z11 : Nat) (z12 : Nat) (z13 : Nat) (z14 : Nat) (p0 : Int32) (p1 : Int32) (z15 : Nat) (f0 : ¬ p0 = 112) (f1 : ¬ p0 = 104) (f2 : ¬ p0 = 109) : CT l (.codeWith yL_read cL_read 5 (some .int) [(0, 10, 13, 13), (0, 10, 17, 24)]) yL_read { frames := 9, cells := 1, slots := 6, locals := 158 } [.ref a0, .int p0, .int p1, .ref z15] (fun y => [(a0, .inr (12, [.ref z0, .ref z1, .ref z2, .ref z3, .ref z4, .ref z5, .ref z6, .ref z7, .ref z8, .ref z9, .ref z10, .ref z11, .ref z12, .ref z13, .ref z14]))]) (fun _ => []) (fun u => some (.int 1)) (fun y u => []) := by
  refine mkH (by decide) (Nat.le_of_ble_eq_true rfl) ?_
  intro p e s m args below meth c D y A ls hF htab hr hAe hP hD hS hl
  have hF : FX p e s m args meth c cL_read 5 RL "read" D y A := hF
  obtain ⟨⟨hx, hb, hml, hown, hts⟩, hev, heh, hA, hlk, hnm⟩ := id hF
  have hK := hev.1
  have hP : va_P D vwCl [(a0, .inr (12, [.ref z0, .ref z1, .ref z2, .ref z3, .ref z4, .ref z5, .ref z6, .ref z7, .ref z8, .ref z9, .ref z10, .ref z11, .ref z12, .ref z13, .ref z14]))] s.heap := hP
  have hD : va_D (fun _ => True) [(a0, .inr (12, [.ref z0, .ref z1, .ref z2, .ref z3, .ref z4, .ref z5, .ref z6, .ref z7, .ref z8, .ref z9, .ref z10, .ref z11, .ref z12, .ref z13, .ref z14]))] := hD
  have hl : lv_has ls 5 [(0, .ref a0), (1, .int p0), (2, .int p1), (3, .ref z15)] := hl
  refine lv_aload_n hx hb dL_read_0 rfl (lv_at hl 3 rfl) ?_
  refine lv_iconst (v := 0) hx hb dL_read_1 (by decide) ?_
  refine lv_aload_n hx hb dL_read_2 rfl (lv_at hl 0 rfl) ?_
  refine lv_iload_n hx hb dL_read_3 rfl (lv_at hl 1 rfl) ?_
  refine lv_iload_n hx hb dL_read_4 rfl (lv_at hl 2 rfl) ?_
  refine hV (wr := [(a0, .inr (12, [.ref z0, .ref z1, .ref z2, .ref z3, .ref z4, .ref z5, .ref z6, .ref z7, .ref z8, .ref z9, .ref z10, .ref z11, .ref z12, .ref z13, .ref z14]))]) (name := "java/lang/IllegalArgumentException") (E0 := "java/lang/IllegalArgumentException") (l := l) (yM := yX10_read) (C := RX10) (As := [.int p0, .int p1]) (rest := [.int 0, .ref z15]) hF (c136_X10_read l hlt a0 z0 z1 z2 z3 z4 z5 z6 z7 z8 z9 z10 z11 z12 z13 z14 p0 p1 f0 f1 f2) gv_RL_38 2 (by decide +kernel) rfl ⟨(Nat.le_of_ble_eq_true rfl), (Nat.le_of_ble_eq_true rfl)⟩ hl.1 rfl (Nat.le_of_ble_eq_true rfl) dL_read_5 ⟨(Nat.le_of_ble_eq_true rfl), (Nat.le_of_ble_eq_true rfl)⟩ hP hD hS (pA hA hS) (fun _ _ => trivial) [0] [] [0] rfl rfl rfl rfl rfl (by decide) 0 (ci := 12) rfl rfl rfl [] ⟨0, 10, 13, 13⟩ [⟨0, 10, 17, 24⟩] htab (fun z hz => nomatch hz) (by decide) (by decide) wd_235 (by decide) (fun q9 H locs hP hD hS => ?_)
  have hP : va_P D vwCl [(a0, .inr (12, [.ref z0, .ref z1, .ref z2, .ref z3, .ref z4, .ref z5, .ref z6, .ref z7, .ref z8, .ref z9, .ref z10, .ref z11, .ref z12, .ref z13, .ref z14]))] H := hP
  have hD : va_D (fun _ => True) [(a0, .inr (12, [.ref z0, .ref z1, .ref z2, .ref z3, .ref z4, .ref z5, .ref z6, .ref z7, .ref z8, .ref z9, .ref z10, .ref z11, .ref z12, .ref z13, .ref z14]))] := hD
  refine W.widen (k := 1) (n := 6) (Nat.le_of_ble_eq_true rfl) (Nat.le_of_ble_eq_true rfl) ?_
  refine W.eq (g2 := F0 m 13 ls [.ref q9]) rfl ?_
  refine lv_astore (lv' := [(4, .ref q9), (0, .ref a0), (1, .int p0), (2, .int p1), (3, .ref z15)]) hx hb dL_read_13 hl (by decide) rfl (fun ls hl => ?_)
  refine lv_iconst (v := 1) hx hb dL_read_15 (by decide) ?_
  exact e_i hF hr (Nat.le_of_ble_eq_true rfl) (Nat.le_of_ble_eq_true rfl) hS (qg_end hS (fun _ => 0) rfl [] hP rfl d_nil) dL_read_16

set_option maxHeartbeats 4000000 in
set_option maxRecDepth 100000 in
theorem c139_X11_isOne (l : Launch) (z0 : Nat) (p0 : Int32) : CT l (.code yX11_isOne cX11_isOne 3 (some .boolean)) yX11_isOne { frames := 0, cells := 0, slots := 0, locals := 0 } [.ref z0, .int (-1), .int p0] (fun y => []) (fun _ => []) (fun u => some (.int 0)) (fun y u => []) := by
  refine mkM (by decide) (Nat.le_of_ble_eq_true rfl) ?_
  intro p e s m args below meth c D y A ls hF hr hAe hP hD hS hl
  have hF : FX p e s m args meth c cX11_isOne 3 RX11 "isOne" D y A := hF
  obtain ⟨⟨hx, hb, hml, hown, hts⟩, hev, heh, hA, hlk, hnm⟩ := id hF
  have hK := hev.1
  have hP : va_P D vwCl [] s.heap := hP
  have hD : va_D A [] := by rw [← hAe]; exact hD.self
  have hl : lv_has ls 3 [(0, .ref z0), (1, .int (-1)), (2, .int p0)] := hl
  refine lv_iload_n hx hb dX11_isOne_0 rfl (lv_at hl 1 rfl) ?_
  refine lv_if_lt (tgt := 24) hx hb dX11_isOne_1 (by decide) (fun _ => ?_) (fun c => absurd (by decide) c)
  refine lv_iconst (v := 0) hx hb dX11_isOne_24 (by decide) ?_
  exact e_z hF hr (by decide) (Nat.le_of_ble_eq_true rfl) (Nat.le_of_ble_eq_true rfl) hS (qg_end hS (fun _ => 0) rfl [] hP rfl d_nil) dX11_isOne_25

set_option maxHeartbeats 4000000 in
set_option maxRecDepth 100000 in
theorem c139_X11_read (l : Launch) (a0 : Nat) (z0 : Nat) (z1 : Nat) (z2 : Nat) (z3 : Nat) (z4 : Nat) (z5 : Nat) (z6 : Nat) (z7 : Nat) (z8 : Nat) (z9 : Nat) (z10 : Nat) (z11 : Nat) (z12 : Nat) (z13 : Nat) (p0 : Int32) (p1 : Int32) (f0 : ¬ p0 = 112) (f1 : ¬ p0 = 104) (f2 : ¬ p0 = 109) : CT l (.code yX11_read cX11_read 7 (some .int)) yX11_read { frames := 5, cells := 0, slots := 0, locals := 111 } [.ref a0, .int p0, .int p1] (fun y => [(a0, .inr (13, [.ref z0, .ref z1, .ref z2, .ref z3, .ref z4, .ref z5, .int 45, .ref z6, .ref z7, .ref z8, .int 0, .ref z9, .ref z10, .int 0, .int 0, .int 0, .int 0, .ref z11, .int 0, .null, .ref z12, .ref z13]))]) (fun y => [(a0, .inr (13, [.ref z0, .ref z1, .ref z2, .ref z3, .ref z4, .ref z5, .int 45, .ref z6, .ref z7, .ref z8, .int 0, .ref z9, .ref z10, .int 0, .int 0, .int 0, .int 0, .ref z11, .int 0, .null, .ref z12, .ref z13]))]) (fun u => some (.int 0)) (fun y u => [(a0, .inr (13, [.ref z0, .ref z1, .ref z2, .ref z3, .ref z4, .ref z5, .int 45, .ref z6, .ref z7, .ref z8, .int 0, .ref z9, .ref z10, .int 0, .int 0, .int 1, .int 0, .ref z11, .int 0, .null, .ref z12, .ref z13]))]) := by
  refine mkM (by decide) (Nat.le_of_ble_eq_true rfl) ?_
  intro p e s m args below meth c D y A ls hF hr hAe hP hD hS hl
  have hF : FX p e s m args meth c cX11_read 7 RX11 "read" D y A := hF
  obtain ⟨⟨hx, hb, hml, hown, hts⟩, hev, heh, hA, hlk, hnm⟩ := id hF
  have hK := hev.1
  have hP : va_P D vwCl [(a0, .inr (13, [.ref z0, .ref z1, .ref z2, .ref z3, .ref z4, .ref z5, .int 45, .ref z6, .ref z7, .ref z8, .int 0, .ref z9, .ref z10, .int 0, .int 0, .int 0, .int 0, .ref z11, .int 0, .null, .ref z12, .ref z13]))] s.heap := hP
  have hD : va_D A [(a0, .inr (13, [.ref z0, .ref z1, .ref z2, .ref z3, .ref z4, .ref z5, .int 45, .ref z6, .ref z7, .ref z8, .int 0, .ref z9, .ref z10, .int 0, .int 0, .int 0, .int 0, .ref z11, .int 0, .null, .ref z12, .ref z13]))] := by rw [← hAe]; exact hD.self
  have hl : lv_has ls 7 [(0, .ref a0), (1, .int p0), (2, .int p1)] := hl
  refine lv_iload_n hx hb dX11_read_0 rfl (lv_at hl 1 rfl) ?_
  refine cS (l := l) (yM := yX11_sideOf) (As := [.int p0]) (rest := []) (wr := [(a0, .inr (13, [.ref z0, .ref z1, .ref z2, .ref z3, .ref z4, .ref z5, .int 45, .ref z6, .ref z7, .ref z8, .int 0, .ref z9, .ref z10, .int 0, .int 0, .int 0, .int 0, .ref z11, .int 0, .null, .ref z12, .ref z13]))]) hF (c59_X11_sideOf l p0 f0 f1 f2) gs_RX11_124 1 (by decide +kernel) rfl ⟨(Nat.le_of_ble_eq_true rfl), (Nat.le_of_ble_eq_true rfl)⟩ hl.1 rfl (Nat.le_of_ble_eq_true rfl) dX11_read_1 ⟨(Nat.le_of_ble_eq_true rfl), (Nat.le_of_ble_eq_true rfl)⟩ hP hD hS (pA hA hS) (fun _ h => h) [] [] [0] rfl rfl rfl rfl rfl (by decide) (fun u_1 H locs hP hD hS => ?_)
  have hP : va_P D vwCl [(a0, .inr (13, [.ref z0, .ref z1, .ref z2, .ref z3, .ref z4, .ref z5, .int 45, .ref z6, .ref z7, .ref z8, .int 0, .ref z9, .ref z10, .int 0, .int 0, .int 0, .int 0, .ref z11, .int 0, .null, .ref z12, .ref z13]))] H := hP
  have hD : va_D A [(a0, .inr (13, [.ref z0, .ref z1, .ref z2, .ref z3, .ref z4, .ref z5, .int 45, .ref z6, .ref z7, .ref z8, .int 0, .ref z9, .ref z10, .int 0, .int 0, .int 0, .int 0, .ref z11, .int 0, .null, .ref z12, .ref z13]))] := hD
  refine W.widen (k := 0) (n := 0) (Nat.le_of_ble_eq_true rfl) (Nat.le_of_ble_eq_true rfl) ?_
  refine W.eq (g2 := F0 m 4 ls [.int (-1)]) rfl ?_
  refine lv_istore_n (lv' := [(3, .int (-1)), (0, .ref a0), (1, .int p0), (2, .int p1)]) hx hb dX11_read_4 rfl hl (by decide) rfl (fun ls hl => ?_)
  refine lv_aload_n hx hb dX11_read_5 rfl (lv_at hl 1 rfl) ?_
  refine lv_iload_n hx hb dX11_read_6 rfl (lv_at hl 0 rfl) ?_
  refine lv_if_ge (tgt := 14) hx hb dX11_read_7 (by decide) (fun c => absurd c (by decide)) (fun _ => ?_)
  refine lv_iconst (v := 1) hx hb dX11_read_10 (by decide) ?_
  refine lv_goto (tgt := 15) hx hb dX11_read_11 (by decide) ?_
  refine lv_aload_n hx hb dX11_read_15 rfl (lv_at hl 1 rfl) ?_
  refine lv_iload_n hx hb dX11_read_16 rfl (lv_at hl 0 rfl) ?_
  refine lv_iload_n hx hb dX11_read_17 rfl (lv_at hl 3 rfl) ?_
  refine cV (l := l) (yM := yX11_isOne) (C := RX11) (As := [.int (-1), .int p1]) (rest := [.int 1, .ref a0]) (wr := [(a0, .inr (13, [.ref z0, .ref z1, .ref z2, .ref z3, .ref z4, .ref z5, .int 45, .ref z6, .ref z7, .ref z8, .int 0, .ref z9, .ref z10, .int 0, .int 0, .int 0, .int 0, .ref z11, .int 0, .null, .ref z12, .ref z13]))]) hF (c139_X11_isOne l a0 p1) gv_RX11_155 2 (by decide +kernel) rfl ⟨(Nat.le_of_ble_eq_true rfl), (Nat.le_of_ble_eq_true rfl)⟩ hl.1 rfl (Nat.le_of_ble_eq_true rfl) dX11_read_18 ⟨(Nat.le_of_ble_eq_true rfl), (Nat.le_of_ble_eq_true rfl)⟩ hP hD hS (pA hA hS) (fun _ h => h) [] [] [0] rfl rfl rfl rfl rfl (by decide) 0 (ci := 13) rfl rfl rfl (fun u_2 H locs hP hD hS => ?_)
  have hP : va_P D vwCl [(a0, .inr (13, [.ref z0, .ref z1, .ref z2, .ref z3, .ref z4, .ref z5, .int 45, .ref z6, .ref z7, .ref z8, .int 0, .ref z9, .ref z10, .int 0, .int 0, .int 0, .int 0, .ref z11, .int 0, .null, .ref z12, .ref z13]))] H := hP
  have hD : va_D A [(a0, .inr (13, [.ref z0, .ref z1, .ref z2, .ref z3, .ref z4, .ref z5, .int 45, .ref z6, .ref z7, .ref z8, .int 0, .ref z9, .ref z10, .int 0, .int 0, .int 0, .int 0, .ref z11, .int 0, .null, .ref z12, .ref z13]))] := hD
  refine W.widen (k := 0) (n := 0) (Nat.le_of_ble_eq_true rfl) (Nat.le_of_ble_eq_true rfl) ?_
  refine W.eq (g2 := F0 m 21 ls [.int 0, .int 1, .ref a0]) rfl ?_
  refine lv_if_ne (tgt := 28) hx hb dX11_read_21 (by decide) (fun c => absurd (by decide) c) (fun _ => ?_)
  refine lv_iconst (v := 1) hx hb dX11_read_24 (by decide) ?_
  refine lv_goto (tgt := 29) hx hb dX11_read_25 (by decide) ?_
  refine lv_iconst (v := 0) hx hb dX11_read_29 (by decide) ?_
  refine cV (l := l) (yM := yX11_fails) (C := RX11) (As := [.int 1, .int 1, .int 0]) (rest := []) (wr := []) hF (c89_X11_fails l a0 z0 z1 z2 z3 z4 z5 z6 z7 z8 z9 z10 z11 z12 z13) gv_RX11_128 3 (by decide +kernel) rfl ⟨(Nat.le_of_ble_eq_true rfl), (Nat.le_of_ble_eq_true rfl)⟩ hl.1 rfl (Nat.le_of_ble_eq_true rfl) dX11_read_30 ⟨(Nat.le_of_ble_eq_true rfl), (Nat.le_of_ble_eq_true rfl)⟩ hP hD hS (va_free (wc := [(a0, .inr (13, [.ref z0, .ref z1, .ref z2, .ref z3, .ref z4, .ref z5, .int 45, .ref z6, .ref z7, .ref z8, .int 0, .ref z9, .ref z10, .int 0, .int 0, .int 0, .int 0, .ref z11, .int 0, .null, .ref z12, .ref z13]))]) hD hS hA [0] rfl) (fun _ h => h) [0] [0] [] rfl rfl rfl rfl rfl (by decide) 0 (ci := 13) rfl rfl rfl (fun u_3 H locs hP hD hS => ?_)
  have hP : va_P D vwCl [(a0, .inr (13, [.ref z0, .ref z1, .ref z2, .ref z3, .ref z4, .ref z5, .int 45, .ref z6, .ref z7, .ref z8, .int 0, .ref z9, .ref z10, .int 0, .int 0, .int 1, .int 0, .ref z11, .int 0, .null, .ref z12, .ref z13]))] H := hP
  have hD : va_D A [(a0, .inr (13, [.ref z0, .ref z1, .ref z2, .ref z3, .ref z4, .ref z5, .int 45, .ref z6, .ref z7, .ref z8, .int 0, .ref z9, .ref z10, .int 0, .int 0, .int 1, .int 0, .ref z11, .int 0, .null, .ref z12, .ref z13]))] := hD
  refine W.widen (k := 0) (n := 0) (Nat.le_of_ble_eq_true rfl) (Nat.le_of_ble_eq_true rfl) ?_
  refine W.eq (g2 := F0 m 33 ls [.int 1]) rfl ?_
  refine lv_if_eq (tgt := 38) hx hb dX11_read_33 (by decide) (fun c => absurd c (by decide)) (fun _ => ?_)
  refine lv_iconst (v := 0) hx hb dX11_read_36 (by decide) ?_
  exact e_i hF hr (Nat.le_of_ble_eq_true rfl) (Nat.le_of_ble_eq_true rfl) hS (qg_end hS (fun _ => 0) rfl [0] hP rfl (hD.sub [0] rfl rfl)) dX11_read_37

set_option maxHeartbeats 4000000 in
set_option maxRecDepth 100000 in
theorem c141_X10_length (l : Launch) (hlt : l.stackTraces = false) (a0 : Nat) (a1 : Nat) (a2 : Nat) (z0 : Nat) (z1 : Nat) (z2 : Nat) (z3 : Nat) (z4 : Nat) (z5 : Nat) (z6 : Nat) (z7 : Nat) (z8 : Nat) (z9 : Nat) (z10 : Nat) (z11 : Nat) (z12 : Nat) (z13 : Nat) (z14 : Nat) (z15 : Nat) (z16 : Nat) (z17 : Nat) (z18 : Nat) (p0 : Int32) : CX l (.code yX10_length cX10_length 3 (some .int)) yX10_length { frames := 7, cells := 1, slots := 6, locals := 113 } [.ref a0, .int 112, .int p0] (fun y => [(a0, .inr (12, [.ref a1, .ref z0, .ref z1, .ref z2, .ref z3, .ref z4, .ref z5, .ref z6, .ref z7, .ref z8, .ref z9, .ref z10, .ref z11, .ref z12, .ref z13])), (a1, .inr (5, [.ref a2, .ref z14, .ref z15])), (a2, .inr (4, [.int 0, .ref z16, .ref z17, .ref z18]))]) (fun _ => []) "java/util/NoSuchElementException" := by
  refine mkX (by decide) (Nat.le_of_ble_eq_true rfl) ?_
  intro p e s m args below meth c D y A ls hF htb hAe hP hD hS hl
  have hF : FX p e s m args meth c cX10_length 3 RX10 "length" D y A := hF
  obtain ⟨⟨hx, hb, hml, hown, hts⟩, hev, heh, hA, hlk, hnm⟩ := id hF
  have hK := hev.1
  have hP : va_P D vwCl [(a0, .inr (12, [.ref a1, .ref z0, .ref z1, .ref z2, .ref z3, .ref z4, .ref z5, .ref z6, .ref z7, .ref z8, .ref z9, .ref z10, .ref z11, .ref z12, .ref z13])), (a1, .inr (5, [.ref a2, .ref z14, .ref z15])), (a2, .inr (4, [.int 0, .ref z16, .ref z17, .ref z18]))] s.heap := hP
  have hD : va_D (fun _ => True) [(a0, .inr (12, [.ref a1, .ref z0, .ref z1, .ref z2, .ref z3, .ref z4, .ref z5, .ref z6, .ref z7, .ref z8, .ref z9, .ref z10, .ref z11, .ref z12, .ref z13])), (a1, .inr (5, [.ref a2, .ref z14, .ref z15])), (a2, .inr (4, [.int 0, .ref z16, .ref z17, .ref z18]))] := hD
  have hl : lv_has ls 3 [(0, .ref a0), (1, .int 112), (2, .int p0)] := hl
  refine lv_aload_n hx hb dX10_length_0 rfl (lv_at hl 0 rfl) ?_
  refine lv_iload_n hx hb dX10_length_1 rfl (lv_at hl 1 rfl) ?_
  refine lv_iload_n hx hb dX10_length_2 rfl (lv_at hl 2 rfl) ?_
  exact xV (l := l) (yM := yX10_needOne) (C := RX10) (As := [.int 112, .int p0]) (rest := []) hF htb (c119_X10_needOne l hlt a0 a1 a2 z0 z1 z2 z3 z4 z5 z6 z7 z8 z9 z10 z11 z12 z13 z14 z15 z16 z17 z18 p0) gv_RX10_161 2 (by decide +kernel) rfl ⟨(Nat.le_of_ble_eq_true rfl), (Nat.le_of_ble_eq_true rfl)⟩ hl.1 rfl (Nat.le_of_ble_eq_true rfl) dX10_length_3 ⟨(Nat.le_of_ble_eq_true rfl), (Nat.le_of_ble_eq_true rfl)⟩ hP hD hS (pA hA hS) [0, 1, 2] rfl rfl 0 (ci := 12) rfl rfl rfl ⟨(Nat.le_of_ble_eq_true rfl), (Nat.le_of_ble_eq_true rfl)⟩

set_option maxHeartbeats 4000000 in
set_option maxRecDepth 100000 in
theorem c141_L_length (l : Launch) (hlt : l.stackTraces = false) (a0 : Nat) (a1 : Nat) (a2 : Nat) (z0 : Nat) (z1 : Nat) (z2 : Nat) (z3 : Nat) (z4 : Nat) (z5 : Nat) (z6 : Nat) (z7 : Nat) (z8 : Nat) (z9 : Nat) (z10 : Nat) (z11 : Nat) (z12 : Nat) (z13 : Nat) (z14 : Nat) (z15 : Nat) (z16 : Nat) (z17 : Nat) (z18 : Nat) (p0 : Int32) (z19 : Nat) : CT l (.codeWith yL_length cL_length 5 (some .int) [(0, 10, 13, 13), (0, 10, 17, 24)]) yL_length { frames := 8, cells := 1, slots := 6, locals := 135 } [.ref a0, .int 112, .int p0, .ref z19] (fun y => [(a0, .inr (12, [.ref a1, .ref z0, .ref z1, .ref z2, .ref z3, .ref z4, .ref z5, .ref z6, .ref z7, .ref z8, .ref z9, .ref z10, .ref z11, .ref z12, .ref z13])), (a1, .inr (5, [.ref a2, .ref z14, .ref z15])), (a2, .inr (4, [.int 0, .ref z16, .ref z17, .ref z18]))]) (fun _ => []) (fun u => some (.int 2)) (fun y u => []) := by
  refine mkH (by decide) (Nat.le_of_ble_eq_true rfl) ?_
  intro p e s m args below meth c D y A ls hF htab hr hAe hP hD hS hl
  have hF : FX p e s m args meth c cL_length 5 RL "length" D y A := hF
  obtain ⟨⟨hx, hb, hml, hown, hts⟩, hev, heh, hA, hlk, hnm⟩ := id hF
  have hK := hev.1
  have hP : va_P D vwCl [(a0, .inr (12, [.ref a1, .ref z0, .ref z1, .ref z2, .ref z3, .ref z4, .ref z5, .ref z6, .ref z7, .ref z8, .ref z9, .ref z10, .ref z11, .ref z12, .ref z13])), (a1, .inr (5, [.ref a2, .ref z14, .ref z15])), (a2, .inr (4, [.int 0, .ref z16, .ref z17, .ref z18]))] s.heap := hP
  have hD : va_D (fun _ => True) [(a0, .inr (12, [.ref a1, .ref z0, .ref z1, .ref z2, .ref z3, .ref z4, .ref z5, .ref z6, .ref z7, .ref z8, .ref z9, .ref z10, .ref z11, .ref z12, .ref z13])), (a1, .inr (5, [.ref a2, .ref z14, .ref z15])), (a2, .inr (4, [.int 0, .ref z16, .ref z17, .ref z18]))] := hD
  have hl : lv_has ls 5 [(0, .ref a0), (1, .int 112), (2, .int p0), (3, .ref z19)] := hl
  refine lv_aload_n hx hb dL_length_0 rfl (lv_at hl 3 rfl) ?_
  refine lv_iconst (v := 0) hx hb dL_length_1 (by decide) ?_
  refine lv_aload_n hx hb dL_length_2 rfl (lv_at hl 0 rfl) ?_
  refine lv_iload_n hx hb dL_length_3 rfl (lv_at hl 1 rfl) ?_
  refine lv_iload_n hx hb dL_length_4 rfl (lv_at hl 2 rfl) ?_
  refine hV (wr := [(a0, .inr (12, [.ref a1, .ref z0, .ref z1, .ref z2, .ref z3, .ref z4, .ref z5, .ref z6, .ref z7, .ref z8, .ref z9, .ref z10, .ref z11, .ref z12, .ref z13])), (a1, .inr (5, [.ref a2, .ref z14, .ref z15])), (a2, .inr (4, [.int 0, .ref z16, .ref z17, .ref z18]))]) (name := "java/util/NoSuchElementException") (E0 := "java/util/NoSuchElementException") (l := l) (yM := yX10_length) (C := RX10) (As := [.int 112, .int p0]) (rest := [.int 0, .ref z19]) hF (c141_X10_length l hlt a0 a1 a2 z0 z1 z2 z3 z4 z5 z6 z7 z8 z9 z10 z11 z12 z13 z14 z15 z16 z17 z18 p0) gv_RL_42 2 (by decide +kernel) rfl ⟨(Nat.le_of_ble_eq_true rfl), (Nat.le_of_ble_eq_true rfl)⟩ hl.1 rfl (Nat.le_of_ble_eq_true rfl) dL_length_5 ⟨(Nat.le_of_ble_eq_true rfl), (Nat.le_of_ble_eq_true rfl)⟩ hP hD hS (pA hA hS) (fun _ _ => trivial) [0, 1, 2] [] [0, 1, 2] rfl rfl rfl rfl rfl (by decide) 0 (ci := 12) rfl rfl rfl [⟨0, 10, 13, 13⟩] ⟨0, 10, 17, 24⟩ [] htab (List.forall_mem_cons.mpr ⟨Or.inr ⟨by decide, "java/lang/IllegalArgumentException", wd_235, List.mem_of_getElem? (i := 0) rfl⟩, (fun z hz => nomatch hz)⟩) (by decide) (by decide) wd_261 (by decide) (fun q9 H locs hP hD hS => ?_)
  have hP : va_P D vwCl [(a0, .inr (12, [.ref a1, .ref z0, .ref z1, .ref z2, .ref z3, .ref z4, .ref z5, .ref z6, .ref z7, .ref z8, .ref z9, .ref z10, .ref z11, .ref z12, .ref z13])), (a1, .inr (5, [.ref a2, .ref z14, .ref z15])), (a2, .inr (4, [.int 0, .ref z16, .ref z17, .ref z18]))] H := hP
  have hD : va_D (fun _ => True) [(a0, .inr (12, [.ref a1, .ref z0, .ref z1, .ref z2, .ref z3, .ref z4, .ref z5, .ref z6, .ref z7, .ref z8, .ref z9, .ref z10, .ref z11, .ref z12, .ref z13])), (a1, .inr (5, [.ref a2, .ref z14, .ref z15])), (a2, .inr (4, [.int 0, .ref z16, .ref z17, .ref z18]))] := hD
  refine W.widen (k := 1) (n := 6) (Nat.le_of_ble_eq_true rfl) (Nat.le_of_ble_eq_true rfl) ?_
  refine W.eq (g2 := F0 m 17 ls [.ref q9]) rfl ?_
  refine lv_astore (lv' := [(4, .ref q9), (0, .ref a0), (1, .int 112), (2, .int p0), (3, .ref z19)]) hx hb dL_length_17 hl (by decide) rfl (fun ls hl => ?_)
  refine lv_iconst (v := 2) hx hb dL_length_19 (by decide) ?_
  exact e_i hF hr (Nat.le_of_ble_eq_true rfl) (Nat.le_of_ble_eq_true rfl) hS (qg_end hS (fun _ => 0) rfl [] hP rfl d_nil) dL_length_20

set_option maxHeartbeats 4000000 in
set_option maxRecDepth 100000 in
theorem c143_X11_length (l : Launch) (a0 : Nat) (a1 : Nat) (z0 : Nat) (z1 : Nat) (z2 : Nat) (z3 : Nat) (z4 : Nat) (z5 : Nat) (z6 : Nat) (z7 : Nat) (z8 : Nat) (z9 : Nat) (z10 : Nat) (z11 : Nat) (z12 : Nat) (p0 : Int32) : CT l (.code yX11_length cX11_length 4 (some .int)) yX11_length { frames := 5, cells := 0, slots := 0, locals := 111 } [.ref a0, .int 112, .int p0] (fun y => [(a0, .inr (13, [.ref a1, .ref z0, .ref z1, .ref z2, .ref z3, .ref z4, .int 45, .ref z5, .ref z6, .ref z7, .int 0, .ref z8, .ref z9, .int 0, .int 0, .int 0, .int 0, .ref z10, .int 0, .null, .ref z11, .ref z12])), (a1, .inl (y 0, 3, .inl (fun _ => 0)))]) (fun y => [(a0, .inr (13, [.ref a1, .ref z0, .ref z1, .ref z2, .ref z3, .ref z4, .int 45, .ref z5, .ref z6, .ref z7, .int 0, .ref z8, .ref z9, .int 0, .int 0, .int 0, .int 0, .ref z10, .int 0, .null, .ref z11, .ref z12])), (a1, .inl (y 0, 3, .inl (fun _ => 0)))]) (fun u => some (.int 0)) (fun y u => [(a0, .inr (13, [.ref a1, .ref z0, .ref z1, .ref z2, .ref z3, .ref z4, .int 45, .ref z5, .ref z6, .ref z7, .int 0, .ref z8, .ref z9, .int 0, .int 0, .int 2, .int 0, .ref z10, .int 0, .null, .ref z11, .ref z12])), (a1, .inl (y 0, 3, .inl (fun _ => 0)))]) := by
  refine mkM (by decide) (Nat.le_of_ble_eq_true rfl) ?_
  intro p e s m args below meth c D y A ls hF hr hAe hP hD hS hl
  have hF : FX p e s m args meth c cX11_length 4 RX11 "length" D y A := hF
  obtain ⟨⟨hx, hb, hml, hown, hts⟩, hev, heh, hA, hlk, hnm⟩ := id hF
  have hK := hev.1
  have hP : va_P D vwCl [(a0, .inr (13, [.ref a1, .ref z0, .ref z1, .ref z2, .ref z3, .ref z4, .int 45, .ref z5, .ref z6, .ref z7, .int 0, .ref z8, .ref z9, .int 0, .int 0, .int 0, .int 0, .ref z10, .int 0, .null, .ref z11, .ref z12])), (a1, .inl (y 0, 3, .inl (fun _ => 0)))] s.heap := hP
  have hD : va_D A [(a0, .inr (13, [.ref a1, .ref z0, .ref z1, .ref z2, .ref z3, .ref z4, .int 45, .ref z5, .ref z6, .ref z7, .int 0, .ref z8, .ref z9, .int 0, .int 0, .int 0, .int 0, .ref z10, .int 0, .null, .ref z11, .ref z12])), (a1, .inl (y 0, 3, .inl (fun _ => 0)))] := by rw [← hAe]; exact hD.self
  have hl : lv_has ls 4 [(0, .ref a0), (1, .int 112), (2, .int p0)] := hl
  refine lv_iload_n hx hb dX11_length_0 rfl (lv_at hl 1 rfl) ?_
  refine cS (l := l) (yM := yX11_sideOf) (As := [.int 112]) (rest := []) (wr := [(a0, .inr (13, [.ref a1, .ref z0, .ref z1, .ref z2, .ref z3, .ref z4, .int 45, .ref z5, .ref z6, .ref z7, .int 0, .ref z8, .ref z9, .int 0, .int 0, .int 0, .int 0, .ref z10, .int 0, .null, .ref z11, .ref z12])), (a1, .inl (y 0, 3, .inl (fun _ => 0)))]) hF (c23_X11_sideOf l) gs_RX11_124 1 (by decide +kernel) rfl ⟨(Nat.le_of_ble_eq_true rfl), (Nat.le_of_ble_eq_true rfl)⟩ hl.1 rfl (Nat.le_of_ble_eq_true rfl) dX11_length_1 ⟨(Nat.le_of_ble_eq_true rfl), (Nat.le_of_ble_eq_true rfl)⟩ hP hD hS (pA hA hS) (fun _ h => h) [] [] [0, 1] rfl rfl rfl rfl rfl (by decide) (fun u_1 H locs hP hD hS => ?_)
  have hP : va_P D vwCl [(a0, .inr (13, [.ref a1, .ref z0, .ref z1, .ref z2, .ref z3, .ref z4, .int 45, .ref z5, .ref z6, .ref z7, .int 0, .ref z8, .ref z9, .int 0, .int 0, .int 0, .int 0, .ref z10, .int 0, .null, .ref z11, .ref z12])), (a1, .inl (y 0, 3, .inl (fun _ => 0)))] H := hP
  have hD : va_D A [(a0, .inr (13, [.ref a1, .ref z0, .ref z1, .ref z2, .ref z3, .ref z4, .int 45, .ref z5, .ref z6, .ref z7, .int 0, .ref z8, .ref z9, .int 0, .int 0, .int 0, .int 0, .ref z10, .int 0, .null, .ref z11, .ref z12])), (a1, .inl (y 0, 3, .inl (fun _ => 0)))] := hD
  refine W.widen (k := 0) (n := 0) (Nat.le_of_ble_eq_true rfl) (Nat.le_of_ble_eq_true rfl) ?_
  refine W.eq (g2 := F0 m 4 ls [.int 0]) rfl ?_
  refine lv_istore_n (lv' := [(3, .int 0), (0, .ref a0), (1, .int 112), (2, .int p0)]) hx hb dX11_length_4 rfl hl (by decide) rfl (fun ls hl => ?_)
  refine lv_aload_n hx hb dX11_length_5 rfl (lv_at hl 1 rfl) ?_
  refine lv_iload_n hx hb dX11_length_6 rfl (lv_at hl 0 rfl) ?_
  refine lv_if_ge (tgt := 14) hx hb dX11_length_7 (by decide) (fun _ => ?_) (fun c => absurd (by decide) c)
  refine lv_iconst (v := 0) hx hb dX11_length_14 (by decide) ?_
  refine lv_aload_n hx hb dX11_length_15 rfl (lv_at hl 1 rfl) ?_
  refine lv_iload_n hx hb dX11_length_16 rfl (lv_at hl 0 rfl) ?_
  refine lv_iload_n hx hb dX11_length_17 rfl (lv_at hl 3 rfl) ?_
  refine cV (l := l) (yM := yX11_isOne) (C := RX11) (As := [.int 0, .int p0]) (rest := [.int 0, .ref a0]) (wr := [(a0, .inr (13, [.ref a1, .ref z0, .ref z1, .ref z2, .ref z3, .ref z4, .int 45, .ref z5, .ref z6, .ref z7, .int 0, .ref z8, .ref z9, .int 0, .int 0, .int 0, .int 0, .ref z10, .int 0, .null, .ref z11, .ref z12])), (a1, .inl (y 0, 3, .inl (fun _ => 0)))]) hF (c122_X11_isOne l a0 a1 z0 z1 z2 z3 z4 z5 z6 z7 z8 z9 z10 z11 z12 p0) gv_RX11_155 2 (by decide +kernel) rfl ⟨(Nat.le_of_ble_eq_true rfl), (Nat.le_of_ble_eq_true rfl)⟩ hl.1 rfl (Nat.le_of_ble_eq_true rfl) dX11_length_18 ⟨(Nat.le_of_ble_eq_true rfl), (Nat.le_of_ble_eq_true rfl)⟩ hP hD hS (pA hA hS) (fun _ h => h) [0, 1] [] [0, 1] rfl rfl rfl rfl rfl (by decide) 0 (ci := 13) rfl rfl rfl (fun u_2 H locs hP hD hS => ?_)
  have hP : va_P D vwCl [(a0, .inr (13, [.ref a1, .ref z0, .ref z1, .ref z2, .ref z3, .ref z4, .int 45, .ref z5, .ref z6, .ref z7, .int 0, .ref z8, .ref z9, .int 0, .int 0, .int 0, .int 0, .ref z10, .int 0, .null, .ref z11, .ref z12])), (a1, .inl (y 0, 3, .inl (fun _ => 0)))] H := hP
  have hD : va_D A [(a0, .inr (13, [.ref a1, .ref z0, .ref z1, .ref z2, .ref z3, .ref z4, .int 45, .ref z5, .ref z6, .ref z7, .int 0, .ref z8, .ref z9, .int 0, .int 0, .int 0, .int 0, .ref z10, .int 0, .null, .ref z11, .ref z12])), (a1, .inl (y 0, 3, .inl (fun _ => 0)))] := hD
  refine W.widen (k := 0) (n := 0) (Nat.le_of_ble_eq_true rfl) (Nat.le_of_ble_eq_true rfl) ?_
  refine W.eq (g2 := F0 m 21 ls [.int 0, .int 0, .ref a0]) rfl ?_
  refine lv_if_ne (tgt := 28) hx hb dX11_length_21 (by decide) (fun c => absurd (by decide) c) (fun _ => ?_)
  refine lv_iconst (v := 1) hx hb dX11_length_24 (by decide) ?_
  refine lv_goto (tgt := 29) hx hb dX11_length_25 (by decide) ?_
  refine lv_iconst (v := 0) hx hb dX11_length_29 (by decide) ?_
  refine cV (l := l) (yM := yX11_fails) (C := RX11) (As := [.int 0, .int 1, .int 0]) (rest := []) (wr := [(a1, .inl (y 0, 3, .inl (fun _ => 0)))]) hF (c123_X11_fails l a0 a1 z0 z1 z2 z3 z4 z5 z6 z7 z8 z9 z10 z11 z12) gv_RX11_128 3 (by decide +kernel) rfl ⟨(Nat.le_of_ble_eq_true rfl), (Nat.le_of_ble_eq_true rfl)⟩ hl.1 rfl (Nat.le_of_ble_eq_true rfl) dX11_length_30 ⟨(Nat.le_of_ble_eq_true rfl), (Nat.le_of_ble_eq_true rfl)⟩ hP hD hS (va_free (wc := [(a0, .inr (13, [.ref a1, .ref z0, .ref z1, .ref z2, .ref z3, .ref z4, .int 45, .ref z5, .ref z6, .ref z7, .int 0, .ref z8, .ref z9, .int 0, .int 0, .int 0, .int 0, .ref z10, .int 0, .null, .ref z11, .ref z12]))]) hD hS hA [0] rfl) (fun _ h => h) [0] [0] [1] rfl rfl rfl rfl rfl (by decide) 0 (ci := 13) rfl rfl rfl (fun u_3 H locs hP hD hS => ?_)
  have hP : va_P D vwCl [(a1, .inl (y 0, 3, .inl (fun _ => 0))), (a0, .inr (13, [.ref a1, .ref z0, .ref z1, .ref z2, .ref z3, .ref z4, .int 45, .ref z5, .ref z6, .ref z7, .int 0, .ref z8, .ref z9, .int 0, .int 0, .int 2, .int 0, .ref z10, .int 0, .null, .ref z11, .ref z12]))] H := hP
  have hD : va_D A [(a1, .inl (y 0, 3, .inl (fun _ => 0))), (a0, .inr (13, [.ref a1, .ref z0, .ref z1, .ref z2, .ref z3, .ref z4, .int 45, .ref z5, .ref z6, .ref z7, .int 0, .ref z8, .ref z9, .int 0, .int 0, .int 2, .int 0, .ref z10, .int 0, .null, .ref z11, .ref z12]))] := hD
  refine W.widen (k := 0) (n := 0) (Nat.le_of_ble_eq_true rfl) (Nat.le_of_ble_eq_true rfl) ?_
  refine W.eq (g2 := F0 m 33 ls [.int 1]) rfl ?_
  refine lv_if_eq (tgt := 40) hx hb dX11_length_33 (by decide) (fun c => absurd c (by decide)) (fun _ => ?_)
  refine lv_iconst (v := 0) hx hb dX11_length_36 (by decide) ?_
  refine lv_goto (tgt := 51) hx hb dX11_length_37 (by decide) ?_
  exact e_i hF hr (Nat.le_of_ble_eq_true rfl) (Nat.le_of_ble_eq_true rfl) hS (qg_end hS (fun _ => 0) rfl [1, 0] hP rfl (hD.sub [1, 0] rfl rfl)) dX11_length_51

set_option maxHeartbeats 4000000 in
set_option maxRecDepth 100000 in
theorem c144_X10_length (l : Launch) (hlt : l.stackTraces = false) (a0 : Nat) (a1 : Nat) (a2 : Nat) (z0 : Nat) (z1 : Nat) (z2 : Nat) (z3 : Nat) (z4 : Nat) (z5 : Nat) (z6 : Nat) (z7 : Nat) (z8 : Nat) (z9 : Nat) (z10 : Nat) (z11 : Nat) (z12 : Nat) (z13 : Nat) (z14 : Nat) (z15 : Nat) (z16 : Nat) (z17 : Nat) (z18 : Nat) (p0 : Int32) : CX l (.code yX10_length cX10_length 3 (some .int)) yX10_length { frames := 7, cells := 1, slots := 6, locals := 113 } [.ref a0, .int 104, .int p0] (fun y => [(a0, .inr (12, [.ref a1, .ref z0, .ref z1, .ref z2, .ref z3, .ref z4, .ref z5, .ref z6, .ref z7, .ref z8, .ref z9, .ref z10, .ref z11, .ref z12, .ref z13])), (a1, .inr (5, [.ref z14, .ref a2, .ref z15])), (a2, .inr (4, [.int 0, .ref z16, .ref z17, .ref z18]))]) (fun _ => []) "java/util/NoSuchElementException" := by
  refine mkX (by decide) (Nat.le_of_ble_eq_true rfl) ?_
  intro p e s m args below meth c D y A ls hF htb hAe hP hD hS hl
  have hF : FX p e s m args meth c cX10_length 3 RX10 "length" D y A := hF
  obtain ⟨⟨hx, hb, hml, hown, hts⟩, hev, heh, hA, hlk, hnm⟩ := id hF
  have hK := hev.1
  have hP : va_P D vwCl [(a0, .inr (12, [.ref a1, .ref z0, .ref z1, .ref z2, .ref z3, .ref z4, .ref z5, .ref z6, .ref z7, .ref z8, .ref z9, .ref z10, .ref z11, .ref z12, .ref z13])), (a1, .inr (5, [.ref z14, .ref a2, .ref z15])), (a2, .inr (4, [.int 0, .ref z16, .ref z17, .ref z18]))] s.heap := hP
  have hD : va_D (fun _ => True) [(a0, .inr (12, [.ref a1, .ref z0, .ref z1, .ref z2, .ref z3, .ref z4, .ref z5, .ref z6, .ref z7, .ref z8, .ref z9, .ref z10, .ref z11, .ref z12, .ref z13])), (a1, .inr (5, [.ref z14, .ref a2, .ref z15])), (a2, .inr (4, [.int 0, .ref z16, .ref z17, .ref z18]))] := hD
  have hl : lv_has ls 3 [(0, .ref a0), (1, .int 104), (2, .int p0)] := hl
  refine lv_aload_n hx hb dX10_length_0 rfl (lv_at hl 0 rfl) ?_
  refine lv_iload_n hx hb dX10_length_1 rfl (lv_at hl 1 rfl) ?_
  refine lv_iload_n hx hb dX10_length_2 rfl (lv_at hl 2 rfl) ?_
  exact xV (l := l) (yM := yX10_needOne) (C := RX10) (As := [.int 104, .int p0]) (rest := []) hF htb (c126_X10_needOne l hlt a0 a1 a2 z0 z1 z2 z3 z4 z5 z6 z7 z8 z9 z10 z11 z12 z13 z14 z15 z16 z17 z18 p0) gv_RX10_161 2 (by decide +kernel) rfl ⟨(Nat.le_of_ble_eq_true rfl), (Nat.le_of_ble_eq_true rfl)⟩ hl.1 rfl (Nat.le_of_ble_eq_true rfl) dX10_length_3 ⟨(Nat.le_of_ble_eq_true rfl), (Nat.le_of_ble_eq_true rfl)⟩ hP hD hS (pA hA hS) [0, 1, 2] rfl rfl 0 (ci := 12) rfl rfl rfl ⟨(Nat.le_of_ble_eq_true rfl), (Nat.le_of_ble_eq_true rfl)⟩

