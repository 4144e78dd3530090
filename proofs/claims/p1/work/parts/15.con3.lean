set_option maxHeartbeats 4000000 in
set_option maxRecDepth 100000 in
theorem c144_L_length (l : Launch) (hlt : l.stackTraces = false) (a0 : Nat) (a1 : Nat) (a2 : Nat) (z0 : Nat) (z1 : Nat) (z2 : Nat) (z3 : Nat) (z4 : Nat) (z5 : Nat) (z6 : Nat) (z7 : Nat) (z8 : Nat) (z9 : Nat) (z10 : Nat) (z11 : Nat) (z12 : Nat) (z13 : Nat) (z14 : Nat) (z15 : Nat) (z16 : Nat) (z17 : Nat) (z18 : Nat) (p0 : Int32) (z19 : Nat) : CT l (.codeWith yL_length cL_length 5 (some .int) [(0, 10, 13, 13), (0, 10, 17, 24)]) yL_length { frames := 8, cells := 1, slots := 6, locals := 135 } [.ref a0, .int 104, .int p0, .ref z19] (fun y => [(a0, .inr (12, [.ref a1, .ref z0, .ref z1, .ref z2, .ref z3, .ref z4, .ref z5, .ref z6, .ref z7, .ref z8, .ref z9, .ref z10, .ref z11, .ref z12, .ref z13])), (a1, .inr (5, [.ref z14, .ref a2, .ref z15])), (a2, .inr (4, [.int 0, .ref z16, .ref z17, .ref z18]))]) (fun _ => []) (fun u => some (.int 2)) (fun y u => []) := by
  refine mkH (by decide) (Nat.le_of_ble_eq_true rfl) ?_
  intro p e s m args below meth c D y A ls hF htab hr hAe hP hD hS hl
  have hF : FX p e s m args meth c cL_length 5 RL "length" D y A := hF
  obtain ⟨⟨hx, hb, hml, hown, hts⟩, hev, heh, hA, hlk, hnm⟩ := id hF
  have hK := hev.1
  have hP : va_P D vwCl [(a0, .inr (12, [.ref a1, .ref z0, .ref z1, .ref z2, .ref z3, .ref z4, .ref z5, .ref z6, .ref z7, .ref z8, .ref z9, .ref z10, .ref z11, .ref z12, .ref z13])), (a1, .inr (5, [.ref z14, .ref a2, .ref z15])), (a2, .inr (4, [.int 0, .ref z16, .ref z17, .ref z18]))] s.heap := hP
  have hD : va_D (fun _ => True) [(a0, .inr (12, [.ref a1, .ref z0, .ref z1, .ref z2, .ref z3, .ref z4, .ref z5, .ref z6, .ref z7, .ref z8, .ref z9, .ref z10, .ref z11, .ref z12, .ref z13])), (a1, .inr (5, [.ref z14, .ref a2, .ref z15])), (a2, .inr (4, [.int 0, .ref z16, .ref z17, .ref z18]))] := hD
  have hl : lv_has ls 5 [(0, .ref a0), (1, .int 104), (2, .int p0), (3, .ref z19)] := hl
  refine lv_aload_n hx hb dL_length_0 rfl (lv_at hl 3 rfl) ?_
  refine lv_iconst (v := 0) hx hb dL_length_1 (by decide) ?_
  refine lv_aload_n hx hb dL_length_2 rfl (lv_at hl 0 rfl) ?_
  refine lv_iload_n hx hb dL_length_3 rfl (lv_at hl 1 rfl) ?_
  refine lv_iload_n hx hb dL_length_4 rfl (lv_at hl 2 rfl) ?_
  refine hV (wr := [(a0, .inr (12, [.ref a1, .ref z0, .ref z1, .ref z2, .ref z3, .ref z4, .ref z5, .ref z6, .ref z7, .ref z8, .ref z9, .ref z10, .ref z11, .ref z12, .ref z13])), (a1, .inr (5, [.ref z14, .ref a2, .ref z15])), (a2, .inr (4, [.int 0, .ref z16, .ref z17, .ref z18]))]) (name := "java/util/NoSuchElementException") (E0 := "java/util/NoSuchElementException") (l := l) (yM := yX10_length) (C := RX10) (As := [.int 104, .int p0]) (rest := [.int 0, .ref z19]) hF (c144_X10_length l hlt a0 a1 a2 z0 z1 z2 z3 z4 z5 z6 z7 z8 z9 z10 z11 z12 z13 z14 z15 z16 z17 z18 p0) gv_RL_42 2 (by decide +kernel) rfl ⟨(Nat.le_of_ble_eq_true rfl), (Nat.le_of_ble_eq_true rfl)⟩ hl.1 rfl (Nat.le_of_ble_eq_true rfl) dL_length_5 ⟨(Nat.le_of_ble_eq_true rfl), (Nat.le_of_ble_eq_true rfl)⟩ hP hD hS (pA hA hS) (fun _ _ => trivial) [0, 1, 2] [] [0, 1, 2] rfl rfl rfl rfl rfl (by decide) 0 (ci := 12) rfl rfl rfl [⟨0, 10, 13, 13⟩] ⟨0, 10, 17, 24⟩ [] htab (List.forall_mem_cons.mpr ⟨Or.inr ⟨by decide, "java/lang/IllegalArgumentException", wd_235, List.mem_of_getElem? (i := 0) rfl⟩, (fun z hz => nomatch hz)⟩) (by decide) (by decide) wd_261 (by decide) (fun q9 H locs hP hD hS => ?_)
  have hP : va_P D vwCl [(a0, .inr (12, [.ref a1, .ref z0, .ref z1, .ref z2, .ref z3, .ref z4, .ref z5, .ref z6, .ref z7, .ref z8, .ref z9, .ref z10, .ref z11, .ref z12, .ref z13])), (a1, .inr (5, [.ref z14, .ref a2, .ref z15])), (a2, .inr (4, [.int 0, .ref z16, .ref z17, .ref z18]))] H := hP
  have hD : va_D (fun _ => True) [(a0, .inr (12, [.ref a1, .ref z0, .ref z1, .ref z2, .ref z3, .ref z4, .ref z5, .ref z6, .ref z7, .ref z8, .ref z9, .ref z10, .ref z11, .ref z12, .ref z13])), (a1, .inr (5, [.ref z14, .ref a2, .ref z15])), (a2, .inr (4, [.int 0, .ref z16, .ref z17, .ref z18]))] := hD
  refine W.widen (k := 1) (n := 6) (Nat.le_of_ble_eq_true rfl) (Nat.le_of_ble_eq_true rfl) ?_
  refine W.eq (g2 := F0 m 17 ls [.ref q9]) rfl ?_
  refine lv_astore (lv' := [(4, .ref q9), (0, .ref a0), (1, .int 104), (2, .int p0), (3, .ref z19)]) hx hb dL_length_17 hl (by decide) rfl (fun ls hl => ?_)
  refine lv_iconst (v := 2) hx hb dL_length_19 (by decide) ?_
  exact e_i hF hr (Nat.le_of_ble_eq_true rfl) (Nat.le_of_ble_eq_true rfl) hS (qg_end hS (fun _ => 0) rfl [] hP rfl d_nil) dL_length_20

set_option maxHeartbeats 4000000 in
set_option maxRecDepth 100000 in
theorem c146_X11_length (l : Launch) (a0 : Nat) (a1 : Nat) (z0 : Nat) (z1 : Nat) (z2 : Nat) (z3 : Nat) (z4 : Nat) (z5 : Nat) (z6 : Nat) (z7 : Nat) (z8 : Nat) (z9 : Nat) (z10 : Nat) (z11 : Nat) (z12 : Nat) (p0 : Int32) : CT l (.code yX11_length cX11_length 4 (some .int)) yX11_length { frames := 5, cells := 0, slots := 0, locals := 111 } [.ref a0, .int 104, .int p0] (fun y => [(a0, .inr (13, [.ref a1, .ref z0, .ref z1, .ref z2, .ref z3, .ref z4, .int 45, .ref z5, .ref z6, .ref z7, .int 0, .ref z8, .ref z9, .int 0, .int 0, .int 0, .int 0, .ref z10, .int 0, .null, .ref z11, .ref z12])), (a1, .inl (y 0, 3, .inl (fun _ => 0)))]) (fun y => [(a0, .inr (13, [.ref a1, .ref z0, .ref z1, .ref z2, .ref z3, .ref z4, .int 45, .ref z5, .ref z6, .ref z7, .int 0, .ref z8, .ref z9, .int 0, .int 0, .int 0, .int 0, .ref z10, .int 0, .null, .ref z11, .ref z12])), (a1, .inl (y 0, 3, .inl (fun _ => 0)))]) (fun u => some (.int 0)) (fun y u => [(a0, .inr (13, [.ref a1, .ref z0, .ref z1, .ref z2, .ref z3, .ref z4, .int 45, .ref z5, .ref z6, .ref z7, .int 0, .ref z8, .ref z9, .int 0, .int 0, .int 2, .int 0, .ref z10, .int 0, .null, .ref z11, .ref z12])), (a1, .inl (y 0, 3, .inl (fun _ => 0)))]) := by
  refine mkM (by decide) (Nat.le_of_ble_eq_true rfl) ?_
  intro p e s m args below meth c D y A ls hF hr hAe hP hD hS hl
  have hF : FX p e s m args meth c cX11_length 4 RX11 "length" D y A := hF
  obtain ⟨⟨hx, hb, hml, hown, hts⟩, hev, heh, hA, hlk, hnm⟩ := id hF
  have hK := hev.1
  have hP : va_P D vwCl [(a0, .inr (13, [.ref a1, .ref z0, .ref z1, .ref z2, .ref z3, .ref z4, .int 45, .ref z5, .ref z6, .ref z7, .int 0, .ref z8, .ref z9, .int 0, .int 0, .int 0, .int 0, .ref z10, .int 0, .null, .ref z11, .ref z12])), (a1, .inl (y 0, 3, .inl (fun _ => 0)))] s.heap := hP
  have hD : va_D A [(a0, .inr (13, [.ref a1, .ref z0, .ref z1, .ref z2, .ref z3, .ref z4, .int 45, .ref z5, .ref z6, .ref z7, .int 0, .ref z8, .ref z9, .int 0, .int 0, .int 0, .int 0, .ref z10, .int 0, .null, .ref z11, .ref z12])), (a1, .inl (y 0, 3, .inl (fun _ => 0)))] := by rw [← hAe]; exact hD.self
  have hl : lv_has ls 4 [(0, .ref a0), (1, .int 104), (2, .int p0)] := hl
  refine lv_iload_n hx hb dX11_length_0 rfl (lv_at hl 1 rfl) ?_
  refine cS (l := l) (yM := yX11_sideOf) (As := [.int 104]) (rest := []) (wr := [(a0, .inr (13, [.ref a1, .ref z0, .ref z1, .ref z2, .ref z3, .ref z4, .int 45, .ref z5, .ref z6, .ref z7, .int 0, .ref z8, .ref z9, .int 0, .int 0, .int 0, .int 0, .ref z10, .int 0, .null, .ref z11, .ref z12])), (a1, .inl (y 0, 3, .inl (fun _ => 0)))]) hF (c39_X11_sideOf l) gs_RX11_124 1 (by decide +kernel) rfl ⟨(Nat.le_of_ble_eq_true rfl), (Nat.le_of_ble_eq_true rfl)⟩ hl.1 rfl (Nat.le_of_ble_eq_true rfl) dX11_length_1 ⟨(Nat.le_of_ble_eq_true rfl), (Nat.le_of_ble_eq_true rfl)⟩ hP hD hS (pA hA hS) (fun _ h => h) [] [] [0, 1] rfl rfl rfl rfl rfl (by decide) (fun u_1 H locs hP hD hS => ?_)
  have hP : va_P D vwCl [(a0, .inr (13, [.ref a1, .ref z0, .ref z1, .ref z2, .ref z3, .ref z4, .int 45, .ref z5, .ref z6, .ref z7, .int 0, .ref z8, .ref z9, .int 0, .int 0, .int 0, .int 0, .ref z10, .int 0, .null, .ref z11, .ref z12])), (a1, .inl (y 0, 3, .inl (fun _ => 0)))] H := hP
  have hD : va_D A [(a0, .inr (13, [.ref a1, .ref z0, .ref z1, .ref z2, .ref z3, .ref z4, .int 45, .ref z5, .ref z6, .ref z7, .int 0, .ref z8, .ref z9, .int 0, .int 0, .int 0, .int 0, .ref z10, .int 0, .null, .ref z11, .ref z12])), (a1, .inl (y 0, 3, .inl (fun _ => 0)))] := hD
  refine W.widen (k := 0) (n := 0) (Nat.le_of_ble_eq_true rfl) (Nat.le_of_ble_eq_true rfl) ?_
  refine W.eq (g2 := F0 m 4 ls [.int 1]) rfl ?_
  refine lv_istore_n (lv' := [(3, .int 1), (0, .ref a0), (1, .int 104), (2, .int p0)]) hx hb dX11_length_4 rfl hl (by decide) rfl (fun ls hl => ?_)
  refine lv_aload_n hx hb dX11_length_5 rfl (lv_at hl 1 rfl) ?_
  refine lv_iload_n hx hb dX11_length_6 rfl (lv_at hl 0 rfl) ?_
  refine lv_if_ge (tgt := 14) hx hb dX11_length_7 (by decide) (fun _ => ?_) (fun c => absurd (by decide) c)
  refine lv_iconst (v := 0) hx hb dX11_length_14 (by decide) ?_
  refine lv_aload_n hx hb dX11_length_15 rfl (lv_at hl 1 rfl) ?_
  refine lv_iload_n hx hb dX11_length_16 rfl (lv_at hl 0 rfl) ?_
  refine lv_iload_n hx hb dX11_length_17 rfl (lv_at hl 3 rfl) ?_
  refine cV (l := l) (yM := yX11_isOne) (C := RX11) (As := [.int 1, .int p0]) (rest := [.int 0, .ref a0]) (wr := [(a0, .inr (13, [.ref a1, .ref z0, .ref z1, .ref z2, .ref z3, .ref z4, .int 45, .ref z5, .ref z6, .ref z7, .int 0, .ref z8, .ref z9, .int 0, .int 0, .int 0, .int 0, .ref z10, .int 0, .null, .ref z11, .ref z12])), (a1, .inl (y 0, 3, .inl (fun _ => 0)))]) hF (c129_X11_isOne l a0 a1 z0 z1 z2 z3 z4 z5 z6 z7 z8 z9 z10 z11 z12 p0) gv_RX11_155 2 (by decide +kernel) rfl ⟨(Nat.le_of_ble_eq_true rfl), (Nat.le_of_ble_eq_true rfl)⟩ hl.1 rfl (Nat.le_of_ble_eq_true rfl) dX11_length_18 ⟨(Nat.le_of_ble_eq_true rfl), (Nat.le_of_ble_eq_true rfl)⟩ hP hD hS (pA hA hS) (fun _ h => h) [0, 1] [] [0, 1] rfl rfl rfl rfl rfl (by decide) 0 (ci := 13) rfl rfl rfl (fun u_2 H locs hP hD hS => ?_)
  have hP : va_P D vwCl [(a0, .inr (13, [.ref a1, .ref z0, .ref z1, .ref z2, .ref z3, .ref z4, .int 45, .ref z5, .ref z6, .ref z7, .int 0, .ref z8, .ref z9, .int 0, .int 0, .int 0, .int 0, .ref z10, .int 0, .null, .ref z11, .ref z12])), (a1, .inl (y 0, 3, .inl (fun _ => 0)))] H := hP
  have hD : va_D A [(a0, .inr (13, [.ref a1, .ref z0, .ref z1, .ref z2, .ref z3, .ref z4, .int 45, .ref z5, .ref z6, .ref z7, .int 0, .ref z8, .ref z9, .int 0, .int 0, .int 0, .int 0, .ref z10, .int 0, .null, .ref z11, .ref z12])), (a1, .inl (y 0, 3, .inl (fun _ => 0)))] := hD
  refine W.widen (k := 0) (n := 0) (Nat.le_of_ble_eq_true rfl) (Nat.le_of_ble_eq_true rfl) ?_
  refine W.eq (g2 := F0 m 21 ls [.int 0, .int 0, .ref a0]) rfl ?_
  refine lv_if_ne (tgt := 28) hx hb dX11_length_21 (by decide) (fun c => absurd (by decide) c) (fun _ => ?_)
  refine lv_iconst (v := 1) hx hb dX11_length_24 (by decide) ?_
  refine lv_goto (tgt := 29) hx hb dX11_length_25 (by decide) ?_
  refine lv_iconst (v := 0) hx hb dX11_length_29 (by decide) ?_
  refine cV (l := l) (yM := yX11_fails) (C := RX11) (As := [.int 0, .int 1, .int 0]) (rest := []) (wr := [(a1, .inl (y 0, 3, .inl (fun _ => 0)))]) hF (c123_X11_fails l a0 a1 z0 z1 z2 z3 z4 z5 z6 z7 z8 z9 z10 z11 z12) gv_RX11_128 3 (by decide +kernel) rfl ⟨(Nat.le_of_ble_eq_true rfl), (Nat.le_of_ble_eq_true rfl)⟩ hl.1 rfl (Nat.le_of_ble_eq_true rfl) dX11_length_30 ⟨(Nat.le_of_ble_eq_true rfl), (Nat.le_of_ble_eq_true rfl)⟩ hP hD hS (va_free (wc := [(a0, .inr (13, [.ref a1, .ref z0, .ref z1, .ref z2, .ref z3, .ref z4, .int 45, .ref z5, .ref z6, .ref z7, .int 0, .ref z8, .ref z9, .int 0, .int 0, .int 0, .int 0, .ref z10, .int 0, .null, .ref z11, .ref z12]))]) hD hS hA [0] rfl) (fun _ h => h) [0] [0] [1] rfl rfl rfl rfl rfl (by decide) 0 (ci := 13) rfl rfl rfl (fun u_3 H locs hP hD hS => ?_)
  have hP : va_P D vwCl [(a1, .inl (y 0, 3, .inl (fun _ => 0))), (a0, .inr (13, [.ref a1, .ref z0, .ref z1, .ref z2, .ref z3, .ref z4, .int 45, .ref z5, .ref z6, .ref z7, .int 0, .ref z8, .ref z9, .int 0, .int 0, .int 2, .int 0, .ref z10, .int 0, .null, .ref z11, .ref z12]))] H := hP
  have hD : va_D A [(a1, .inl (y 0, 3, .inl (fun _ => 0))), (a0, .inr (13, [.ref a1, .ref z0, .ref z1, .ref z2, .ref z3, .ref z4, .int 45, .ref z5, .ref z6, .ref z7, .int 0, .ref z8, .ref z9, .int 0, .int 0, .int 2, .int 0, .ref z10, .int 0, .null, .ref z11, .ref z12]))] := hD
  refine W.widen (k := 0) (n := 0) (Nat.le_of_ble_eq_true rfl) (Nat.le_of_ble_eq_true rfl) ?_
  refine W.eq (g2 := F0 m 33 ls [.int 1]) rfl ?_
  refine lv_if_eq (tgt := 40) hx hb dX11_length_33 (by decide) (fun c => absurd c (by decide)) (fun _ => ?_)
  refine lv_iconst (v := 0) hx hb dX11_length_36 (by decide) ?_
  refine lv_goto (tgt := 51) hx hb dX11_length_37 (by decide) ?_
  exact e_i hF hr (Nat.le_of_ble_eq_true rfl) (Nat.le_of_ble_eq_true rfl) hS (qg_end hS (fun _ => 0) rfl [1, 0] hP rfl (hD.sub [1, 0] rfl rfl)) dX11_length_51

set_option maxHeartbeats 4000000 in
set_option maxRecDepth 100000 in
theorem c147_X10_length (l : Launch) (hlt : l.stackTraces = false) (a0 : Nat) (a1 : Nat) (z0 : Nat) (z1 : Nat) (z2 : Nat) (z3 : Nat) (z4 : Nat) (z5 : Nat) (z6 : Nat) (z7 : Nat) (z8 : Nat) (z9 : Nat) (z10 : Nat) (z11 : Nat) (z12 : Nat) (z13 : Nat) (z14 : Nat) (z15 : Nat) (z16 : Nat) (p0 : Int32) : CX l (.code yX10_length cX10_length 3 (some .int)) yX10_length { frames := 7, cells := 1, slots := 6, locals := 113 } [.ref a0, .int 109, .int p0] (fun y => [(a0, .inr (12, [.ref z0, .ref a1, .ref z1, .ref z2, .ref z3, .ref z4, .ref z5, .ref z6, .ref z7, .ref z8, .ref z9, .ref z10, .ref z11, .ref z12, .ref z13])), (a1, .inr (4, [.int 0, .ref z14, .ref z15, .ref z16]))]) (fun _ => []) "java/util/NoSuchElementException" := by
  refine mkX (by decide) (Nat.le_of_ble_eq_true rfl) ?_
  intro p e s m args below meth c D y A ls hF htb hAe hP hD hS hl
  have hF : FX p e s m args meth c cX10_length 3 RX10 "length" D y A := hF
  obtain ⟨⟨hx, hb, hml, hown, hts⟩, hev, heh, hA, hlk, hnm⟩ := id hF
  have hK := hev.1
  have hP : va_P D vwCl [(a0, .inr (12, [.ref z0, .ref a1, .ref z1, .ref z2, .ref z3, .ref z4, .ref z5, .ref z6, .ref z7, .ref z8, .ref z9, .ref z10, .ref z11, .ref z12, .ref z13])), (a1, .inr (4, [.int 0, .ref z14, .ref z15, .ref z16]))] s.heap := hP
  have hD : va_D (fun _ => True) [(a0, .inr (12, [.ref z0, .ref a1, .ref z1, .ref z2, .ref z3, .ref z4, .ref z5, .ref z6, .ref z7, .ref z8, .ref z9, .ref z10, .ref z11, .ref z12, .ref z13])), (a1, .inr (4, [.int 0, .ref z14, .ref z15, .ref z16]))] := hD
  have hl : lv_has ls 3 [(0, .ref a0), (1, .int 109), (2, .int p0)] := hl
  refine lv_aload_n hx hb dX10_length_0 rfl (lv_at hl 0 rfl) ?_
  refine lv_iload_n hx hb dX10_length_1 rfl (lv_at hl 1 rfl) ?_
  refine lv_iload_n hx hb dX10_length_2 rfl (lv_at hl 2 rfl) ?_
  exact xV (l := l) (yM := yX10_needOne) (C := RX10) (As := [.int 109, .int p0]) (rest := []) hF htb (c131_X10_needOne l hlt a0 a1 z0 z1 z2 z3 z4 z5 z6 z7 z8 z9 z10 z11 z12 z13 z14 z15 z16 p0) gv_RX10_161 2 (by decide +kernel) rfl ⟨(Nat.le_of_ble_eq_true rfl), (Nat.le_of_ble_eq_true rfl)⟩ hl.1 rfl (Nat.le_of_ble_eq_true rfl) dX10_length_3 ⟨(Nat.le_of_ble_eq_true rfl), (Nat.le_of_ble_eq_true rfl)⟩ hP hD hS (pA hA hS) [0, 1] rfl rfl 0 (ci := 12) rfl rfl rfl ⟨(Nat.le_of_ble_eq_true rfl), (Nat.le_of_ble_eq_true rfl)⟩

set_option maxHeartbeats 4000000 in
set_option maxRecDepth 100000 in
theorem c147_L_length (l : Launch) (hlt : l.stackTraces = false) (a0 : Nat) (a1 : Nat) (z0 : Nat) (z1 : Nat) (z2 : Nat) (z3 : Nat) (z4 : Nat) (z5 : Nat) (z6 : Nat) (z7 : Nat) (z8 : Nat) (z9 : Nat) (z10 : Nat) (z11 : Nat) (z12 : Nat) (z13 : Nat) (z14 : Nat) (z15 : Nat) (z16 : Nat) (p0 : Int32) (z17 : Nat) : CT l (.codeWith yL_length cL_length 5 (some .int) [(0, 10, 13, 13), (0, 10, 17, 24)]) yL_length { frames := 8, cells := 1, slots := 6, locals := 135 } [.ref a0, .int 109, .int p0, .ref z17] (fun y => [(a0, .inr (12, [.ref z0, .ref a1, .ref z1, .ref z2, .ref z3, .ref z4, .ref z5, .ref z6, .ref z7, .ref z8, .ref z9, .ref z10, .ref z11, .ref z12, .ref z13])), (a1, .inr (4, [.int 0, .ref z14, .ref z15, .ref z16]))]) (fun _ => []) (fun u => some (.int 2)) (fun y u => []) := by
  refine mkH (by decide) (Nat.le_of_ble_eq_true rfl) ?_
  intro p e s m args below meth c D y A ls hF htab hr hAe hP hD hS hl
  have hF : FX p e s m args meth c cL_length 5 RL "length" D y A := hF
  obtain ⟨⟨hx, hb, hml, hown, hts⟩, hev, heh, hA, hlk, hnm⟩ := id hF
  have hK := hev.1
  have hP : va_P D vwCl [(a0, .inr (12, [.ref z0, .ref a1, .ref z1, .ref z2, .ref z3, .ref z4, .ref z5, .ref z6, .ref z7, .ref z8, .ref z9, .ref z10, .ref z11, .ref z12, .ref z13])), (a1, .inr (4, [.int 0, .ref z14, .ref z15, .ref z16]))] s.heap := hP
  have hD : va_D (fun _ => True) [(a0, .inr (12, [.ref z0, .ref a1, .ref z1, .ref z2, .ref z3, .ref z4, .ref z5, .ref z6, .ref z7, .ref z8, .ref z9, .ref z10, .ref z11, .ref z12, .ref z13])), (a1, .inr (4, [.int 0, .ref z14, .ref z15, .ref z16]))] := hD
  have hl : lv_has ls 5 [(0, .ref a0), (1, .int 109), (2, .int p0), (3, .ref z17)] := hl
  refine lv_aload_n hx hb dL_length_0 rfl (lv_at hl 3 rfl) ?_
  refine lv_iconst (v := 0) hx hb dL_length_1 (by decide) ?_
  refine lv_aload_n hx hb dL_length_2 rfl (lv_at hl 0 rfl) ?_
  refine lv_iload_n hx hb dL_length_3 rfl (lv_at hl 1 rfl) ?_
  refine lv_iload_n hx hb dL_length_4 rfl (lv_at hl 2 rfl) ?_
  refine hV (wr := [(a0, .inr (12, [.ref z0, .ref a1, .ref z1, .ref z2, .ref z3, .ref z4, .ref z5, .ref z6, .ref z7, .ref z8, .ref z9, .ref z10, .ref z11, .ref z12, .ref z13])), (a1, .inr (4, [.int 0, .ref z14, .ref z15, .ref z16]))]) (name := "java/util/NoSuchElementException") (E0 := "java/util/NoSuchElementException") (l := l) (yM := yX10_length) (C := RX10) (As := [.int 109, .int p0]) (rest := [.int 0, .ref z17]) hF (c147_X10_length l hlt a0 a1 z0 z1 z2 z3 z4 z5 z6 z7 z8 z9 z10 z11 z12 z13 z14 z15 z16 p0) gv_RL_42 2 (by decide +kernel) rfl ⟨(Nat.le_of_ble_eq_true rfl), (Nat.le_of_ble_eq_true rfl)⟩ hl.1 rfl (Nat.le_of_ble_eq_true rfl) dL_length_5 ⟨(Nat.le_of_ble_eq_true rfl), (Nat.le_of_ble_eq_true rfl)⟩ hP hD hS (pA hA hS) (fun _ _ => trivial) [0, 1] [] [0, 1] rfl rfl rfl rfl rfl (by decide) 0 (ci := 12) rfl rfl rfl [⟨0, 10, 13, 13⟩] ⟨0, 10, 17, 24⟩ [] htab (List.forall_mem_cons.mpr ⟨Or.inr ⟨by decide, "java/lang/IllegalArgumentException", wd_235, List.mem_of_getElem? (i := 0) rfl⟩, (fun z hz => nomatch hz)⟩) (by decide) (by decide) wd_261 (by decide) (fun q9 H locs hP hD hS => ?_)
  have hP : va_P D vwCl [(a0, .inr (12, [.ref z0, .ref a1, .ref z1, .ref z2, .ref z3, .ref z4, .ref z5, .ref z6, .ref z7, .ref z8, .ref z9, .ref z10, .ref z11, .ref z12, .ref z13])), (a1, .inr (4, [.int 0, .ref z14, .ref z15, .ref z16]))] H := hP
  have hD : va_D (fun _ => True) [(a0, .inr (12, [.ref z0, .ref a1, .ref z1, .ref z2, .ref z3, .ref z4, .ref z5, .ref z6, .ref z7, .ref z8, .ref z9, .ref z10, .ref z11, .ref z12, .ref z13])), (a1, .inr (4, [.int 0, .ref z14, .ref z15, .ref z16]))] := hD
  refine W.widen (k := 1) (n := 6) (Nat.le_of_ble_eq_true rfl) (Nat.le_of_ble_eq_true rfl) ?_
  refine W.eq (g2 := F0 m 17 ls [.ref q9]) rfl ?_
  refine lv_astore (lv' := [(4, .ref q9), (0, .ref a0), (1, .int 109), (2, .int p0), (3, .ref z17)]) hx hb dL_length_17 hl (by decide) rfl (fun ls hl => ?_)
  refine lv_iconst (v := 2) hx hb dL_length_19 (by decide) ?_
  exact e_i hF hr (Nat.le_of_ble_eq_true rfl) (Nat.le_of_ble_eq_true rfl) hS (qg_end hS (fun _ => 0) rfl [] hP rfl d_nil) dL_length_20

set_option maxHeartbeats 4000000 in
set_option maxRecDepth 100000 in
theorem c149_X11_length (l : Launch) (a0 : Nat) (a1 : Nat) (z0 : Nat) (z1 : Nat) (z2 : Nat) (z3 : Nat) (z4 : Nat) (z5 : Nat) (z6 : Nat) (z7 : Nat) (z8 : Nat) (z9 : Nat) (z10 : Nat) (z11 : Nat) (z12 : Nat) (p0 : Int32) : CT l (.code yX11_length cX11_length 4 (some .int)) yX11_length { frames := 5, cells := 0, slots := 0, locals := 111 } [.ref a0, .int 109, .int p0] (fun y => [(a0, .inr (13, [.ref a1, .ref z0, .ref z1, .ref z2, .ref z3, .ref z4, .int 45, .ref z5, .ref z6, .ref z7, .int 0, .ref z8, .ref z9, .int 0, .int 0, .int 0, .int 0, .ref z10, .int 0, .null, .ref z11, .ref z12])), (a1, .inl (y 0, 3, .inl (fun _ => 0)))]) (fun y => [(a0, .inr (13, [.ref a1, .ref z0, .ref z1, .ref z2, .ref z3, .ref z4, .int 45, .ref z5, .ref z6, .ref z7, .int 0, .ref z8, .ref z9, .int 0, .int 0, .int 0, .int 0, .ref z10, .int 0, .null, .ref z11, .ref z12])), (a1, .inl (y 0, 3, .inl (fun _ => 0)))]) (fun u => some (.int 0)) (fun y u => [(a0, .inr (13, [.ref a1, .ref z0, .ref z1, .ref z2, .ref z3, .ref z4, .int 45, .ref z5, .ref z6, .ref z7, .int 0, .ref z8, .ref z9, .int 0, .int 0, .int 2, .int 0, .ref z10, .int 0, .null, .ref z11, .ref z12])), (a1, .inl (y 0, 3, .inl (fun _ => 0)))]) := by
  refine mkM (by decide) (Nat.le_of_ble_eq_true rfl) ?_
  intro p e s m args below meth c D y A ls hF hr hAe hP hD hS hl
  have hF : FX p e s m args meth c cX11_length 4 RX11 "length" D y A := hF
  obtain ⟨⟨hx, hb, hml, hown, hts⟩, hev, heh, hA, hlk, hnm⟩ := id hF
  have hK := hev.1
  have hP : va_P D vwCl [(a0, .inr (13, [.ref a1, .ref z0, .ref z1, .ref z2, .ref z3, .ref z4, .int 45, .ref z5, .ref z6, .ref z7, .int 0, .ref z8, .ref z9, .int 0, .int 0, .int 0, .int 0, .ref z10, .int 0, .null, .ref z11, .ref z12])), (a1, .inl (y 0, 3, .inl (fun _ => 0)))] s.heap := hP
  have hD : va_D A [(a0, .inr (13, [.ref a1, .ref z0, .ref z1, .ref z2, .ref z3, .ref z4, .int 45, .ref z5, .ref z6, .ref z7, .int 0, .ref z8, .ref z9, .int 0, .int 0, .int 0, .int 0, .ref z10, .int 0, .null, .ref z11, .ref z12])), (a1, .inl (y 0, 3, .inl (fun _ => 0)))] := by rw [← hAe]; exact hD.self
  have hl : lv_has ls 4 [(0, .ref a0), (1, .int 109), (2, .int p0)] := hl
  refine lv_iload_n hx hb dX11_length_0 rfl (lv_at hl 1 rfl) ?_
  refine cS (l := l) (yM := yX11_sideOf) (As := [.int 109]) (rest := []) (wr := [(a0, .inr (13, [.ref a1, .ref z0, .ref z1, .ref z2, .ref z3, .ref z4, .int 45, .ref z5, .ref z6, .ref z7, .int 0, .ref z8, .ref z9, .int 0, .int 0, .int 0, .int 0, .ref z10, .int 0, .null, .ref z11, .ref z12])), (a1, .inl (y 0, 3, .inl (fun _ => 0)))]) hF (c49_X11_sideOf l) gs_RX11_124 1 (by decide +kernel) rfl ⟨(Nat.le_of_ble_eq_true rfl), (Nat.le_of_ble_eq_true rfl)⟩ hl.1 rfl (Nat.le_of_ble_eq_true rfl) dX11_length_1 ⟨(Nat.le_of_ble_eq_true rfl), (Nat.le_of_ble_eq_true rfl)⟩ hP hD hS (pA hA hS) (fun _ h => h) [] [] [0, 1] rfl rfl rfl rfl rfl (by decide) (fun u_1 H locs hP hD hS => ?_)
  have hP : va_P D vwCl [(a0, .inr (13, [.ref a1, .ref z0, .ref z1, .ref z2, .ref z3, .ref z4, .int 45, .ref z5, .ref z6, .ref z7, .int 0, .ref z8, .ref z9, .int 0, .int 0, .int 0, .int 0, .ref z10, .int 0, .null, .ref z11, .ref z12])), (a1, .inl (y 0, 3, .inl (fun _ => 0)))] H := hP
  have hD : va_D A [(a0, .inr (13, [.ref a1, .ref z0, .ref z1, .ref z2, .ref z3, .ref z4, .int 45, .ref z5, .ref z6, .ref z7, .int 0, .ref z8, .ref z9, .int 0, .int 0, .int 0, .int 0, .ref z10, .int 0, .null, .ref z11, .ref z12])), (a1, .inl (y 0, 3, .inl (fun _ => 0)))] := hD
  refine W.widen (k := 0) (n := 0) (Nat.le_of_ble_eq_true rfl) (Nat.le_of_ble_eq_true rfl) ?_
  refine W.eq (g2 := F0 m 4 ls [.int 2]) rfl ?_
  refine lv_istore_n (lv' := [(3, .int 2), (0, .ref a0), (1, .int 109), (2, .int p0)]) hx hb dX11_length_4 rfl hl (by decide) rfl (fun ls hl => ?_)
  refine lv_aload_n hx hb dX11_length_5 rfl (lv_at hl 1 rfl) ?_
  refine lv_iload_n hx hb dX11_length_6 rfl (lv_at hl 0 rfl) ?_
  refine lv_if_ge (tgt := 14) hx hb dX11_length_7 (by decide) (fun _ => ?_) (fun c => absurd (by decide) c)
  refine lv_iconst (v := 0) hx hb dX11_length_14 (by decide) ?_
  refine lv_aload_n hx hb dX11_length_15 rfl (lv_at hl 1 rfl) ?_
  refine lv_iload_n hx hb dX11_length_16 rfl (lv_at hl 0 rfl) ?_
  refine lv_iload_n hx hb dX11_length_17 rfl (lv_at hl 3 rfl) ?_
  refine cV (l := l) (yM := yX11_isOne) (C := RX11) (As := [.int 2, .int p0]) (rest := [.int 0, .ref a0]) (wr := [(a0, .inr (13, [.ref a1, .ref z0, .ref z1, .ref z2, .ref z3, .ref z4, .int 45, .ref z5, .ref z6, .ref z7, .int 0, .ref z8, .ref z9, .int 0, .int 0, .int 0, .int 0, .ref z10, .int 0, .null, .ref z11, .ref z12])), (a1, .inl (y 0, 3, .inl (fun _ => 0)))]) hF (c134_X11_isOne l a0 a1 z0 z1 z2 z3 z4 z5 z6 z7 z8 z9 z10 z11 z12 p0) gv_RX11_155 2 (by decide +kernel) rfl ⟨(Nat.le_of_ble_eq_true rfl), (Nat.le_of_ble_eq_true rfl)⟩ hl.1 rfl (Nat.le_of_ble_eq_true rfl) dX11_length_18 ⟨(Nat.le_of_ble_eq_true rfl), (Nat.le_of_ble_eq_true rfl)⟩ hP hD hS (pA hA hS) (fun _ h => h) [0, 1] [] [0, 1] rfl rfl rfl rfl rfl (by decide) 0 (ci := 13) rfl rfl rfl (fun u_2 H locs hP hD hS => ?_)
  have hP : va_P D vwCl [(a0, .inr (13, [.ref a1, .ref z0, .ref z1, .ref z2, .ref z3, .ref z4, .int 45, .ref z5, .ref z6, .ref z7, .int 0, .ref z8, .ref z9, .int 0, .int 0, .int 0, .int 0, .ref z10, .int 0, .null, .ref z11, .ref z12])), (a1, .inl (y 0, 3, .inl (fun _ => 0)))] H := hP
  have hD : va_D A [(a0, .inr (13, [.ref a1, .ref z0, .ref z1, .ref z2, .ref z3, .ref z4, .int 45, .ref z5, .ref z6, .ref z7, .int 0, .ref z8, .ref z9, .int 0, .int 0, .int 0, .int 0, .ref z10, .int 0, .null, .ref z11, .ref z12])), (a1, .inl (y 0, 3, .inl (fun _ => 0)))] := hD
  refine W.widen (k := 0) (n := 0) (Nat.le_of_ble_eq_true rfl) (Nat.le_of_ble_eq_true rfl) ?_
  refine W.eq (g2 := F0 m 21 ls [.int 0, .int 0, .ref a0]) rfl ?_
  refine lv_if_ne (tgt := 28) hx hb dX11_length_21 (by decide) (fun c => absurd (by decide) c) (fun _ => ?_)
  refine lv_iconst (v := 1) hx hb dX11_length_24 (by decide) ?_
  refine lv_goto (tgt := 29) hx hb dX11_length_25 (by decide) ?_
  refine lv_iconst (v := 0) hx hb dX11_length_29 (by decide) ?_
  refine cV (l := l) (yM := yX11_fails) (C := RX11) (As := [.int 0, .int 1, .int 0]) (rest := []) (wr := [(a1, .inl (y 0, 3, .inl (fun _ => 0)))]) hF (c123_X11_fails l a0 a1 z0 z1 z2 z3 z4 z5 z6 z7 z8 z9 z10 z11 z12) gv_RX11_128 3 (by decide +kernel) rfl ⟨(Nat.le_of_ble_eq_true rfl), (Nat.le_of_ble_eq_true rfl)⟩ hl.1 rfl (Nat.le_of_ble_eq_true rfl) dX11_length_30 ⟨(Nat.le_of_ble_eq_true rfl), (Nat.le_of_ble_eq_true rfl)⟩ hP hD hS (va_free (wc := [(a0, .inr (13, [.ref a1, .ref z0, .ref z1, .ref z2, .ref z3, .ref z4, .int 45, .ref z5, .ref z6, .ref z7, .int 0, .ref z8, .ref z9, .int 0, .int 0, .int 0, .int 0, .ref z10, .int 0, .null, .ref z11, .ref z12]))]) hD hS hA [0] rfl) (fun _ h => h) [0] [0] [1] rfl rfl rfl rfl rfl (by decide) 0 (ci := 13) rfl rfl rfl (fun u_3 H locs hP hD hS => ?_)
  have hP : va_P D vwCl [(a1, .inl (y 0, 3, .inl (fun _ => 0))), (a0, .inr (13, [.ref a1, .ref z0, .ref z1, .ref z2, .ref z3, .ref z4, .int 45, .ref z5, .ref z6, .ref z7, .int 0, .ref z8, .ref z9, .int 0, .int 0, .int 2, .int 0, .ref z10, .int 0, .null, .ref z11, .ref z12]))] H := hP
  have hD : va_D A [(a1, .inl (y 0, 3, .inl (fun _ => 0))), (a0, .inr (13, [.ref a1, .ref z0, .ref z1, .ref z2, .ref z3, .ref z4, .int 45, .ref z5, .ref z6, .ref z7, .int 0, .ref z8, .ref z9, .int 0, .int 0, .int 2, .int 0, .ref z10, .int 0, .null, .ref z11, .ref z12]))] := hD
  refine W.widen (k := 0) (n := 0) (Nat.le_of_ble_eq_true rfl) (Nat.le_of_ble_eq_true rfl) ?_
  refine W.eq (g2 := F0 m 33 ls [.int 1]) rfl ?_
  refine lv_if_eq (tgt := 40) hx hb dX11_length_33 (by decide) (fun c => absurd c (by decide)) (fun _ => ?_)
  refine lv_iconst (v := 0) hx hb dX11_length_36 (by decide) ?_
  refine lv_goto (tgt := 51) hx hb dX11_length_37 (by decide) ?_
  exact e_i hF hr (Nat.le_of_ble_eq_true rfl) (Nat.le_of_ble_eq_true rfl) hS (qg_end hS (fun _ => 0) rfl [1, 0] hP rfl (hD.sub [1, 0] rfl rfl)) dX11_length_51

set_option maxHeartbeats 4000000 in
set_option maxRecDepth 100000 in
theorem c150_X10_length (l : Launch) (hlt : l.stackTraces = false) (a0 : Nat) (z0 : Nat) (z1 : Nat) (z2 : Nat) (z3 : Nat) (z4 : Nat) (z5 : Nat) (z6 : Nat) (z7 : Nat) (z8 : Nat) (z9 : Nat) (z10 : Nat) (z11 : Nat) (z12 : Nat) (z13 : Nat) (z14 : Nat) (p0 : Int32) (p1 : Int32) (f0 : ¬ p0 = 112) (f1 : ¬ p0 = 104) (f2 : ¬ p0 = 109) : CX l (.code yX10_length cX10_length 3 (some .int)) yX10_length { frames := 8, cells := 1, slots := 6, locals := 134 } [.ref a0, .int p0, .int p1] (fun y => [(a0, .inr (12, [.ref z0, .ref z1, .ref z2, .ref z3, .ref z4, .ref z5, .ref z6, .ref z7, .ref z8, .ref z9, .ref z10, .ref z11, .ref z12, .ref z13, .ref z14]))]) (fun _ => []) "java/lang/IllegalArgumentException" := by
  refine mkX (by decide) (Nat.le_of_ble_eq_true rfl) ?_
  intro p e s m args below meth c D y A ls hF htb hAe hP hD hS hl
  have hF : FX p e s m args meth c cX10_length 3 RX10 "length" D y A := hF
  obtain ⟨⟨hx, hb, hml, hown, hts⟩, hev, heh, hA, hlk, hnm⟩ := id hF
  have hK := hev.1
  have hP : va_P D vwCl [(a0, .inr (12, [.ref z0, .ref z1, .ref z2, .ref z3, .ref z4, .ref z5, .ref z6, .ref z7, .ref z8, .ref z9, .ref z10, .ref z11, .ref z12, .ref z13, .ref z14]))] s.heap := hP
  have hD : va_D (fun _ => True) [(a0, .inr (12, [.ref z0, .ref z1, .ref z2, .ref z3, .ref z4, .ref z5, .ref z6, .ref z7, .ref z8, .ref z9, .ref z10, .ref z11, .ref z12, .ref z13, .ref z14]))] := hD
  have hl : lv_has ls 3 [(0, .ref a0), (1, .int p0), (2, .int p1)] := hl
  refine lv_aload_n hx hb dX10_length_0 rfl (lv_at hl 0 rfl) ?_
  refine lv_iload_n hx hb dX10_length_1 rfl (lv_at hl 1 rfl) ?_
  refine lv_iload_n hx hb dX10_length_2 rfl (lv_at hl 2 rfl) ?_
  exact xV (l := l) (yM := yX10_needOne) (C := RX10) (As := [.int p0, .int p1]) (rest := []) hF htb (c136_X10_needOne l hlt a0 z0 z1 z2 z3 z4 z5 z6 z7 z8 z9 z10 z11 z12 z13 z14 p0 p1 f0 f1 f2) gv_RX10_161 2 (by decide +kernel) rfl ⟨(Nat.le_of_ble_eq_true rfl), (Nat.le_of_ble_eq_true rfl)⟩ hl.1 rfl (Nat.le_of_ble_eq_true rfl) dX10_length_3 ⟨(Nat.le_of_ble_eq_true rfl), (Nat.le_of_ble_eq_true rfl)⟩ hP hD hS (pA hA hS) [0] rfl rfl 0 (ci := 12) rfl rfl rfl ⟨(Nat.le_of_ble_eq_true rfl), (Nat.le_of_ble_eq_true rfl)⟩

set_option maxHeartbeats 4000000 in
set_option maxRecDepth 100000 in
theorem c150_L_length (l : Launch) (hlt : l.stackTraces = false) (a0 : Nat) (z0 : Nat) (z1 : Nat) (z2 : Nat) (z3 : Nat) (z4 : Nat) (z5 : Nat) (z6 : Nat) (z7 : Nat) (z8 : Nat) (z9 : Nat) (z10 : Nat) (z11 : Nat) (z12 : Nat) (z13 : Nat) (z14 : Nat) (p0 : Int32) (p1 : Int32) (z15 : Nat) (f0 : ¬ p0 = 112) (f1 : ¬ p0 = 104) (f2 : ¬ p0 = 109) : CT l (.codeWith yL_length cL_length 5 (some .int) [(0, 10, 13, 13), (0, 10, 17, 24)]) yL_length { frames := 9, cells := 1, slots := 6, locals := 156 } [.ref a0, .int p0, .int p1, .ref z15] (fun y => [(a0, .inr (12, [.ref z0, .ref z1, .ref z2, .ref z3, .ref z4, .ref z5, .ref z6, .ref z7, .ref z8, .ref z9, .ref z10, .ref z11, .ref z12, .ref z13, .ref z14]))]) (fun _ => []) (fun u => some (.int 1)) (fun y u => []) := by
  refine mkH (by decide) (Nat.le_of_ble_eq_true rfl) ?_
  intro p e s m args below meth c D y A ls hF htab hr hAe hP hD hS hl
  have hF : FX p e s m args meth c cL_length 5 RL "length" D y A := hF
  obtain ⟨⟨hx, hb, hml, hown, hts⟩, hev, heh, hA, hlk, hnm⟩ := id hF
  have hK := hev.1
  have hP : va_P D vwCl [(a0, .inr (12, [.ref z0, .ref z1, .ref z2, .ref z3, .ref z4, .ref z5, .ref z6, .ref z7, .ref z8, .ref z9, .ref z10, .ref z11, .ref z12, .ref z13, .ref z14]))] s.heap := hP
  have hD : va_D (fun _ => True) [(a0, .inr (12, [.ref z0, .ref z1, .ref z2, .ref z3, .ref z4, .ref z5, .ref z6, .ref z7, .ref z8, .ref z9, .ref z10, .ref z11, .ref z12, .ref z13, .ref z14]))] := hD
  have hl : lv_has ls 5 [(0, .ref a0), (1, .int p0), (2, .int p1), (3, .ref z15)] := hl
  refine lv_aload_n hx hb dL_length_0 rfl (lv_at hl 3 rfl) ?_
  refine lv_iconst (v := 0) hx hb dL_length_1 (by decide) ?_
  refine lv_aload_n hx hb dL_length_2 rfl (lv_at hl 0 rfl) ?_
  refine lv_iload_n hx hb dL_length_3 rfl (lv_at hl 1 rfl) ?_
  refine lv_iload_n hx hb dL_length_4 rfl (lv_at hl 2 rfl) ?_
  refine hV (wr := [(a0, .inr (12, [.ref z0, .ref z1, .ref z2, .ref z3, .ref z4, .ref z5, .ref z6, .ref z7, .ref z8, .ref z9, .ref z10, .ref z11, .ref z12, .ref z13, .ref z14]))]) (name := "java/lang/IllegalArgumentException") (E0 := "java/lang/IllegalArgumentException") (l := l) (yM := yX10_length) (C := RX10) (As := [.int p0, .int p1]) (rest := [.int 0, .ref z15]) hF (c150_X10_length l hlt a0 z0 z1 z2 z3 z4 z5 z6 z7 z8 z9 z10 z11 z12 z13 z14 p0 p1 f0 f1 f2) gv_RL_42 2 (by decide +kernel) rfl ⟨(Nat.le_of_ble_eq_true rfl), (Nat.le_of_ble_eq_true rfl)⟩ hl.1 rfl (Nat.le_of_ble_eq_true rfl) dL_length_5 ⟨(Nat.le_of_ble_eq_true rfl), (Nat.le_of_ble_eq_true rfl)⟩ hP hD hS (pA hA hS) (fun _ _ => trivial) [0] [] [0] rfl rfl rfl rfl rfl (by decide) 0 (ci := 12) rfl rfl rfl [] ⟨0, 10, 13, 13⟩ [⟨0, 10, 17, 24⟩] htab (fun z hz => nomatch hz) (by decide) (by decide) wd_235 (by decide) (fun q9 H locs hP hD hS => ?_)
  have hP : va_P D vwCl [(a0, .inr (12, [.ref z0, .ref z1, .ref z2, .ref z3, .ref z4, .ref z5, .ref z6, .ref z7, .ref z8, .ref z9, .ref z10, .ref z11, .ref z12, .ref z13, .ref z14]))] H := hP
  have hD : va_D (fun _ => True) [(a0, .inr (12, [.ref z0, .ref z1, .ref z2, .ref z3, .ref z4, .ref z5, .ref z6, .ref z7, .ref z8, .ref z9, .ref z10, .ref z11, .ref z12, .ref z13, .ref z14]))] := hD
  refine W.widen (k := 1) (n := 6) (Nat.le_of_ble_eq_true rfl) (Nat.le_of_ble_eq_true rfl) ?_
  refine W.eq (g2 := F0 m 13 ls [.ref q9]) rfl ?_
  refine lv_astore (lv' := [(4, .ref q9), (0, .ref a0), (1, .int p0), (2, .int p1), (3, .ref z15)]) hx hb dL_length_13 hl (by decide) rfl (fun ls hl => ?_)
  refine lv_iconst (v := 1) hx hb dL_length_15 (by decide) ?_
  exact e_i hF hr (Nat.le_of_ble_eq_true rfl) (Nat.le_of_ble_eq_true rfl) hS (qg_end hS (fun _ => 0) rfl [] hP rfl d_nil) dL_length_16

set_option maxHeartbeats 4000000 in
set_option maxRecDepth 100000 in
theorem c152_X11_length (l : Launch) (a0 : Nat) (z0 : Nat) (z1 : Nat) (z2 : Nat) (z3 : Nat) (z4 : Nat) (z5 : Nat) (z6 : Nat) (z7 : Nat) (z8 : Nat) (z9 : Nat) (z10 : Nat) (z11 : Nat) (z12 : Nat) (z13 : Nat) (p0 : Int32) (p1 : Int32) (f0 : ¬ p0 = 112) (f1 : ¬ p0 = 104) (f2 : ¬ p0 = 109) : CT l (.code yX11_length cX11_length 4 (some .int)) yX11_length { frames := 5, cells := 0, slots := 0, locals := 111 } [.ref a0, .int p0, .int p1] (fun y => [(a0, .inr (13, [.ref z0, .ref z1, .ref z2, .ref z3, .ref z4, .ref z5, .int 45, .ref z6, .ref z7, .ref z8, .int 0, .ref z9, .ref z10, .int 0, .int 0, .int 0, .int 0, .ref z11, .int 0, .null, .ref z12, .ref z13]))]) (fun y => [(a0, .inr (13, [.ref z0, .ref z1, .ref z2, .ref z3, .ref z4, .ref z5, .int 45, .ref z6, .ref z7, .ref z8, .int 0, .ref z9, .ref z10, .int 0, .int 0, .int 0, .int 0, .ref z11, .int 0, .null, .ref z12, .ref z13]))]) (fun u => some (.int 0)) (fun y u => [(a0, .inr (13, [.ref z0, .ref z1, .ref z2, .ref z3, .ref z4, .ref z5, .int 45, .ref z6, .ref z7, .ref z8, .int 0, .ref z9, .ref z10, .int 0, .int 0, .int 1, .int 0, .ref z11, .int 0, .null, .ref z12, .ref z13]))]) := by
  refine mkM (by decide) (Nat.le_of_ble_eq_true rfl) ?_
  intro p e s m args below meth c D y A ls hF hr hAe hP hD hS hl
  have hF : FX p e s m args meth c cX11_length 4 RX11 "length" D y A := hF
  obtain ⟨⟨hx, hb, hml, hown, hts⟩, hev, heh, hA, hlk, hnm⟩ := id hF
  have hK := hev.1
  have hP : va_P D vwCl [(a0, .inr (13, [.ref z0, .ref z1, .ref z2, .ref z3, .ref z4, .ref z5, .int 45, .ref z6, .ref z7, .ref z8, .int 0, .ref z9, .ref z10, .int 0, .int 0, .int 0, .int 0, .ref z11, .int 0, .null, .ref z12, .ref z13]))] s.heap := hP
  have hD : va_D A [(a0, .inr (13, [.ref z0, .ref z1, .ref z2, .ref z3, .ref z4, .ref z5, .int 45, .ref z6, .ref z7, .ref z8, .int 0, .ref z9, .ref z10, .int 0, .int 0, .int 0, .int 0, .ref z11, .int 0, .null, .ref z12, .ref z13]))] := by rw [← hAe]; exact hD.self
  have hl : lv_has ls 4 [(0, .ref a0), (1, .int p0), (2, .int p1)] := hl
  refine lv_iload_n hx hb dX11_length_0 rfl (lv_at hl 1 rfl) ?_
  refine cS (l := l) (yM := yX11_sideOf) (As := [.int p0]) (rest := []) (wr := [(a0, .inr (13, [.ref z0, .ref z1, .ref z2, .ref z3, .ref z4, .ref z5, .int 45, .ref z6, .ref z7, .ref z8, .int 0, .ref z9, .ref z10, .int 0, .int 0, .int 0, .int 0, .ref z11, .int 0, .null, .ref z12, .ref z13]))]) hF (c59_X11_sideOf l p0 f0 f1 f2) gs_RX11_124 1 (by decide +kernel) rfl ⟨(Nat.le_of_ble_eq_true rfl), (Nat.le_of_ble_eq_true rfl)⟩ hl.1 rfl (Nat.le_of_ble_eq_true rfl) dX11_length_1 ⟨(Nat.le_of_ble_eq_true rfl), (Nat.le_of_ble_eq_true rfl)⟩ hP hD hS (pA hA hS) (fun _ h => h) [] [] [0] rfl rfl rfl rfl rfl (by decide) (fun u_1 H locs hP hD hS => ?_)
  have hP : va_P D vwCl [(a0, .inr (13, [.ref z0, .ref z1, .ref z2, .ref z3, .ref z4, .ref z5, .int 45, .ref z6, .ref z7, .ref z8, .int 0, .ref z9, .ref z10, .int 0, .int 0, .int 0, .int 0, .ref z11, .int 0, .null, .ref z12, .ref z13]))] H := hP
  have hD : va_D A [(a0, .inr (13, [.ref z0, .ref z1, .ref z2, .ref z3, .ref z4, .ref z5, .int 45, .ref z6, .ref z7, .ref z8, .int 0, .ref z9, .ref z10, .int 0, .int 0, .int 0, .int 0, .ref z11, .int 0, .null, .ref z12, .ref z13]))] := hD
  refine W.widen (k := 0) (n := 0) (Nat.le_of_ble_eq_true rfl) (Nat.le_of_ble_eq_true rfl) ?_
  refine W.eq (g2 := F0 m 4 ls [.int (-1)]) rfl ?_
  refine lv_istore_n (lv' := [(3, .int (-1)), (0, .ref a0), (1, .int p0), (2, .int p1)]) hx hb dX11_length_4 rfl hl (by decide) rfl (fun ls hl => ?_)
  refine lv_aload_n hx hb dX11_length_5 rfl (lv_at hl 1 rfl) ?_
  refine lv_iload_n hx hb dX11_length_6 rfl (lv_at hl 0 rfl) ?_
  refine lv_if_ge (tgt := 14) hx hb dX11_length_7 (by decide) (fun c => absurd c (by decide)) (fun _ => ?_)
  refine lv_iconst (v := 1) hx hb dX11_length_10 (by decide) ?_
  refine lv_goto (tgt := 15) hx hb dX11_length_11 (by decide) ?_
  refine lv_aload_n hx hb dX11_length_15 rfl (lv_at hl 1 rfl) ?_
  refine lv_iload_n hx hb dX11_length_16 rfl (lv_at hl 0 rfl) ?_
  refine lv_iload_n hx hb dX11_length_17 rfl (lv_at hl 3 rfl) ?_
  refine cV (l := l) (yM := yX11_isOne) (C := RX11) (As := [.int (-1), .int p1]) (rest := [.int 1, .ref a0]) (wr := [(a0, .inr (13, [.ref z0, .ref z1, .ref z2, .ref z3, .ref z4, .ref z5, .int 45, .ref z6, .ref z7, .ref z8, .int 0, .ref z9, .ref z10, .int 0, .int 0, .int 0, .int 0, .ref z11, .int 0, .null, .ref z12, .ref z13]))]) hF (c139_X11_isOne l a0 p1) gv_RX11_155 2 (by decide +kernel) rfl ⟨(Nat.le_of_ble_eq_true rfl), (Nat.le_of_ble_eq_true rfl)⟩ hl.1 rfl (Nat.le_of_ble_eq_true rfl) dX11_length_18 ⟨(Nat.le_of_ble_eq_true rfl), (Nat.le_of_ble_eq_true rfl)⟩ hP hD hS (pA hA hS) (fun _ h => h) [] [] [0] rfl rfl rfl rfl rfl (by decide) 0 (ci := 13) rfl rfl rfl (fun u_2 H locs hP hD hS => ?_)
  have hP : va_P D vwCl [(a0, .inr (13, [.ref z0, .ref z1, .ref z2, .ref z3, .ref z4, .ref z5, .int 45, .ref z6, .ref z7, .ref z8, .int 0, .ref z9, .ref z10, .int 0, .int 0, .int 0, .int 0, .ref z11, .int 0, .null, .ref z12, .ref z13]))] H := hP
  have hD : va_D A [(a0, .inr (13, [.ref z0, .ref z1, .ref z2, .ref z3, .ref z4, .ref z5, .int 45, .ref z6, .ref z7, .ref z8, .int 0, .ref z9, .ref z10, .int 0, .int 0, .int 0, .int 0, .ref z11, .int 0, .null, .ref z12, .ref z13]))] := hD
  refine W.widen (k := 0) (n := 0) (Nat.le_of_ble_eq_true rfl) (Nat.le_of_ble_eq_true rfl) ?_
  refine W.eq (g2 := F0 m 21 ls [.int 0, .int 1, .ref a0]) rfl ?_
  refine lv_if_ne (tgt := 28) hx hb dX11_length_21 (by decide) (fun c => absurd (by decide) c) (fun _ => ?_)
  refine lv_iconst (v := 1) hx hb dX11_length_24 (by decide) ?_
  refine lv_goto (tgt := 29) hx hb dX11_length_25 (by decide) ?_
  refine lv_iconst (v := 0) hx hb dX11_length_29 (by decide) ?_
  refine cV (l := l) (yM := yX11_fails) (C := RX11) (As := [.int 1, .int 1, .int 0]) (rest := []) (wr := []) hF (c89_X11_fails l a0 z0 z1 z2 z3 z4 z5 z6 z7 z8 z9 z10 z11 z12 z13) gv_RX11_128 3 (by decide +kernel) rfl ⟨(Nat.le_of_ble_eq_true rfl), (Nat.le_of_ble_eq_true rfl)⟩ hl.1 rfl (Nat.le_of_ble_eq_true rfl) dX11_length_30 ⟨(Nat.le_of_ble_eq_true rfl), (Nat.le_of_ble_eq_true rfl)⟩ hP hD hS (va_free (wc := [(a0, .inr (13, [.ref z0, .ref z1, .ref z2, .ref z3, .ref z4, .ref z5, .int 45, .ref z6, .ref z7, .ref z8, .int 0, .ref z9, .ref z10, .int 0, .int 0, .int 0, .int 0, .ref z11, .int 0, .null, .ref z12, .ref z13]))]) hD hS hA [0] rfl) (fun _ h => h) [0] [0] [] rfl rfl rfl rfl rfl (by decide) 0 (ci := 13) rfl rfl rfl (fun u_3 H locs hP hD hS => ?_)
  have hP : va_P D vwCl [(a0, .inr (13, [.ref z0, .ref z1, .ref z2, .ref z3, .ref z4, .ref z5, .int 45, .ref z6, .ref z7, .ref z8, .int 0, .ref z9, .ref z10, .int 0, .int 0, .int 1, .int 0, .ref z11, .int 0, .null, .ref z12, .ref z13]))] H := hP
  have hD : va_D A [(a0, .inr (13, [.ref z0, .ref z1, .ref z2, .ref z3, .ref z4, .ref z5, .int 45, .ref z6, .ref z7, .ref z8, .int 0, .ref z9, .ref z10, .int 0, .int 0, .int 1, .int 0, .ref z11, .int 0, .null, .ref z12, .ref z13]))] := hD
  refine W.widen (k := 0) (n := 0) (Nat.le_of_ble_eq_true rfl) (Nat.le_of_ble_eq_true rfl) ?_
  refine W.eq (g2 := F0 m 33 ls [.int 1]) rfl ?_
  refine lv_if_eq (tgt := 40) hx hb dX11_length_33 (by decide) (fun c => absurd c (by decide)) (fun _ => ?_)
  refine lv_iconst (v := 0) hx hb dX11_length_36 (by decide) ?_
  refine lv_goto (tgt := 51) hx hb dX11_length_37 (by decide) ?_
  exact e_i hF hr (Nat.le_of_ble_eq_true rfl) (Nat.le_of_ble_eq_true rfl) hS (qg_end hS (fun _ => 0) rfl [0] hP rfl (hD.sub [0] rfl rfl)) dX11_length_51

set_option maxHeartbeats 4000000 in
set_option maxRecDepth 100000 in
theorem c153_X10_wish (l : Launch) (hlt : l.stackTraces = false) (a0 : Nat) (a1 : Nat) (a2 : Nat) (z0 : Nat) (z1 : Nat) (z2 : Nat) (z3 : Nat) (z4 : Nat) (z5 : Nat) (z6 : Nat) (z7 : Nat) (z8 : Nat) (z9 : Nat) (z10 : Nat) (z11 : Nat) (z12 : Nat) (z13 : Nat) (z14 : Nat) (z15 : Nat) (z16 : Nat) (z17 : Nat) (z18 : Nat) (p0 : Int32) (p1 : Int32) : CX l (.code yX10_wish cX10_wish 5 (some .int)) yX10_wish { frames := 7, cells := 1, slots := 6, locals := 113 } [.ref a0, .int 112, .int p0, .int p1] (fun y => [(a0, .inr (12, [.ref a1, .ref z0, .ref z1, .ref z2, .ref z3, .ref z4, .ref z5, .ref z6, .ref z7, .ref z8, .ref z9, .ref z10, .ref z11, .ref z12, .ref z13])), (a1, .inr (5, [.ref a2, .ref z14, .ref z15])), (a2, .inr (4, [.int 0, .ref z16, .ref z17, .ref z18]))]) (fun _ => []) "java/util/NoSuchElementException" := by
  refine mkX (by decide) (Nat.le_of_ble_eq_true rfl) ?_
  intro p e s m args below meth c D y A ls hF htb hAe hP hD hS hl
  have hF : FX p e s m args meth c cX10_wish 5 RX10 "wish" D y A := hF
  obtain ⟨⟨hx, hb, hml, hown, hts⟩, hev, heh, hA, hlk, hnm⟩ := id hF
  have hK := hev.1
  have hP : va_P D vwCl [(a0, .inr (12, [.ref a1, .ref z0, .ref z1, .ref z2, .ref z3, .ref z4, .ref z5, .ref z6, .ref z7, .ref z8, .ref z9, .ref z10, .ref z11, .ref z12, .ref z13])), (a1, .inr (5, [.ref a2, .ref z14, .ref z15])), (a2, .inr (4, [.int 0, .ref z16, .ref z17, .ref z18]))] s.heap := hP
  have hD : va_D (fun _ => True) [(a0, .inr (12, [.ref a1, .ref z0, .ref z1, .ref z2, .ref z3, .ref z4, .ref z5, .ref z6, .ref z7, .ref z8, .ref z9, .ref z10, .ref z11, .ref z12, .ref z13])), (a1, .inr (5, [.ref a2, .ref z14, .ref z15])), (a2, .inr (4, [.int 0, .ref z16, .ref z17, .ref z18]))] := hD
  have hl : lv_has ls 5 [(0, .ref a0), (1, .int 112), (2, .int p0), (3, .int p1)] := hl
  refine lv_aload_n hx hb dX10_wish_0 rfl (lv_at hl 0 rfl) ?_
  refine lv_iload_n hx hb dX10_wish_1 rfl (lv_at hl 1 rfl) ?_
  refine lv_iload_n hx hb dX10_wish_2 rfl (lv_at hl 2 rfl) ?_
  exact xV (l := l) (yM := yX10_needOne) (C := RX10) (As := [.int 112, .int p0]) (rest := []) hF htb (c119_X10_needOne l hlt a0 a1 a2 z0 z1 z2 z3 z4 z5 z6 z7 z8 z9 z10 z11 z12 z13 z14 z15 z16 z17 z18 p0) gv_RX10_161 2 (by decide +kernel) rfl ⟨(Nat.le_of_ble_eq_true rfl), (Nat.le_of_ble_eq_true rfl)⟩ hl.1 rfl (Nat.le_of_ble_eq_true rfl) dX10_wish_3 ⟨(Nat.le_of_ble_eq_true rfl), (Nat.le_of_ble_eq_true rfl)⟩ hP hD hS (pA hA hS) [0, 1, 2] rfl rfl 0 (ci := 12) rfl rfl rfl ⟨(Nat.le_of_ble_eq_true rfl), (Nat.le_of_ble_eq_true rfl)⟩

set_option maxHeartbeats 4000000 in
set_option maxRecDepth 100000 in
theorem c153_L_wish (l : Launch) (hlt : l.stackTraces = false) (a0 : Nat) (a1 : Nat) (a2 : Nat) (z0 : Nat) (z1 : Nat) (z2 : Nat) (z3 : Nat) (z4 : Nat) (z5 : Nat) (z6 : Nat) (z7 : Nat) (z8 : Nat) (z9 : Nat) (z10 : Nat) (z11 : Nat) (z12 : Nat) (z13 : Nat) (z14 : Nat) (z15 : Nat) (z16 : Nat) (z17 : Nat) (z18 : Nat) (p0 : Int32) (p1 : Int32) (z19 : Nat) : CT l (.codeWith yL_wish cL_wish 6 (some .int) [(0, 12, 15, 13), (0, 12, 19, 24), (0, 12, 23, 36)]) yL_wish { frames := 8, cells := 1, slots := 6, locals := 137 } [.ref a0, .int 112, .int p0, .int p1, .ref z19] (fun y => [(a0, .inr (12, [.ref a1, .ref z0, .ref z1, .ref z2, .ref z3, .ref z4, .ref z5, .ref z6, .ref z7, .ref z8, .ref z9, .ref z10, .ref z11, .ref z12, .ref z13])), (a1, .inr (5, [.ref a2, .ref z14, .ref z15])), (a2, .inr (4, [.int 0, .ref z16, .ref z17, .ref z18]))]) (fun _ => []) (fun u => some (.int 2)) (fun y u => []) := by
  refine mkH (by decide) (Nat.le_of_ble_eq_true rfl) ?_
  intro p e s m args below meth c D y A ls hF htab hr hAe hP hD hS hl
  have hF : FX p e s m args meth c cL_wish 6 RL "wish" D y A := hF
  obtain ⟨⟨hx, hb, hml, hown, hts⟩, hev, heh, hA, hlk, hnm⟩ := id hF
  have hK := hev.1
  have hP : va_P D vwCl [(a0, .inr (12, [.ref a1, .ref z0, .ref z1, .ref z2, .ref z3, .ref z4, .ref z5, .ref z6, .ref z7, .ref z8, .ref z9, .ref z10, .ref z11, .ref z12, .ref z13])), (a1, .inr (5, [.ref a2, .ref z14, .ref z15])), (a2, .inr (4, [.int 0, .ref z16, .ref z17, .ref z18]))] s.heap := hP
  have hD : va_D (fun _ => True) [(a0, .inr (12, [.ref a1, .ref z0, .ref z1, .ref z2, .ref z3, .ref z4, .ref z5, .ref z6, .ref z7, .ref z8, .ref z9, .ref z10, .ref z11, .ref z12, .ref z13])), (a1, .inr (5, [.ref a2, .ref z14, .ref z15])), (a2, .inr (4, [.int 0, .ref z16, .ref z17, .ref z18]))] := hD
  have hl : lv_has ls 6 [(0, .ref a0), (1, .int 112), (2, .int p0), (3, .int p1), (4, .ref z19)] := hl
  refine lv_aload hx hb dL_wish_0 (lv_at hl 4 rfl) ?_
  refine lv_iconst (v := 0) hx hb dL_wish_2 (by decide) ?_
  refine lv_aload_n hx hb dL_wish_3 rfl (lv_at hl 0 rfl) ?_
  refine lv_iload_n hx hb dL_wish_4 rfl (lv_at hl 1 rfl) ?_
  refine lv_iload_n hx hb dL_wish_5 rfl (lv_at hl 2 rfl) ?_
  refine lv_iload_n hx hb dL_wish_6 rfl (lv_at hl 3 rfl) ?_
  refine hV (wr := [(a0, .inr (12, [.ref a1, .ref z0, .ref z1, .ref z2, .ref z3, .ref z4, .ref z5, .ref z6, .ref z7, .ref z8, .ref z9, .ref z10, .ref z11, .ref z12, .ref z13])), (a1, .inr (5, [.ref a2, .ref z14, .ref z15])), (a2, .inr (4, [.int 0, .ref z16, .ref z17, .ref z18]))]) (name := "java/util/NoSuchElementException") (E0 := "java/util/NoSuchElementException") (l := l) (yM := yX10_wish) (C := RX10) (As := [.int 112, .int p0, .int p1]) (rest := [.int 0, .ref z19]) hF (c153_X10_wish l hlt a0 a1 a2 z0 z1 z2 z3 z4 z5 z6 z7 z8 z9 z10 z11 z12 z13 z14 z15 z16 z17 z18 p0 p1) gv_RL_45 3 (by decide +kernel) rfl ⟨(Nat.le_of_ble_eq_true rfl), (Nat.le_of_ble_eq_true rfl)⟩ hl.1 rfl (Nat.le_of_ble_eq_true rfl) dL_wish_7 ⟨(Nat.le_of_ble_eq_true rfl), (Nat.le_of_ble_eq_true rfl)⟩ hP hD hS (pA hA hS) (fun _ _ => trivial) [0, 1, 2] [] [0, 1, 2] rfl rfl rfl rfl rfl (by decide) 0 (ci := 12) rfl rfl rfl [⟨0, 12, 15, 13⟩] ⟨0, 12, 19, 24⟩ [⟨0, 12, 23, 36⟩] htab (List.forall_mem_cons.mpr ⟨Or.inr ⟨by decide, "java/lang/IllegalArgumentException", wd_235, List.mem_of_getElem? (i := 0) rfl⟩, (fun z hz => nomatch hz)⟩) (by decide) (by decide) wd_261 (by decide) (fun q9 H locs hP hD hS => ?_)
  have hP : va_P D vwCl [(a0, .inr (12, [.ref a1, .ref z0, .ref z1, .ref z2, .ref z3, .ref z4, .ref z5, .ref z6, .ref z7, .ref z8, .ref z9, .ref z10, .ref z11, .ref z12, .ref z13])), (a1, .inr (5, [.ref a2, .ref z14, .ref z15])), (a2, .inr (4, [.int 0, .ref z16, .ref z17, .ref z18]))] H := hP
  have hD : va_D (fun _ => True) [(a0, .inr (12, [.ref a1, .ref z0, .ref z1, .ref z2, .ref z3, .ref z4, .ref z5, .ref z6, .ref z7, .ref z8, .ref z9, .ref z10, .ref z11, .ref z12, .ref z13])), (a1, .inr (5, [.ref a2, .ref z14, .ref z15])), (a2, .inr (4, [.int 0, .ref z16, .ref z17, .ref z18]))] := hD
  refine W.widen (k := 1) (n := 6) (Nat.le_of_ble_eq_true rfl) (Nat.le_of_ble_eq_true rfl) ?_
  refine W.eq (g2 := F0 m 19 ls [.ref q9]) rfl ?_
  refine lv_astore (lv' := [(5, .ref q9), (0, .ref a0), (1, .int 112), (2, .int p0), (3, .int p1), (4, .ref z19)]) hx hb dL_wish_19 hl (by decide) rfl (fun ls hl => ?_)
  refine lv_iconst (v := 2) hx hb dL_wish_21 (by decide) ?_
  exact e_i hF hr (Nat.le_of_ble_eq_true rfl) (Nat.le_of_ble_eq_true rfl) hS (qg_end hS (fun _ => 0) rfl [] hP rfl d_nil) dL_wish_22

set_option maxHeartbeats 4000000 in
set_option maxRecDepth 100000 in
theorem c155_X11_wish (l : Launch) (a0 : Nat) (a1 : Nat) (z0 : Nat) (z1 : Nat) (z2 : Nat) (z3 : Nat) (z4 : Nat) (z5 : Nat) (z6 : Nat) (z7 : Nat) (z8 : Nat) (z9 : Nat) (z10 : Nat) (z11 : Nat) (z12 : Nat) (p0 : Int32) (p1 : Int32) : CT l (.code yX11_wish cX11_wish 6 (some .int)) yX11_wish { frames := 5, cells := 0, slots := 0, locals := 111 } [.ref a0, .int 112, .int p0, .int p1] (fun y => [(a0, .inr (13, [.ref a1, .ref z0, .ref z1, .ref z2, .ref z3, .ref z4, .int 45, .ref z5, .ref z6, .ref z7, .int 0, .ref z8, .ref z9, .int 0, .int 0, .int 0, .int 0, .ref z10, .int 0, .null, .ref z11, .ref z12])), (a1, .inl (y 0, 3, .inl (fun _ => 0)))]) (fun y => [(a0, .inr (13, [.ref a1, .ref z0, .ref z1, .ref z2, .ref z3, .ref z4, .int 45, .ref z5, .ref z6, .ref z7, .int 0, .ref z8, .ref z9, .int 0, .int 0, .int 0, .int 0, .ref z10, .int 0, .null, .ref z11, .ref z12])), (a1, .inl (y 0, 3, .inl (fun _ => 0)))]) (fun u => some (.int 0)) (fun y u => [(a0, .inr (13, [.ref a1, .ref z0, .ref z1, .ref z2, .ref z3, .ref z4, .int 45, .ref z5, .ref z6, .ref z7, .int 0, .ref z8, .ref z9, .int 0, .int 0, .int 2, .int 0, .ref z10, .int 0, .null, .ref z11, .ref z12])), (a1, .inl (y 0, 3, .inl (fun _ => 0)))]) := by
  refine mkM (by decide) (Nat.le_of_ble_eq_true rfl) ?_
  intro p e s m args below meth c D y A ls hF hr hAe hP hD hS hl
  have hF : FX p e s m args meth c cX11_wish 6 RX11 "wish" D y A := hF
  obtain ⟨⟨hx, hb, hml, hown, hts⟩, hev, heh, hA, hlk, hnm⟩ := id hF
  have hK := hev.1
  have hP : va_P D vwCl [(a0, .inr (13, [.ref a1, .ref z0, .ref z1, .ref z2, .ref z3, .ref z4, .int 45, .ref z5, .ref z6, .ref z7, .int 0, .ref z8, .ref z9, .int 0, .int 0, .int 0, .int 0, .ref z10, .int 0, .null, .ref z11, .ref z12])), (a1, .inl (y 0, 3, .inl (fun _ => 0)))] s.heap := hP
  have hD : va_D A [(a0, .inr (13, [.ref a1, .ref z0, .ref z1, .ref z2, .ref z3, .ref z4, .int 45, .ref z5, .ref z6, .ref z7, .int 0, .ref z8, .ref z9, .int 0, .int 0, .int 0, .int 0, .ref z10, .int 0, .null, .ref z11, .ref z12])), (a1, .inl (y 0, 3, .inl (fun _ => 0)))] := by rw [← hAe]; exact hD.self
  have hl : lv_has ls 6 [(0, .ref a0), (1, .int 112), (2, .int p0), (3, .int p1)] := hl
  refine lv_iload_n hx hb dX11_wish_0 rfl (lv_at hl 1 rfl) ?_
  refine cS (l := l) (yM := yX11_sideOf) (As := [.int 112]) (rest := []) (wr := [(a0, .inr (13, [.ref a1, .ref z0, .ref z1, .ref z2, .ref z3, .ref z4, .int 45, .ref z5, .ref z6, .ref z7, .int 0, .ref z8, .ref z9, .int 0, .int 0, .int 0, .int 0, .ref z10, .int 0, .null, .ref z11, .ref z12])), (a1, .inl (y 0, 3, .inl (fun _ => 0)))]) hF (c23_X11_sideOf l) gs_RX11_124 1 (by decide +kernel) rfl ⟨(Nat.le_of_ble_eq_true rfl), (Nat.le_of_ble_eq_true rfl)⟩ hl.1 rfl (Nat.le_of_ble_eq_true rfl) dX11_wish_1 ⟨(Nat.le_of_ble_eq_true rfl), (Nat.le_of_ble_eq_true rfl)⟩ hP hD hS (pA hA hS) (fun _ h => h) [] [] [0, 1] rfl rfl rfl rfl rfl (by decide) (fun u_1 H locs hP hD hS => ?_)
  have hP : va_P D vwCl [(a0, .inr (13, [.ref a1, .ref z0, .ref z1, .ref z2, .ref z3, .ref z4, .int 45, .ref z5, .ref z6, .ref z7, .int 0, .ref z8, .ref z9, .int 0, .int 0, .int 0, .int 0, .ref z10, .int 0, .null, .ref z11, .ref z12])), (a1, .inl (y 0, 3, .inl (fun _ => 0)))] H := hP
  have hD : va_D A [(a0, .inr (13, [.ref a1, .ref z0, .ref z1, .ref z2, .ref z3, .ref z4, .int 45, .ref z5, .ref z6, .ref z7, .int 0, .ref z8, .ref z9, .int 0, .int 0, .int 0, .int 0, .ref z10, .int 0, .null, .ref z11, .ref z12])), (a1, .inl (y 0, 3, .inl (fun _ => 0)))] := hD
  refine W.widen (k := 0) (n := 0) (Nat.le_of_ble_eq_true rfl) (Nat.le_of_ble_eq_true rfl) ?_
  refine W.eq (g2 := F0 m 4 ls [.int 0]) rfl ?_
  refine lv_istore (lv' := [(4, .int 0), (0, .ref a0), (1, .int 112), (2, .int p0), (3, .int p1)]) hx hb dX11_wish_4 hl (by decide) rfl (fun ls hl => ?_)
  refine lv_aload_n hx hb dX11_wish_6 rfl (lv_at hl 1 rfl) ?_
  refine lv_iload hx hb dX11_wish_7 (lv_at hl 0 rfl) ?_
  refine lv_iload_n hx hb dX11_wish_9 rfl (lv_at hl 3 rfl) ?_
  refine cV (l := l) (yM := yX11_isOne) (C := RX11) (As := [.int 0, .int p0]) (rest := []) (wr := [(a0, .inr (13, [.ref a1, .ref z0, .ref z1, .ref z2, .ref z3, .ref z4, .int 45, .ref z5, .ref z6, .ref z7, .int 0, .ref z8, .ref z9, .int 0, .int 0, .int 0, .int 0, .ref z10, .int 0, .null, .ref z11, .ref z12])), (a1, .inl (y 0, 3, .inl (fun _ => 0)))]) hF (c122_X11_isOne l a0 a1 z0 z1 z2 z3 z4 z5 z6 z7 z8 z9 z10 z11 z12 p0) gv_RX11_155 2 (by decide +kernel) rfl ⟨(Nat.le_of_ble_eq_true rfl), (Nat.le_of_ble_eq_true rfl)⟩ hl.1 rfl (Nat.le_of_ble_eq_true rfl) dX11_wish_10 ⟨(Nat.le_of_ble_eq_true rfl), (Nat.le_of_ble_eq_true rfl)⟩ hP hD hS (pA hA hS) (fun _ h => h) [0, 1] [] [0, 1] rfl rfl rfl rfl rfl (by decide) 0 (ci := 13) rfl rfl rfl (fun u_2 H locs hP hD hS => ?_)
  have hP : va_P D vwCl [(a0, .inr (13, [.ref a1, .ref z0, .ref z1, .ref z2, .ref z3, .ref z4, .int 45, .ref z5, .ref z6, .ref z7, .int 0, .ref z8, .ref z9, .int 0, .int 0, .int 0, .int 0, .ref z10, .int 0, .null, .ref z11, .ref z12])), (a1, .inl (y 0, 3, .inl (fun _ => 0)))] H := hP
  have hD : va_D A [(a0, .inr (13, [.ref a1, .ref z0, .ref z1, .ref z2, .ref z3, .ref z4, .int 45, .ref z5, .ref z6, .ref z7, .int 0, .ref z8, .ref z9, .int 0, .int 0, .int 0, .int 0, .ref z10, .int 0, .null, .ref z11, .ref z12])), (a1, .inl (y 0, 3, .inl (fun _ => 0)))] := hD
  refine W.widen (k := 0) (n := 0) (Nat.le_of_ble_eq_true rfl) (Nat.le_of_ble_eq_true rfl) ?_
  refine W.eq (g2 := F0 m 13 ls [.int 0]) rfl ?_
  refine lv_istore (lv' := [(5, .int 0), (4, .int 0), (0, .ref a0), (1, .int 112), (2, .int p0), (3, .int p1)]) hx hb dX11_wish_13 hl (by decide) rfl (fun ls hl => ?_)
  refine lv_aload_n hx hb dX11_wish_15 rfl (lv_at hl 2 rfl) ?_
  refine lv_iload hx hb dX11_wish_16 (lv_at hl 1 rfl) ?_
  refine lv_if_ge (tgt := 25) hx hb dX11_wish_18 (by decide) (fun _ => ?_) (fun c => absurd (by decide) c)
  refine lv_iconst (v := 0) hx hb dX11_wish_25 (by decide) ?_
  refine lv_iload hx hb dX11_wish_26 (lv_at hl 0 rfl) ?_
  refine lv_if_ne (tgt := 35) hx hb dX11_wish_28 (by decide) (fun c => absurd (by decide) c) (fun _ => ?_)
  refine lv_iconst (v := 1) hx hb dX11_wish_31 (by decide) ?_
  refine lv_goto (tgt := 36) hx hb dX11_wish_32 (by decide) ?_
  refine lv_iload hx hb dX11_wish_36 (lv_at hl 0 rfl) ?_
  refine lv_if_eq (tgt := 67) hx hb dX11_wish_38 (by decide) (fun _ => ?_) (fun c => absurd (by decide) c)
  refine lv_iconst (v := 0) hx hb dX11_wish_67 (by decide) ?_
  refine cV (l := l) (yM := yX11_fails) (C := RX11) (As := [.int 0, .int 1, .int 0]) (rest := []) (wr := [(a1, .inl (y 0, 3, .inl (fun _ => 0)))]) hF (c123_X11_fails l a0 a1 z0 z1 z2 z3 z4 z5 z6 z7 z8 z9 z10 z11 z12) gv_RX11_128 3 (by decide +kernel) rfl ⟨(Nat.le_of_ble_eq_true rfl), (Nat.le_of_ble_eq_true rfl)⟩ hl.1 rfl (Nat.le_of_ble_eq_true rfl) dX11_wish_68 ⟨(Nat.le_of_ble_eq_true rfl), (Nat.le_of_ble_eq_true rfl)⟩ hP hD hS (va_free (wc := [(a0, .inr (13, [.ref a1, .ref z0, .ref z1, .ref z2, .ref z3, .ref z4, .int 45, .ref z5, .ref z6, .ref z7, .int 0, .ref z8, .ref z9, .int 0, .int 0, .int 0, .int 0, .ref z10, .int 0, .null, .ref z11, .ref z12]))]) hD hS hA [0] rfl) (fun _ h => h) [0] [0] [1] rfl rfl rfl rfl rfl (by decide) 0 (ci := 13) rfl rfl rfl (fun u_3 H locs hP hD hS => ?_)
  have hP : va_P D vwCl [(a1, .inl (y 0, 3, .inl (fun _ => 0))), (a0, .inr (13, [.ref a1, .ref z0, .ref z1, .ref z2, .ref z3, .ref z4, .int 45, .ref z5, .ref z6, .ref z7, .int 0, .ref z8, .ref z9, .int 0, .int 0, .int 2, .int 0, .ref z10, .int 0, .null, .ref z11, .ref z12]))] H := hP
  have hD : va_D A [(a1, .inl (y 0, 3, .inl (fun _ => 0))), (a0, .inr (13, [.ref a1, .ref z0, .ref z1, .ref z2, .ref z3, .ref z4, .int 45, .ref z5, .ref z6, .ref z7, .int 0, .ref z8, .ref z9, .int 0, .int 0, .int 2, .int 0, .ref z10, .int 0, .null, .ref z11, .ref z12]))] := hD
  refine W.widen (k := 0) (n := 0) (Nat.le_of_ble_eq_true rfl) (Nat.le_of_ble_eq_true rfl) ?_
  refine W.eq (g2 := F0 m 71 ls [.int 1]) rfl ?_
  refine lv_if_eq (tgt := 78) hx hb dX11_wish_71 (by decide) (fun c => absurd c (by decide)) (fun _ => ?_)
  refine lv_iconst (v := 0) hx hb dX11_wish_74 (by decide) ?_
  refine lv_goto (tgt := 92) hx hb dX11_wish_75 (by decide) ?_
  exact e_i hF hr (Nat.le_of_ble_eq_true rfl) (Nat.le_of_ble_eq_true rfl) hS (qg_end hS (fun _ => 0) rfl [1, 0] hP rfl (hD.sub [1, 0] rfl rfl)) dX11_wish_92

set_option maxHeartbeats 4000000 in
set_option maxRecDepth 100000 in
theorem c156_X10_wish (l : Launch) (hlt : l.stackTraces = false) (a0 : Nat) (a1 : Nat) (a2 : Nat) (z0 : Nat) (z1 : Nat) (z2 : Nat) (z3 : Nat) (z4 : Nat) (z5 : Nat) (z6 : Nat) (z7 : Nat) (z8 : Nat) (z9 : Nat) (z10 : Nat) (z11 : Nat) (z12 : Nat) (z13 : Nat) (z14 : Nat) (z15 : Nat) (z16 : Nat) (z17 : Nat) (z18 : Nat) (p0 : Int32) (p1 : Int32) : CX l (.code yX10_wish cX10_wish 5 (some .int)) yX10_wish { frames := 7, cells := 1, slots := 6, locals := 113 } [.ref a0, .int 104, .int p0, .int p1] (fun y => [(a0, .inr (12, [.ref a1, .ref z0, .ref z1, .ref z2, .ref z3, .ref z4, .ref z5, .ref z6, .ref z7, .ref z8, .ref z9, .ref z10, .ref z11, .ref z12, .ref z13])), (a1, .inr (5, [.ref z14, .ref a2, .ref z15])), (a2, .inr (4, [.int 0, .ref z16, .ref z17, .ref z18]))]) (fun _ => []) "java/util/NoSuchElementException" := by
  refine mkX (by decide) (Nat.le_of_ble_eq_true rfl) ?_
  intro p e s m args below meth c D y A ls hF htb hAe hP hD hS hl
  have hF : FX p e s m args meth c cX10_wish 5 RX10 "wish" D y A := hF
  obtain ⟨⟨hx, hb, hml, hown, hts⟩, hev, heh, hA, hlk, hnm⟩ := id hF
  have hK := hev.1
  have hP : va_P D vwCl [(a0, .inr (12, [.ref a1, .ref z0, .ref z1, .ref z2, .ref z3, .ref z4, .ref z5, .ref z6, .ref z7, .ref z8, .ref z9, .ref z10, .ref z11, .ref z12, .ref z13])), (a1, .inr (5, [.ref z14, .ref a2, .ref z15])), (a2, .inr (4, [.int 0, .ref z16, .ref z17, .ref z18]))] s.heap := hP
  have hD : va_D (fun _ => True) [(a0, .inr (12, [.ref a1, .ref z0, .ref z1, .ref z2, .ref z3, .ref z4, .ref z5, .ref z6, .ref z7, .ref z8, .ref z9, .ref z10, .ref z11, .ref z12, .ref z13])), (a1, .inr (5, [.ref z14, .ref a2, .ref z15])), (a2, .inr (4, [.int 0, .ref z16, .ref z17, .ref z18]))] := hD
  have hl : lv_has ls 5 [(0, .ref a0), (1, .int 104), (2, .int p0), (3, .int p1)] := hl
  refine lv_aload_n hx hb dX10_wish_0 rfl (lv_at hl 0 rfl) ?_
  refine lv_iload_n hx hb dX10_wish_1 rfl (lv_at hl 1 rfl) ?_
  refine lv_iload_n hx hb dX10_wish_2 rfl (lv_at hl 2 rfl) ?_
  exact xV (l := l) (yM := yX10_needOne) (C := RX10) (As := [.int 104, .int p0]) (rest := []) hF htb (c126_X10_needOne l hlt a0 a1 a2 z0 z1 z2 z3 z4 z5 z6 z7 z8 z9 z10 z11 z12 z13 z14 z15 z16 z17 z18 p0) gv_RX10_161 2 (by decide +kernel) rfl ⟨(Nat.le_of_ble_eq_true rfl), (Nat.le_of_ble_eq_true rfl)⟩ hl.1 rfl (Nat.le_of_ble_eq_true rfl) dX10_wish_3 ⟨(Nat.le_of_ble_eq_true rfl), (Nat.le_of_ble_eq_true rfl)⟩ hP hD hS (pA hA hS) [0, 1, 2] rfl rfl 0 (ci := 12) rfl rfl rfl ⟨(Nat.le_of_ble_eq_true rfl), (Nat.le_of_ble_eq_true rfl)⟩

set_option maxHeartbeats 4000000 in
set_option maxRecDepth 100000 in
theorem c156_L_wish (l : Launch) (hlt : l.stackTraces = false) (a0 : Nat) (a1 : Nat) (a2 : Nat) (z0 : Nat) (z1 : Nat) (z2 : Nat) (z3 : Nat) (z4 : Nat) (z5 : Nat) (z6 : Nat) (z7 : Nat) (z8 : Nat) (z9 : Nat) (z10 : Nat) (z11 : Nat) (z12 : Nat) (z13 : Nat) (z14 : Nat) (z15 : Nat) (z16 : Nat) (z17 : Nat) (z18 : Nat) (p0 : Int32) (p1 : Int32) (z19 : Nat) : CT l (.codeWith yL_wish cL_wish 6 (some .int) [(0, 12, 15, 13), (0, 12, 19, 24), (0, 12, 23, 36)]) yL_wish { frames := 8, cells := 1, slots := 6, locals := 137 } [.ref a0, .int 104, .int p0, .int p1, .ref z19] (fun y => [(a0, .inr (12, [.ref a1, .ref z0, .ref z1, .ref z2, .ref z3, .ref z4, .ref z5, .ref z6, .ref z7, .ref z8, .ref z9, .ref z10, .ref z11, .ref z12, .ref z13])), (a1, .inr (5, [.ref z14, .ref a2, .ref z15])), (a2, .inr (4, [.int 0, .ref z16, .ref z17, .ref z18]))]) (fun _ => []) (fun u => some (.int 2)) (fun y u => []) := by
  refine mkH (by decide) (Nat.le_of_ble_eq_true rfl) ?_
  intro p e s m args below meth c D y A ls hF htab hr hAe hP hD hS hl
  have hF : FX p e s m args meth c cL_wish 6 RL "wish" D y A := hF
  obtain ⟨⟨hx, hb, hml, hown, hts⟩, hev, heh, hA, hlk, hnm⟩ := id hF
  have hK := hev.1
  have hP : va_P D vwCl [(a0, .inr (12, [.ref a1, .ref z0, .ref z1, .ref z2, .ref z3, .ref z4, .ref z5, .ref z6, .ref z7, .ref z8, .ref z9, .ref z10, .ref z11, .ref z12, .ref z13])), (a1, .inr (5, [.ref z14, .ref a2, .ref z15])), (a2, .inr (4, [.int 0, .ref z16, .ref z17, .ref z18]))] s.heap := hP
  have hD : va_D (fun _ => True) [(a0, .inr (12, [.ref a1, .ref z0, .ref z1, .ref z2, .ref z3, .ref z4, .ref z5, .ref z6, .ref z7, .ref z8, .ref z9, .ref z10, .ref z11, .ref z12, .ref z13])), (a1, .inr (5, [.ref z14, .ref a2, .ref z15])), (a2, .inr (4, [.int 0, .ref z16, .ref z17, .ref z18]))] := hD
  have hl : lv_has ls 6 [(0, .ref a0), (1, .int 104), (2, .int p0), (3, .int p1), (4, .ref z19)] := hl
  refine lv_aload hx hb dL_wish_0 (lv_at hl 4 rfl) ?_
  refine lv_iconst (v := 0) hx hb dL_wish_2 (by decide) ?_
  refine lv_aload_n hx hb dL_wish_3 rfl (lv_at hl 0 rfl) ?_
  refine lv_iload_n hx hb dL_wish_4 rfl (lv_at hl 1 rfl) ?_
  refine lv_iload_n hx hb dL_wish_5 rfl (lv_at hl 2 rfl) ?_
  refine lv_iload_n hx hb dL_wish_6 rfl (lv_at hl 3 rfl) ?_
  refine hV (wr := [(a0, .inr (12, [.ref a1, .ref z0, .ref z1, .ref z2, .ref z3, .ref z4, .ref z5, .ref z6, .ref z7, .ref z8, .ref z9, .ref z10, .ref z11, .ref z12, .ref z13])), (a1, .inr (5, [.ref z14, .ref a2, .ref z15])), (a2, .inr (4, [.int 0, .ref z16, .ref z17, .ref z18]))]) (name := "java/util/NoSuchElementException") (E0 := "java/util/NoSuchElementException") (l := l) (yM := yX10_wish) (C := RX10) (As := [.int 104, .int p0, .int p1]) (rest := [.int 0, .ref z19]) hF (c156_X10_wish l hlt a0 a1 a2 z0 z1 z2 z3 z4 z5 z6 z7 z8 z9 z10 z11 z12 z13 z14 z15 z16 z17 z18 p0 p1) gv_RL_45 3 (by decide +kernel) rfl ⟨(Nat.le_of_ble_eq_true rfl), (Nat.le_of_ble_eq_true rfl)⟩ hl.1 rfl (Nat.le_of_ble_eq_true rfl) dL_wish_7 ⟨(Nat.le_of_ble_eq_true rfl), (Nat.le_of_ble_eq_true rfl)⟩ hP hD hS (pA hA hS) (fun _ _ => trivial) [0, 1, 2] [] [0, 1, 2] rfl rfl rfl rfl rfl (by decide) 0 (ci := 12) rfl rfl rfl [⟨0, 12, 15, 13⟩] ⟨0, 12, 19, 24⟩ [⟨0, 12, 23, 36⟩] htab (List.forall_mem_cons.mpr ⟨Or.inr ⟨by decide, "java/lang/IllegalArgumentException", wd_235, List.mem_of_getElem? (i := 0) rfl⟩, (fun z hz => nomatch hz)⟩) (by decide) (by decide) wd_261 (by decide) (fun q9 H locs hP hD hS => ?_)
  have hP : va_P D vwCl [(a0, .inr (12, [.ref a1, .ref z0, .ref z1, .ref z2, .ref z3, .ref z4, .ref z5, .ref z6, .ref z7, .ref z8, .ref z9, .ref z10, .ref z11, .ref z12, .ref z13])), (a1, .inr (5, [.ref z14, .ref a2, .ref z15])), (a2, .inr (4, [.int 0, .ref z16, .ref z17, .ref z18]))] H := hP
  have hD : va_D (fun _ => True) [(a0, .inr (12, [.ref a1, .ref z0, .ref z1, .ref z2, .ref z3, .ref z4, .ref z5, .ref z6, .ref z7, .ref z8, .ref z9, .ref z10, .ref z11, .ref z12, .ref z13])), (a1, .inr (5, [.ref z14, .ref a2, .ref z15])), (a2, .inr (4, [.int 0, .ref z16, .ref z17, .ref z18]))] := hD
  refine W.widen (k := 1) (n := 6) (Nat.le_of_ble_eq_true rfl) (Nat.le_of_ble_eq_true rfl) ?_
  refine W.eq (g2 := F0 m 19 ls [.ref q9]) rfl ?_
  refine lv_astore (lv' := [(5, .ref q9), (0, .ref a0), (1, .int 104), (2, .int p0), (3, .int p1), (4, .ref z19)]) hx hb dL_wish_19 hl (by decide) rfl (fun ls hl => ?_)
  refine lv_iconst (v := 2) hx hb dL_wish_21 (by decide) ?_
  exact e_i hF hr (Nat.le_of_ble_eq_true rfl) (Nat.le_of_ble_eq_true rfl) hS (qg_end hS (fun _ => 0) rfl [] hP rfl d_nil) dL_wish_22

set_option maxHeartbeats 4000000 in
set_option maxRecDepth 100000 in
theorem c158_X11_wish (l : Launch) (a0 : Nat) (a1 : Nat) (z0 : Nat) (z1 : Nat) (z2 : Nat) (z3 : Nat) (z4 : Nat) (z5 : Nat) (z6 : Nat) (z7 : Nat) (z8 : Nat) (z9 : Nat) (z10 : Nat) (z11 : Nat) (z12 : Nat) (p0 : Int32) (p1 : Int32) : CT l (.code yX11_wish cX11_wish 6 (some .int)) yX11_wish { frames := 5, cells := 0, slots := 0, locals := 111 } [.ref a0, .int 104, .int p0, .int p1] (fun y => [(a0, .inr (13, [.ref a1, .ref z0, .ref z1, .ref z2, .ref z3, .ref z4, .int 45, .ref z5, .ref z6, .ref z7, .int 0, .ref z8, .ref z9, .int 0, .int 0, .int 0, .int 0, .ref z10, .int 0, .null, .ref z11, .ref z12])), (a1, .inl (y 0, 3, .inl (fun _ => 0)))]) (fun y => [(a0, .inr (13, [.ref a1, .ref z0, .ref z1, .ref z2, .ref z3, .ref z4, .int 45, .ref z5, .ref z6, .ref z7, .int 0, .ref z8, .ref z9, .int 0, .int 0, .int 0, .int 0, .ref z10, .int 0, .null, .ref z11, .ref z12])), (a1, .inl (y 0, 3, .inl (fun _ => 0)))]) (fun u => some (.int 0)) (fun y u => [(a0, .inr (13, [.ref a1, .ref z0, .ref z1, .ref z2, .ref z3, .ref z4, .int 45, .ref z5, .ref z6, .ref z7, .int 0, .ref z8, .ref z9, .int 0, .int 0, .int 2, .int 0, .ref z10, .int 0, .null, .ref z11, .ref z12])), (a1, .inl (y 0, 3, .inl (fun _ => 0)))]) := by
  refine mkM (by decide) (Nat.le_of_ble_eq_true rfl) ?_
  intro p e s m args below meth c D y A ls hF hr hAe hP hD hS hl
  have hF : FX p e s m args meth c cX11_wish 6 RX11 "wish" D y A := hF
  obtain ⟨⟨hx, hb, hml, hown, hts⟩, hev, heh, hA, hlk, hnm⟩ := id hF
  have hK := hev.1
  have hP : va_P D vwCl [(a0, .inr (13, [.ref a1, .ref z0, .ref z1, .ref z2, .ref z3, .ref z4, .int 45, .ref z5, .ref z6, .ref z7, .int 0, .ref z8, .ref z9, .int 0, .int 0, .int 0, .int 0, .ref z10, .int 0, .null, .ref z11, .ref z12])), (a1, .inl (y 0, 3, .inl (fun _ => 0)))] s.heap := hP
  have hD : va_D A [(a0, .inr (13, [.ref a1, .ref z0, .ref z1, .ref z2, .ref z3, .ref z4, .int 45, .ref z5, .ref z6, .ref z7, .int 0, .ref z8, .ref z9, .int 0, .int 0, .int 0, .int 0, .ref z10, .int 0, .null, .ref z11, .ref z12])), (a1, .inl (y 0, 3, .inl (fun _ => 0)))] := by rw [← hAe]; exact hD.self
  have hl : lv_has ls 6 [(0, .ref a0), (1, .int 104), (2, .int p0), (3, .int p1)] := hl
  refine lv_iload_n hx hb dX11_wish_0 rfl (lv_at hl 1 rfl) ?_
  refine cS (l := l) (yM := yX11_sideOf) (As := [.int 104]) (rest := []) (wr := [(a0, .inr (13, [.ref a1, .ref z0, .ref z1, .ref z2, .ref z3, .ref z4, .int 45, .ref z5, .ref z6, .ref z7, .int 0, .ref z8, .ref z9, .int 0, .int 0, .int 0, .int 0, .ref z10, .int 0, .null, .ref z11, .ref z12])), (a1, .inl (y 0, 3, .inl (fun _ => 0)))]) hF (c39_X11_sideOf l) gs_RX11_124 1 (by decide +kernel) rfl ⟨(Nat.le_of_ble_eq_true rfl), (Nat.le_of_ble_eq_true rfl)⟩ hl.1 rfl (Nat.le_of_ble_eq_true rfl) dX11_wish_1 ⟨(Nat.le_of_ble_eq_true rfl), (Nat.le_of_ble_eq_true rfl)⟩ hP hD hS (pA hA hS) (fun _ h => h) [] [] [0, 1] rfl rfl rfl rfl rfl (by decide) (fun u_1 H locs hP hD hS => ?_)
  have hP : va_P D vwCl [(a0, .inr (13, [.ref a1, .ref z0, .ref z1, .ref z2, .ref z3, .ref z4, .int 45, .ref z5, .ref z6, .ref z7, .int 0, .ref z8, .ref z9, .int 0, .int 0, .int 0, .int 0, .ref z10, .int 0, .null, .ref z11, .ref z12])), (a1, .inl (y 0, 3, .inl (fun _ => 0)))] H := hP
  have hD : va_D A [(a0, .inr (13, [.ref a1, .ref z0, .ref z1, .ref z2, .ref z3, .ref z4, .int 45, .ref z5, .ref z6, .ref z7, .int 0, .ref z8, .ref z9, .int 0, .int 0, .int 0, .int 0, .ref z10, .int 0, .null, .ref z11, .ref z12])), (a1, .inl (y 0, 3, .inl (fun _ => 0)))] := hD
  refine W.widen (k := 0) (n := 0) (Nat.le_of_ble_eq_true rfl) (Nat.le_of_ble_eq_true rfl) ?_
  refine W.eq (g2 := F0 m 4 ls [.int 1]) rfl ?_
  refine lv_istore (lv' := [(4, .int 1), (0, .ref a0), (1, .int 104), (2, .int p0), (3, .int p1)]) hx hb dX11_wish_4 hl (by decide) rfl (fun ls hl => ?_)
  refine lv_aload_n hx hb dX11_wish_6 rfl (lv_at hl 1 rfl) ?_
  refine lv_iload hx hb dX11_wish_7 (lv_at hl 0 rfl) ?_
  refine lv_iload_n hx hb dX11_wish_9 rfl (lv_at hl 3 rfl) ?_
  refine cV (l := l) (yM := yX11_isOne) (C := RX11) (As := [.int 1, .int p0]) (rest := []) (wr := [(a0, .inr (13, [.ref a1, .ref z0, .ref z1, .ref z2, .ref z3, .ref z4, .int 45, .ref z5, .ref z6, .ref z7, .int 0, .ref z8, .ref z9, .int 0, .int 0, .int 0, .int 0, .ref z10, .int 0, .null, .ref z11, .ref z12])), (a1, .inl (y 0, 3, .inl (fun _ => 0)))]) hF (c129_X11_isOne l a0 a1 z0 z1 z2 z3 z4 z5 z6 z7 z8 z9 z10 z11 z12 p0) gv_RX11_155 2 (by decide +kernel) rfl ⟨(Nat.le_of_ble_eq_true rfl), (Nat.le_of_ble_eq_true rfl)⟩ hl.1 rfl (Nat.le_of_ble_eq_true rfl) dX11_wish_10 ⟨(Nat.le_of_ble_eq_true rfl), (Nat.le_of_ble_eq_true rfl)⟩ hP hD hS (pA hA hS) (fun _ h => h) [0, 1] [] [0, 1] rfl rfl rfl rfl rfl (by decide) 0 (ci := 13) rfl rfl rfl (fun u_2 H locs hP hD hS => ?_)
  have hP : va_P D vwCl [(a0, .inr (13, [.ref a1, .ref z0, .ref z1, .ref z2, .ref z3, .ref z4, .int 45, .ref z5, .ref z6, .ref z7, .int 0, .ref z8, .ref z9, .int 0, .int 0, .int 0, .int 0, .ref z10, .int 0, .null, .ref z11, .ref z12])), (a1, .inl (y 0, 3, .inl (fun _ => 0)))] H := hP
  have hD : va_D A [(a0, .inr (13, [.ref a1, .ref z0, .ref z1, .ref z2, .ref z3, .ref z4, .int 45, .ref z5, .ref z6, .ref z7, .int 0, .ref z8, .ref z9, .int 0, .int 0, .int 0, .int 0, .ref z10, .int 0, .null, .ref z11, .ref z12])), (a1, .inl (y 0, 3, .inl (fun _ => 0)))] := hD
  refine W.widen (k := 0) (n := 0) (Nat.le_of_ble_eq_true rfl) (Nat.le_of_ble_eq_true rfl) ?_
  refine W.eq (g2 := F0 m 13 ls [.int 0]) rfl ?_
  refine lv_istore (lv' := [(5, .int 0), (4, .int 1), (0, .ref a0), (1, .int 104), (2, .int p0), (3, .int p1)]) hx hb dX11_wish_13 hl (by decide) rfl (fun ls hl => ?_)
  refine lv_aload_n hx hb dX11_wish_15 rfl (lv_at hl 2 rfl) ?_
  refine lv_iload hx hb dX11_wish_16 (lv_at hl 1 rfl) ?_
  refine lv_if_ge (tgt := 25) hx hb dX11_wish_18 (by decide) (fun _ => ?_) (fun c => absurd (by decide) c)
  refine lv_iconst (v := 0) hx hb dX11_wish_25 (by decide) ?_
  refine lv_iload hx hb dX11_wish_26 (lv_at hl 0 rfl) ?_
  refine lv_if_ne (tgt := 35) hx hb dX11_wish_28 (by decide) (fun c => absurd (by decide) c) (fun _ => ?_)
  refine lv_iconst (v := 1) hx hb dX11_wish_31 (by decide) ?_
  refine lv_goto (tgt := 36) hx hb dX11_wish_32 (by decide) ?_
  refine lv_iload hx hb dX11_wish_36 (lv_at hl 0 rfl) ?_
  refine lv_if_eq (tgt := 67) hx hb dX11_wish_38 (by decide) (fun _ => ?_) (fun c => absurd (by decide) c)
  refine lv_iconst (v := 0) hx hb dX11_wish_67 (by decide) ?_
  refine cV (l := l) (yM := yX11_fails) (C := RX11) (As := [.int 0, .int 1, .int 0]) (rest := []) (wr := [(a1, .inl (y 0, 3, .inl (fun _ => 0)))]) hF (c123_X11_fails l a0 a1 z0 z1 z2 z3 z4 z5 z6 z7 z8 z9 z10 z11 z12) gv_RX11_128 3 (by decide +kernel) rfl ⟨(Nat.le_of_ble_eq_true rfl), (Nat.le_of_ble_eq_true rfl)⟩ hl.1 rfl (Nat.le_of_ble_eq_true rfl) dX11_wish_68 ⟨(Nat.le_of_ble_eq_true rfl), (Nat.le_of_ble_eq_true rfl)⟩ hP hD hS (va_free (wc := [(a0, .inr (13, [.ref a1, .ref z0, .ref z1, .ref z2, .ref z3, .ref z4, .int 45, .ref z5, .ref z6, .ref z7, .int 0, .ref z8, .ref z9, .int 0, .int 0, .int 0, .int 0, .ref z10, .int 0, .null, .ref z11, .ref z12]))]) hD hS hA [0] rfl) (fun _ h => h) [0] [0] [1] rfl rfl rfl rfl rfl (by decide) 0 (ci := 13) rfl rfl rfl (fun u_3 H locs hP hD hS => ?_)
  have hP : va_P D vwCl [(a1, .inl (y 0, 3, .inl (fun _ => 0))), (a0, .inr (13, [.ref a1, .ref z0, .ref z1, .ref z2, .ref z3, .ref z4, .int 45, .ref z5, .ref z6, .ref z7, .int 0, .ref z8, .ref z9, .int 0, .int 0, .int 2, .int 0, .ref z10, .int 0, .null, .ref z11, .ref z12]))] H := hP
  have hD : va_D A [(a1, .inl (y 0, 3, .inl (fun _ => 0))), (a0, .inr (13, [.ref a1, .ref z0, .ref z1, .ref z2, .ref z3, .ref z4, .int 45, .ref z5, .ref z6, .ref z7, .int 0, .ref z8, .ref z9, .int 0, .int 0, .int 2, .int 0, .ref z10, .int 0, .null, .ref z11, .ref z12]))] := hD
  refine W.widen (k := 0) (n := 0) (Nat.le_of_ble_eq_true rfl) (Nat.le_of_ble_eq_true rfl) ?_
  refine W.eq (g2 := F0 m 71 ls [.int 1]) rfl ?_
  refine lv_if_eq (tgt := 78) hx hb dX11_wish_71 (by decide) (fun c => absurd c (by decide)) (fun _ => ?_)
  refine lv_iconst (v := 0) hx hb dX11_wish_74 (by decide) ?_
  refine lv_goto (tgt := 92) hx hb dX11_wish_75 (by decide) ?_
  exact e_i hF hr (Nat.le_of_ble_eq_true rfl) (Nat.le_of_ble_eq_true rfl) hS (qg_end hS (fun _ => 0) rfl [1, 0] hP rfl (hD.sub [1, 0] rfl rfl)) dX11_wish_92

set_option maxHeartbeats 4000000 in
set_option maxRecDepth 100000 in
theorem c159_X10_wish (l : Launch) (hlt : l.stackTraces = false) (a0 : Nat) (a1 : Nat) (z0 : Nat) (z1 : Nat) (z2 : Nat) (z3 : Nat) (z4 : Nat) (z5 : Nat) (z6 : Nat) (z7 : Nat) (z8 : Nat) (z9 : Nat) (z10 : Nat) (z11 : Nat) (z12 : Nat) (z13 : Nat) (z14 : Nat) (z15 : Nat) (z16 : Nat) (p0 : Int32) (p1 : Int32) : CX l (.code yX10_wish cX10_wish 5 (some .int)) yX10_wish { frames := 7, cells := 1, slots := 6, locals := 113 } [.ref a0, .int 109, .int p0, .int p1] (fun y => [(a0, .inr (12, [.ref z0, .ref a1, .ref z1, .ref z2, .ref z3, .ref z4, .ref z5, .ref z6, .ref z7, .ref z8, .ref z9, .ref z10, .ref z11, .ref z12, .ref z13])), (a1, .inr (4, [.int 0, .ref z14, .ref z15, .ref z16]))]) (fun _ => []) "java/util/NoSuchElementException" := by
  refine mkX (by decide) (Nat.le_of_ble_eq_true rfl) ?_
  intro p e s m args below meth c D y A ls hF htb hAe hP hD hS hl
  have hF : FX p e s m args meth c cX10_wish 5 RX10 "wish" D y A := hF
  obtain ⟨⟨hx, hb, hml, hown, hts⟩, hev, heh, hA, hlk, hnm⟩ := id hF
  have hK := hev.1
  have hP : va_P D vwCl [(a0, .inr (12, [.ref z0, .ref a1, .ref z1, .ref z2, .ref z3, .ref z4, .ref z5, .ref z6, .ref z7, .ref z8, .ref z9, .ref z10, .ref z11, .ref z12, .ref z13])), (a1, .inr (4, [.int 0, .ref z14, .ref z15, .ref z16]))] s.heap := hP
  have hD : va_D (fun _ => True) [(a0, .inr (12, [.ref z0, .ref a1, .ref z1, .ref z2, .ref z3, .ref z4, .ref z5, .ref z6, .ref z7, .ref z8, .ref z9, .ref z10, .ref z11, .ref z12, .ref z13])), (a1, .inr (4, [.int 0, .ref z14, .ref z15, .ref z16]))] := hD
  have hl : lv_has ls 5 [(0, .ref a0), (1, .int 109), (2, .int p0), (3, .int p1)] := hl
  refine lv_aload_n hx hb dX10_wish_0 rfl (lv_at hl 0 rfl) ?_
  refine lv_iload_n hx hb dX10_wish_1 rfl (lv_at hl 1 rfl) ?_
  refine lv_iload_n hx hb dX10_wish_2 rfl (lv_at hl 2 rfl) ?_
  exact xV (l := l) (yM := yX10_needOne) (C := RX10) (As := [.int 109, .int p0]) (rest := []) hF htb (c131_X10_needOne l hlt a0 a1 z0 z1 z2 z3 z4 z5 z6 z7 z8 z9 z10 z11 z12 z13 z14 z15 z16 p0) gv_RX10_161 2 (by decide +kernel) rfl ⟨(Nat.le_of_ble_eq_true rfl), (Nat.le_of_ble_eq_true rfl)⟩ hl.1 rfl (Nat.le_of_ble_eq_true rfl) dX10_wish_3 ⟨(Nat.le_of_ble_eq_true rfl), (Nat.le_of_ble_eq_true rfl)⟩ hP hD hS (pA hA hS) [0, 1] rfl rfl 0 (ci := 12) rfl rfl rfl ⟨(Nat.le_of_ble_eq_true rfl), (Nat.le_of_ble_eq_true rfl)⟩

set_option maxHeartbeats 4000000 in
set_option maxRecDepth 100000 in
theorem c159_L_wish (l : Launch) (hlt : l.stackTraces = false) (a0 : Nat) (a1 : Nat) (z0 : Nat) (z1 : Nat) (z2 : Nat) (z3 : Nat) (z4 : Nat) (z5 : Nat) (z6 : Nat) (z7 : Nat) (z8 : Nat) (z9 : Nat) (z10 : Nat) (z11 : Nat) (z12 : Nat) (z13 : Nat) (z14 : Nat) (z15 : Nat) (z16 : Nat) (p0 : Int32) (p1 : Int32) (z17 : Nat) : CT l (.codeWith yL_wish cL_wish 6 (some .int) [(0, 12, 15, 13), (0, 12, 19, 24), (0, 12, 23, 36)]) yL_wish { frames := 8, cells := 1, slots := 6, locals := 137 } [.ref a0, .int 109, .int p0, .int p1, .ref z17] (fun y => [(a0, .inr (12, [.ref z0, .ref a1, .ref z1, .ref z2, .ref z3, .ref z4, .ref z5, .ref z6, .ref z7, .ref z8, .ref z9, .ref z10, .ref z11, .ref z12, .ref z13])), (a1, .inr (4, [.int 0, .ref z14, .ref z15, .ref z16]))]) (fun _ => []) (fun u => some (.int 2)) (fun y u => []) := by
  refine mkH (by decide) (Nat.le_of_ble_eq_true rfl) ?_
  intro p e s m args below meth c D y A ls hF htab hr hAe hP hD hS hl
  have hF : FX p e s m args meth c cL_wish 6 RL "wish" D y A := hF
  obtain ⟨⟨hx, hb, hml, hown, hts⟩, hev, heh, hA, hlk, hnm⟩ := id hF
  have hK := hev.1
  have hP : va_P D vwCl [(a0, .inr (12, [.ref z0, .ref a1, .ref z1, .ref z2, .ref z3, .ref z4, .ref z5, .ref z6, .ref z7, .ref z8, .ref z9, .ref z10, .ref z11, .ref z12, .ref z13])), (a1, .inr (4, [.int 0, .ref z14, .ref z15, .ref z16]))] s.heap := hP
  have hD : va_D (fun _ => True) [(a0, .inr (12, [.ref z0, .ref a1, .ref z1, .ref z2, .ref z3, .ref z4, .ref z5, .ref z6, .ref z7, .ref z8, .ref z9, .ref z10, .ref z11, .ref z12, .ref z13])), (a1, .inr (4, [.int 0, .ref z14, .ref z15, .ref z16]))] := hD
  have hl : lv_has ls 6 [(0, .ref a0), (1, .int 109), (2, .int p0), (3, .int p1), (4, .ref z17)] := hl
  refine lv_aload hx hb dL_wish_0 (lv_at hl 4 rfl) ?_
  refine lv_iconst (v := 0) hx hb dL_wish_2 (by decide) ?_
  refine lv_aload_n hx hb dL_wish_3 rfl (lv_at hl 0 rfl) ?_
  refine lv_iload_n hx hb dL_wish_4 rfl (lv_at hl 1 rfl) ?_
  refine lv_iload_n hx hb dL_wish_5 rfl (lv_at hl 2 rfl) ?_
  refine lv_iload_n hx hb dL_wish_6 rfl (lv_at hl 3 rfl) ?_
  refine hV (wr := [(a0, .inr (12, [.ref z0, .ref a1, .ref z1, .ref z2, .ref z3, .ref z4, .ref z5, .ref z6, .ref z7, .ref z8, .ref z9, .ref z10, .ref z11, .ref z12, .ref z13])), (a1, .inr (4, [.int 0, .ref z14, .ref z15, .ref z16]))]) (name := "java/util/NoSuchElementException") (E0 := "java/util/NoSuchElementException") (l := l) (yM := yX10_wish) (C := RX10) (As := [.int 109, .int p0, .int p1]) (rest := [.int 0, .ref z17]) hF (c159_X10_wish l hlt a0 a1 z0 z1 z2 z3 z4 z5 z6 z7 z8 z9 z10 z11 z12 z13 z14 z15 z16 p0 p1) gv_RL_45 3 (by decide +kernel) rfl ⟨(Nat.le_of_ble_eq_true rfl), (Nat.le_of_ble_eq_true rfl)⟩ hl.1 rfl (Nat.le_of_ble_eq_true rfl) dL_wish_7 ⟨(Nat.le_of_ble_eq_true rfl), (Nat.le_of_ble_eq_true rfl)⟩ hP hD hS (pA hA hS) (fun _ _ => trivial) [0, 1] [] [0, 1] rfl rfl rfl rfl rfl (by decide) 0 (ci := 12) rfl rfl rfl [⟨0, 12, 15, 13⟩] ⟨0, 12, 19, 24⟩ [⟨0, 12, 23, 36⟩] htab (List.forall_mem_cons.mpr ⟨Or.inr ⟨by decide, "java/lang/IllegalArgumentException", wd_235, List.mem_of_getElem? (i := 0) rfl⟩, (fun z hz => nomatch hz)⟩) (by decide) (by decide) wd_261 (by decide) (fun q9 H locs hP hD hS => ?_)
  have hP : va_P D vwCl [(a0, .inr (12, [.ref z0, .ref a1, .ref z1, .ref z2, .ref z3, .ref z4, .ref z5, .ref z6, .ref z7, .ref z8, .ref z9, .ref z10, .ref z11, .ref z12, .ref z13])), (a1, .inr (4, [.int 0, .ref z14, .ref z15, .ref z16]))] H := hP
  have hD : va_D (fun _ => True) [(a0, .inr (12, [.ref z0, .ref a1, .ref z1, .ref z2, .ref z3, .ref z4, .ref z5, .ref z6, .ref z7, .ref z8, .ref z9, .ref z10, .ref z11, .ref z12, .ref z13])), (a1, .inr (4, [.int 0, .ref z14, .ref z15, .ref z16]))] := hD
  refine W.widen (k := 1) (n := 6) (Nat.le_of_ble_eq_true rfl) (Nat.le_of_ble_eq_true rfl) ?_
  refine W.eq (g2 := F0 m 19 ls [.ref q9]) rfl ?_
  refine lv_astore (lv' := [(5, .ref q9), (0, .ref a0), (1, .int 109), (2, .int p0), (3, .int p1), (4, .ref z17)]) hx hb dL_wish_19 hl (by decide) rfl (fun ls hl => ?_)
  refine lv_iconst (v := 2) hx hb dL_wish_21 (by decide) ?_
  exact e_i hF hr (Nat.le_of_ble_eq_true rfl) (Nat.le_of_ble_eq_true rfl) hS (qg_end hS (fun _ => 0) rfl [] hP rfl d_nil) dL_wish_22

set_option maxHeartbeats 4000000 in
set_option maxRecDepth 100000 in
theorem c161_X11_wish (l : Launch) (a0 : Nat) (a1 : Nat) (z0 : Nat) (z1 : Nat) (z2 : Nat) (z3 : Nat) (z4 : Nat) (z5 : Nat) (z6 : Nat) (z7 : Nat) (z8 : Nat) (z9 : Nat) (z10 : Nat) (z11 : Nat) (z12 : Nat) (p0 : Int32) (p1 : Int32) : CT l (.code yX11_wish cX11_wish 6 (some .int)) yX11_wish { frames := 5, cells := 0, slots := 0, locals := 111 } [.ref a0, .int 109, .int p0, .int p1] (fun y => [(a0, .inr (13, [.ref a1, .ref z0, .ref z1, .ref z2, .ref z3, .ref z4, .int 45, .ref z5, .ref z6, .ref z7, .int 0, .ref z8, .ref z9, .int 0, .int 0, .int 0, .int 0, .ref z10, .int 0, .null, .ref z11, .ref z12])), (a1, .inl (y 0, 3, .inl (fun _ => 0)))]) (fun y => [(a0, .inr (13, [.ref a1, .ref z0, .ref z1, .ref z2, .ref z3, .ref z4, .int 45, .ref z5, .ref z6, .ref z7, .int 0, .ref z8, .ref z9, .int 0, .int 0, .int 0, .int 0, .ref z10, .int 0, .null, .ref z11, .ref z12])), (a1, .inl (y 0, 3, .inl (fun _ => 0)))]) (fun u => some (.int 0)) (fun y u => [(a0, .inr (13, [.ref a1, .ref z0, .ref z1, .ref z2, .ref z3, .ref z4, .int 45, .ref z5, .ref z6, .ref z7, .int 0, .ref z8, .ref z9, .int 0, .int 0, .int 2, .int 0, .ref z10, .int 0, .null, .ref z11, .ref z12])), (a1, .inl (y 0, 3, .inl (fun _ => 0)))]) := by
  refine mkM (by decide) (Nat.le_of_ble_eq_true rfl) ?_
  intro p e s m args below meth c D y A ls hF hr hAe hP hD hS hl
  have hF : FX p e s m args meth c cX11_wish 6 RX11 "wish" D y A := hF
  obtain ⟨⟨hx, hb, hml, hown, hts⟩, hev, heh, hA, hlk, hnm⟩ := id hF
  have hK := hev.1
  have hP : va_P D vwCl [(a0, .inr (13, [.ref a1, .ref z0, .ref z1, .ref z2, .ref z3, .ref z4, .int 45, .ref z5, .ref z6, .ref z7, .int 0, .ref z8, .ref z9, .int 0, .int 0, .int 0, .int 0, .ref z10, .int 0, .null, .ref z11, .ref z12])), (a1, .inl (y 0, 3, .inl (fun _ => 0)))] s.heap := hP
  have hD : va_D A [(a0, .inr (13, [.ref a1, .ref z0, .ref z1, .ref z2, .ref z3, .ref z4, .int 45, .ref z5, .ref z6, .ref z7, .int 0, .ref z8, .ref z9, .int 0, .int 0, .int 0, .int 0, .ref z10, .int 0, .null, .ref z11, .ref z12])), (a1, .inl (y 0, 3, .inl (fun _ => 0)))] := by rw [← hAe]; exact hD.self
  have hl : lv_has ls 6 [(0, .ref a0), (1, .int 109), (2, .int p0), (3, .int p1)] := hl
  refine lv_iload_n hx hb dX11_wish_0 rfl (lv_at hl 1 rfl) ?_
  refine cS (l := l) (yM := yX11_sideOf) (As := [.int 109]) (rest := []) (wr := [(a0, .inr (13, [.ref a1, .ref z0, .ref z1, .ref z2, .ref z3, .ref z4, .int 45, .ref z5, .ref z6, .ref z7, .int 0, .ref z8, .ref z9, .int 0, .int 0, .int 0, .int 0, .ref z10, .int 0, .null, .ref z11, .ref z12])), (a1, .inl (y 0, 3, .inl (fun _ => 0)))]) hF (c49_X11_sideOf l) gs_RX11_124 1 (by decide +kernel) rfl ⟨(Nat.le_of_ble_eq_true rfl), (Nat.le_of_ble_eq_true rfl)⟩ hl.1 rfl (Nat.le_of_ble_eq_true rfl) dX11_wish_1 ⟨(Nat.le_of_ble_eq_true rfl), (Nat.le_of_ble_eq_true rfl)⟩ hP hD hS (pA hA hS) (fun _ h => h) [] [] [0, 1] rfl rfl rfl rfl rfl (by decide) (fun u_1 H locs hP hD hS => ?_)
  have hP : va_P D vwCl [(a0, .inr (13, [.ref a1, .ref z0, .ref z1, .ref z2, .ref z3, .ref z4, .int 45, .ref z5, .ref z6, .ref z7, .int 0, .ref z8, .ref z9, .int 0, .int 0, .int 0, .int 0, .ref z10, .int 0, .null, .ref z11, .ref z12])), (a1, .inl (y 0, 3, .inl (fun _ => 0)))] H := hP
  have hD : va_D A [(a0, .inr (13, [.ref a1, .ref z0, .ref z1, .ref z2, .ref z3, .ref z4, .int 45, .ref z5, .ref z6, .ref z7, .int 0, .ref z8, .ref z9, .int 0, .int 0, .int 0, .int 0, .ref z10, .int 0, .null, .ref z11, .ref z12])), (a1, .inl (y 0, 3, .inl (fun _ => 0)))] := hD
  refine W.widen (k := 0) (n := 0) (Nat.le_of_ble_eq_true rfl) (Nat.le_of_ble_eq_true rfl) ?_
  refine W.eq (g2 := F0 m 4 ls [.int 2]) rfl ?_
  refine lv_istore (lv' := [(4, .int 2), (0, .ref a0), (1, .int 109), (2, .int p0), (3, .int p1)]) hx hb dX11_wish_4 hl (by decide) rfl (fun ls hl => ?_)
  refine lv_aload_n hx hb dX11_wish_6 rfl (lv_at hl 1 rfl) ?_
  refine lv_iload hx hb dX11_wish_7 (lv_at hl 0 rfl) ?_
  refine lv_iload_n hx hb dX11_wish_9 rfl (lv_at hl 3 rfl) ?_
  refine cV (l := l) (yM := yX11_isOne) (C := RX11) (As := [.int 2, .int p0]) (rest := []) (wr := [(a0, .inr (13, [.ref a1, .ref z0, .ref z1, .ref z2, .ref z3, .ref z4, .int 45, .ref z5, .ref z6, .ref z7, .int 0, .ref z8, .ref z9, .int 0, .int 0, .int 0, .int 0, .ref z10, .int 0, .null, .ref z11, .ref z12])), (a1, .inl (y 0, 3, .inl (fun _ => 0)))]) hF (c134_X11_isOne l a0 a1 z0 z1 z2 z3 z4 z5 z6 z7 z8 z9 z10 z11 z12 p0) gv_RX11_155 2 (by decide +kernel) rfl ⟨(Nat.le_of_ble_eq_true rfl), (Nat.le_of_ble_eq_true rfl)⟩ hl.1 rfl (Nat.le_of_ble_eq_true rfl) dX11_wish_10 ⟨(Nat.le_of_ble_eq_true rfl), (Nat.le_of_ble_eq_true rfl)⟩ hP hD hS (pA hA hS) (fun _ h => h) [0, 1] [] [0, 1] rfl rfl rfl rfl rfl (by decide) 0 (ci := 13) rfl rfl rfl (fun u_2 H locs hP hD hS => ?_)
  have hP : va_P D vwCl [(a0, .inr (13, [.ref a1, .ref z0, .ref z1, .ref z2, .ref z3, .ref z4, .int 45, .ref z5, .ref z6, .ref z7, .int 0, .ref z8, .ref z9, .int 0, .int 0, .int 0, .int 0, .ref z10, .int 0, .null, .ref z11, .ref z12])), (a1, .inl (y 0, 3, .inl (fun _ => 0)))] H := hP
  have hD : va_D A [(a0, .inr (13, [.ref a1, .ref z0, .ref z1, .ref z2, .ref z3, .ref z4, .int 45, .ref z5, .ref z6, .ref z7, .int 0, .ref z8, .ref z9, .int 0, .int 0, .int 0, .int 0, .ref z10, .int 0, .null, .ref z11, .ref z12])), (a1, .inl (y 0, 3, .inl (fun _ => 0)))] := hD
  refine W.widen (k := 0) (n := 0) (Nat.le_of_ble_eq_true rfl) (Nat.le_of_ble_eq_true rfl) ?_
  refine W.eq (g2 := F0 m 13 ls [.int 0]) rfl ?_
  refine lv_istore (lv' := [(5, .int 0), (4, .int 2), (0, .ref a0), (1, .int 109), (2, .int p0), (3, .int p1)]) hx hb dX11_wish_13 hl (by decide) rfl (fun ls hl => ?_)
  refine lv_aload_n hx hb dX11_wish_15 rfl (lv_at hl 2 rfl) ?_
  refine lv_iload hx hb dX11_wish_16 (lv_at hl 1 rfl) ?_
  refine lv_if_ge (tgt := 25) hx hb dX11_wish_18 (by decide) (fun _ => ?_) (fun c => absurd (by decide) c)
  refine lv_iconst (v := 0) hx hb dX11_wish_25 (by decide) ?_
  refine lv_iload hx hb dX11_wish_26 (lv_at hl 0 rfl) ?_
  refine lv_if_ne (tgt := 35) hx hb dX11_wish_28 (by decide) (fun c => absurd (by decide) c) (fun _ => ?_)
  refine lv_iconst (v := 1) hx hb dX11_wish_31 (by decide) ?_
  refine lv_goto (tgt := 36) hx hb dX11_wish_32 (by decide) ?_
  refine lv_iload hx hb dX11_wish_36 (lv_at hl 0 rfl) ?_
  refine lv_if_eq (tgt := 67) hx hb dX11_wish_38 (by decide) (fun _ => ?_) (fun c => absurd (by decide) c)
  refine lv_iconst (v := 0) hx hb dX11_wish_67 (by decide) ?_
  refine cV (l := l) (yM := yX11_fails) (C := RX11) (As := [.int 0, .int 1, .int 0]) (rest := []) (wr := [(a1, .inl (y 0, 3, .inl (fun _ => 0)))]) hF (c123_X11_fails l a0 a1 z0 z1 z2 z3 z4 z5 z6 z7 z8 z9 z10 z11 z12) gv_RX11_128 3 (by decide +kernel) rfl ⟨(Nat.le_of_ble_eq_true rfl), (Nat.le_of_ble_eq_true rfl)⟩ hl.1 rfl (Nat.le_of_ble_eq_true rfl) dX11_wish_68 ⟨(Nat.le_of_ble_eq_true rfl), (Nat.le_of_ble_eq_true rfl)⟩ hP hD hS (va_free (wc := [(a0, .inr (13, [.ref a1, .ref z0, .ref z1, .ref z2, .ref z3, .ref z4, .int 45, .ref z5, .ref z6, .ref z7, .int 0, .ref z8, .ref z9, .int 0, .int 0, .int 0, .int 0, .ref z10, .int 0, .null, .ref z11, .ref z12]))]) hD hS hA [0] rfl) (fun _ h => h) [0] [0] [1] rfl rfl rfl rfl rfl (by decide) 0 (ci := 13) rfl rfl rfl (fun u_3 H locs hP hD hS => ?_)
  have hP : va_P D vwCl [(a1, .inl (y 0, 3, .inl (fun _ => 0))), (a0, .inr (13, [.ref a1, .ref z0, .ref z1, .ref z2, .ref z3, .ref z4, .int 45, .ref z5, .ref z6, .ref z7, .int 0, .ref z8, .ref z9, .int 0, .int 0, .int 2, .int 0, .ref z10, .int 0, .null, .ref z11, .ref z12]))] H := hP
  have hD : va_D A [(a1, .inl (y 0, 3, .inl (fun _ => 0))), (a0, .inr (13, [.ref a1, .ref z0, .ref z1, .ref z2, .ref z3, .ref z4, .int 45, .ref z5, .ref z6, .ref z7, .int 0, .ref z8, .ref z9, .int 0, .int 0, .int 2, .int 0, .ref z10, .int 0, .null, .ref z11, .ref z12]))] := hD
  refine W.widen (k := 0) (n := 0) (Nat.le_of_ble_eq_true rfl) (Nat.le_of_ble_eq_true rfl) ?_
  refine W.eq (g2 := F0 m 71 ls [.int 1]) rfl ?_
  refine lv_if_eq (tgt := 78) hx hb dX11_wish_71 (by decide) (fun c => absurd c (by decide)) (fun _ => ?_)
  refine lv_iconst (v := 0) hx hb dX11_wish_74 (by decide) ?_
  refine lv_goto (tgt := 92) hx hb dX11_wish_75 (by decide) ?_
  exact e_i hF hr (Nat.le_of_ble_eq_true rfl) (Nat.le_of_ble_eq_true rfl) hS (qg_end hS (fun _ => 0) rfl [1, 0] hP rfl (hD.sub [1, 0] rfl rfl)) dX11_wish_92

set_option maxHeartbeats 4000000 in
set_option maxRecDepth 100000 in
theorem c162_X10_wish (l : Launch) (hlt : l.stackTraces = false) (a0 : Nat) (z0 : Nat) (z1 : Nat) (z2 : Nat) (z3 : Nat) (z4 : Nat) (z5 : Nat) (z6 : Nat) (z7 : Nat) (z8 : Nat) (z9 : Nat) (z10 : Nat) (z11 : Nat) (z12 : Nat) (z13 : Nat) (z14 : Nat) (p0 : Int32) (p1 : Int32) (p2 : Int32) (f0 : ¬ p0 = 112) (f1 : ¬ p0 = 104) (f2 : ¬ p0 = 109) : CX l (.code yX10_wish cX10_wish 5 (some .int)) yX10_wish { frames := 8, cells := 1, slots := 6, locals := 134 } [.ref a0, .int p0, .int p1, .int p2] (fun y => [(a0, .inr (12, [.ref z0, .ref z1, .ref z2, .ref z3, .ref z4, .ref z5, .ref z6, .ref z7, .ref z8, .ref z9, .ref z10, .ref z11, .ref z12, .ref z13, .ref z14]))]) (fun _ => []) "java/lang/IllegalArgumentException" := by
  refine mkX (by decide) (Nat.le_of_ble_eq_true rfl) ?_
  intro p e s m args below meth c D y A ls hF htb hAe hP hD hS hl
  have hF : FX p e s m args meth c cX10_wish 5 RX10 "wish" D y A := hF
  obtain ⟨⟨hx, hb, hml, hown, hts⟩, hev, heh, hA, hlk, hnm⟩ := id hF
  have hK := hev.1
  have hP : va_P D vwCl [(a0, .inr (12, [.ref z0, .ref z1, .ref z2, .ref z3, .ref z4, .ref z5, .ref z6, .ref z7, .ref z8, .ref z9, .ref z10, .ref z11, .ref z12, .ref z13, .ref z14]))] s.heap := hP
  have hD : va_D (fun _ => True) [(a0, .inr (12, [.ref z0, .ref z1, .ref z2, .ref z3, .ref z4, .ref z5, .ref z6, .ref z7, .ref z8, .ref z9, .ref z10, .ref z11, .ref z12, .ref z13, .ref z14]))] := hD
  have hl : lv_has ls 5 [(0, .ref a0), (1, .int p0), (2, .int p1), (3, .int p2)] := hl
  refine lv_aload_n hx hb dX10_wish_0 rfl (lv_at hl 0 rfl) ?_
  refine lv_iload_n hx hb dX10_wish_1 rfl (lv_at hl 1 rfl) ?_
  refine lv_iload_n hx hb dX10_wish_2 rfl (lv_at hl 2 rfl) ?_
  exact xV (l := l) (yM := yX10_needOne) (C := RX10) (As := [.int p0, .int p1]) (rest := []) hF htb (c136_X10_needOne l hlt a0 z0 z1 z2 z3 z4 z5 z6 z7 z8 z9 z10 z11 z12 z13 z14 p0 p1 f0 f1 f2) gv_RX10_161 2 (by decide +kernel) rfl ⟨(Nat.le_of_ble_eq_true rfl), (Nat.le_of_ble_eq_true rfl)⟩ hl.1 rfl (Nat.le_of_ble_eq_true rfl) dX10_wish_3 ⟨(Nat.le_of_ble_eq_true rfl), (Nat.le_of_ble_eq_true rfl)⟩ hP hD hS (pA hA hS) [0] rfl rfl 0 (ci := 12) rfl rfl rfl ⟨(Nat.le_of_ble_eq_true rfl), (Nat.le_of_ble_eq_true rfl)⟩

set_option maxHeartbeats 4000000 in
set_option maxRecDepth 100000 in
theorem c162_L_wish (l : Launch) (hlt : l.stackTraces = false) (a0 : Nat) (z0 : Nat) (z1 : Nat) (z2 : Nat) (z3 : Nat) (z4 : Nat) (z5 : Nat) (z6 : Nat) (z7 : Nat) (z8 : Nat) (z9 : Nat) (z10 : Nat) (z11 : Nat) (z12 : Nat) (z13 : Nat) (z14 : Nat) (p0 : Int32) (p1 : Int32) (p2 : Int32) (z15 : Nat) (f0 : ¬ p0 = 112) (f1 : ¬ p0 = 104) (f2 : ¬ p0 = 109) : CT l (.codeWith yL_wish cL_wish 6 (some .int) [(0, 12, 15, 13), (0, 12, 19, 24), (0, 12, 23, 36)]) yL_wish { frames := 9, cells := 1, slots := 6, locals := 158 } [.ref a0, .int p0, .int p1, .int p2, .ref z15] (fun y => [(a0, .inr (12, [.ref z0, .ref z1, .ref z2, .ref z3, .ref z4, .ref z5, .ref z6, .ref z7, .ref z8, .ref z9, .ref z10, .ref z11, .ref z12, .ref z13, .ref z14]))]) (fun _ => []) (fun u => some (.int 1)) (fun y u => []) := by
  refine mkH (by decide) (Nat.le_of_ble_eq_true rfl) ?_
  intro p e s m args below meth c D y A ls hF htab hr hAe hP hD hS hl
  have hF : FX p e s m args meth c cL_wish 6 RL "wish" D y A := hF
  obtain ⟨⟨hx, hb, hml, hown, hts⟩, hev, heh, hA, hlk, hnm⟩ := id hF
  have hK := hev.1
  have hP : va_P D vwCl [(a0, .inr (12, [.ref z0, .ref z1, .ref z2, .ref z3, .ref z4, .ref z5, .ref z6, .ref z7, .ref z8, .ref z9, .ref z10, .ref z11, .ref z12, .ref z13, .ref z14]))] s.heap := hP
  have hD : va_D (fun _ => True) [(a0, .inr (12, [.ref z0, .ref z1, .ref z2, .ref z3, .ref z4, .ref z5, .ref z6, .ref z7, .ref z8, .ref z9, .ref z10, .ref z11, .ref z12, .ref z13, .ref z14]))] := hD
  have hl : lv_has ls 6 [(0, .ref a0), (1, .int p0), (2, .int p1), (3, .int p2), (4, .ref z15)] := hl
  refine lv_aload hx hb dL_wish_0 (lv_at hl 4 rfl) ?_
  refine lv_iconst (v := 0) hx hb dL_wish_2 (by decide) ?_
  refine lv_aload_n hx hb dL_wish_3 rfl (lv_at hl 0 rfl) ?_
  refine lv_iload_n hx hb dL_wish_4 rfl (lv_at hl 1 rfl) ?_
  refine lv_iload_n hx hb dL_wish_5 rfl (lv_at hl 2 rfl) ?_
  refine lv_iload_n hx hb dL_wish_6 rfl (lv_at hl 3 rfl) ?_
  refine hV (wr := [(a0, .inr (12, [.ref z0, .ref z1, .ref z2, .ref z3, .ref z4, .ref z5, .ref z6, .ref z7, .ref z8, .ref z9, .ref z10, .ref z11, .ref z12, .ref z13, .ref z14]))]) (name := "java/lang/IllegalArgumentException") (E0 := "java/lang/IllegalArgumentException") (l := l) (yM := yX10_wish) (C := RX10) (As := [.int p0, .int p1, .int p2]) (rest := [.int 0, .ref z15]) hF (c162_X10_wish l hlt a0 z0 z1 z2 z3 z4 z5 z6 z7 z8 z9 z10 z11 z12 z13 z14 p0 p1 p2 f0 f1 f2) gv_RL_45 3 (by decide +kernel) rfl ⟨(Nat.le_of_ble_eq_true rfl), (Nat.le_of_ble_eq_true rfl)⟩ hl.1 rfl (Nat.le_of_ble_eq_true rfl) dL_wish_7 ⟨(Nat.le_of_ble_eq_true rfl), (Nat.le_of_ble_eq_true rfl)⟩ hP hD hS (pA hA hS) (fun _ _ => trivial) [0] [] [0] rfl rfl rfl rfl rfl (by decide) 0 (ci := 12) rfl rfl rfl [] ⟨0, 12, 15, 13⟩ [⟨0, 12, 19, 24⟩, ⟨0, 12, 23, 36⟩] htab (fun z hz => nomatch hz) (by decide) (by decide) wd_235 (by decide) (fun q9 H locs hP hD hS => ?_)
  have hP : va_P D vwCl [(a0, .inr (12, [.ref z0, .ref z1, .ref z2, .ref z3, .ref z4, .ref z5, .ref z6, .ref z7, .ref z8, .ref z9, .ref z10, .ref z11, .ref z12, .ref z13, .ref z14]))] H := hP
  have hD : va_D (fun _ => True) [(a0, .inr (12, [.ref z0, .ref z1, .ref z2, .ref z3, .ref z4, .ref z5, .ref z6, .ref z7, .ref z8, .ref z9, .ref z10, .ref z11, .ref z12, .ref z13, .ref z14]))] := hD
  refine W.widen (k := 1) (n := 6) (Nat.le_of_ble_eq_true rfl) (Nat.le_of_ble_eq_true rfl) ?_
  refine W.eq (g2 := F0 m 15 ls [.ref q9]) rfl ?_
  refine lv_astore (lv' := [(5, .ref q9), (0, .ref a0), (1, .int p0), (2, .int p1), (3, .int p2), (4, .ref z15)]) hx hb dL_wish_15 hl (by decide) rfl (fun ls hl => ?_)
  refine lv_iconst (v := 1) hx hb dL_wish_17 (by decide) ?_
  exact e_i hF hr (Nat.le_of_ble_eq_true rfl) (Nat.le_of_ble_eq_true rfl) hS (qg_end hS (fun _ => 0) rfl [] hP rfl d_nil) dL_wish_18

set_option maxHeartbeats 4000000 in
set_option maxRecDepth 100000 in
theorem c164_X11_wish (l : Launch) (a0 : Nat) (z0 : Nat) (z1 : Nat) (z2 : Nat) (z3 : Nat) (z4 : Nat) (z5 : Nat) (z6 : Nat) (z7 : Nat) (z8 : Nat) (z9 : Nat) (z10 : Nat) (z11 : Nat) (z12 : Nat) (z13 : Nat) (p0 : Int32) (p1 : Int32) (p2 : Int32) (f0 : ¬ p0 = 112) (f1 : ¬ p0 = 104) (f2 : ¬ p0 = 109) : CT l (.code yX11_wish cX11_wish 6 (some .int)) yX11_wish { frames := 5, cells := 0, slots := 0, locals := 111 } [.ref a0, .int p0, .int p1, .int p2] (fun y => [(a0, .inr (13, [.ref z0, .ref z1, .ref z2, .ref z3, .ref z4, .ref z5, .int 45, .ref z6, .ref z7, .ref z8, .int 0, .ref z9, .ref z10, .int 0, .int 0, .int 0, .int 0, .ref z11, .int 0, .null, .ref z12, .ref z13]))]) (fun y => [(a0, .inr (13, [.ref z0, .ref z1, .ref z2, .ref z3, .ref z4, .ref z5, .int 45, .ref z6, .ref z7, .ref z8, .int 0, .ref z9, .ref z10, .int 0, .int 0, .int 0, .int 0, .ref z11, .int 0, .null, .ref z12, .ref z13]))]) (fun u => some (.int 0)) (fun y u => [(a0, .inr (13, [.ref z0, .ref z1, .ref z2, .ref z3, .ref z4, .ref z5, .int 45, .ref z6, .ref z7, .ref z8, .int 0, .ref z9, .ref z10, .int 0, .int 0, .int 1, .int 0, .ref z11, .int 0, .null, .ref z12, .ref z13]))]) := by
  refine mkM (by decide) (Nat.le_of_ble_eq_true rfl) ?_
  intro p e s m args below meth c D y A ls hF hr hAe hP hD hS hl
  have hF : FX p e s m args meth c cX11_wish 6 RX11 "wish" D y A := hF
  obtain ⟨⟨hx, hb, hml, hown, hts⟩, hev, heh, hA, hlk, hnm⟩ := id hF
  have hK := hev.1
  have hP : va_P D vwCl [(a0, .inr (13, [.ref z0, .ref z1, .ref z2, .ref z3, .ref z4, .ref z5, .int 45, .ref z6, .ref z7, .ref z8, .int 0, .ref z9, .ref z10, .int 0, .int 0, .int 0, .int 0, .ref z11, .int 0, .null, .ref z12, .ref z13]))] s.heap := hP
  have hD : va_D A [(a0, .inr (13, [.ref z0, .ref z1, .ref z2, .ref z3, .ref z4, .ref z5, .int 45, .ref z6, .ref z7, .ref z8, .int 0, .ref z9, .ref z10, .int 0, .int 0, .int 0, .int 0, .ref z11, .int 0, .null, .ref z12, .ref z13]))] := by rw [← hAe]; exact hD.self
  have hl : lv_has ls 6 [(0, .ref a0), (1, .int p0), (2, .int p1), (3, .int p2)] := hl
  refine lv_iload_n hx hb dX11_wish_0 rfl (lv_at hl 1 rfl) ?_
  refine cS (l := l) (yM := yX11_sideOf) (As := [.int p0]) (rest := []) (wr := [(a0, .inr (13, [.ref z0, .ref z1, .ref z2, .ref z3, .ref z4, .ref z5, .int 45, .ref z6, .ref z7, .ref z8, .int 0, .ref z9, .ref z10, .int 0, .int 0, .int 0, .int 0, .ref z11, .int 0, .null, .ref z12, .ref z13]))]) hF (c59_X11_sideOf l p0 f0 f1 f2) gs_RX11_124 1 (by decide +kernel) rfl ⟨(Nat.le_of_ble_eq_true rfl), (Nat.le_of_ble_eq_true rfl)⟩ hl.1 rfl (Nat.le_of_ble_eq_true rfl) dX11_wish_1 ⟨(Nat.le_of_ble_eq_true rfl), (Nat.le_of_ble_eq_true rfl)⟩ hP hD hS (pA hA hS) (fun _ h => h) [] [] [0] rfl rfl rfl rfl rfl (by decide) (fun u_1 H locs hP hD hS => ?_)
  have hP : va_P D vwCl [(a0, .inr (13, [.ref z0, .ref z1, .ref z2, .ref z3, .ref z4, .ref z5, .int 45, .ref z6, .ref z7, .ref z8, .int 0, .ref z9, .ref z10, .int 0, .int 0, .int 0, .int 0, .ref z11, .int 0, .null, .ref z12, .ref z13]))] H := hP
  have hD : va_D A [(a0, .inr (13, [.ref z0, .ref z1, .ref z2, .ref z3, .ref z4, .ref z5, .int 45, .ref z6, .ref z7, .ref z8, .int 0, .ref z9, .ref z10, .int 0, .int 0, .int 0, .int 0, .ref z11, .int 0, .null, .ref z12, .ref z13]))] := hD
  refine W.widen (k := 0) (n := 0) (Nat.le_of_ble_eq_true rfl) (Nat.le_of_ble_eq_true rfl) ?_
  refine W.eq (g2 := F0 m 4 ls [.int (-1)]) rfl ?_
  refine lv_istore (lv' := [(4, .int (-1)), (0, .ref a0), (1, .int p0), (2, .int p1), (3, .int p2)]) hx hb dX11_wish_4 hl (by decide) rfl (fun ls hl => ?_)
  refine lv_aload_n hx hb dX11_wish_6 rfl (lv_at hl 1 rfl) ?_
  refine lv_iload hx hb dX11_wish_7 (lv_at hl 0 rfl) ?_
  refine lv_iload_n hx hb dX11_wish_9 rfl (lv_at hl 3 rfl) ?_
  refine cV (l := l) (yM := yX11_isOne) (C := RX11) (As := [.int (-1), .int p1]) (rest := []) (wr := [(a0, .inr (13, [.ref z0, .ref z1, .ref z2, .ref z3, .ref z4, .ref z5, .int 45, .ref z6, .ref z7, .ref z8, .int 0, .ref z9, .ref z10, .int 0, .int 0, .int 0, .int 0, .ref z11, .int 0, .null, .ref z12, .ref z13]))]) hF (c139_X11_isOne l a0 p1) gv_RX11_155 2 (by decide +kernel) rfl ⟨(Nat.le_of_ble_eq_true rfl), (Nat.le_of_ble_eq_true rfl)⟩ hl.1 rfl (Nat.le_of_ble_eq_true rfl) dX11_wish_10 ⟨(Nat.le_of_ble_eq_true rfl), (Nat.le_of_ble_eq_true rfl)⟩ hP hD hS (pA hA hS) (fun _ h => h) [] [] [0] rfl rfl rfl rfl rfl (by decide) 0 (ci := 13) rfl rfl rfl (fun u_2 H locs hP hD hS => ?_)
  have hP : va_P D vwCl [(a0, .inr (13, [.ref z0, .ref z1, .ref z2, .ref z3, .ref z4, .ref z5, .int 45, .ref z6, .ref z7, .ref z8, .int 0, .ref z9, .ref z10, .int 0, .int 0, .int 0, .int 0, .ref z11, .int 0, .null, .ref z12, .ref z13]))] H := hP
  have hD : va_D A [(a0, .inr (13, [.ref z0, .ref z1, .ref z2, .ref z3, .ref z4, .ref z5, .int 45, .ref z6, .ref z7, .ref z8, .int 0, .ref z9, .ref z10, .int 0, .int 0, .int 0, .int 0, .ref z11, .int 0, .null, .ref z12, .ref z13]))] := hD
  refine W.widen (k := 0) (n := 0) (Nat.le_of_ble_eq_true rfl) (Nat.le_of_ble_eq_true rfl) ?_
  refine W.eq (g2 := F0 m 13 ls [.int 0]) rfl ?_
  refine lv_istore (lv' := [(5, .int 0), (4, .int (-1)), (0, .ref a0), (1, .int p0), (2, .int p1), (3, .int p2)]) hx hb dX11_wish_13 hl (by decide) rfl (fun ls hl => ?_)
  refine lv_aload_n hx hb dX11_wish_15 rfl (lv_at hl 2 rfl) ?_
  refine lv_iload hx hb dX11_wish_16 (lv_at hl 1 rfl) ?_
  refine lv_if_ge (tgt := 25) hx hb dX11_wish_18 (by decide) (fun c => absurd c (by decide)) (fun _ => ?_)
  refine lv_iconst (v := 1) hx hb dX11_wish_21 (by decide) ?_
  refine lv_goto (tgt := 26) hx hb dX11_wish_22 (by decide) ?_
  refine lv_iload hx hb dX11_wish_26 (lv_at hl 0 rfl) ?_
  refine lv_if_ne (tgt := 35) hx hb dX11_wish_28 (by decide) (fun c => absurd (by decide) c) (fun _ => ?_)
  refine lv_iconst (v := 1) hx hb dX11_wish_31 (by decide) ?_
  refine lv_goto (tgt := 36) hx hb dX11_wish_32 (by decide) ?_
  refine lv_iload hx hb dX11_wish_36 (lv_at hl 0 rfl) ?_
  refine lv_if_eq (tgt := 67) hx hb dX11_wish_38 (by decide) (fun _ => ?_) (fun c => absurd (by decide) c)
  refine lv_iconst (v := 0) hx hb dX11_wish_67 (by decide) ?_
  refine cV (l := l) (yM := yX11_fails) (C := RX11) (As := [.int 1, .int 1, .int 0]) (rest := []) (wr := []) hF (c89_X11_fails l a0 z0 z1 z2 z3 z4 z5 z6 z7 z8 z9 z10 z11 z12 z13) gv_RX11_128 3 (by decide +kernel) rfl ⟨(Nat.le_of_ble_eq_true rfl), (Nat.le_of_ble_eq_true rfl)⟩ hl.1 rfl (Nat.le_of_ble_eq_true rfl) dX11_wish_68 ⟨(Nat.le_of_ble_eq_true rfl), (Nat.le_of_ble_eq_true rfl)⟩ hP hD hS (va_free (wc := [(a0, .inr (13, [.ref z0, .ref z1, .ref z2, .ref z3, .ref z4, .ref z5, .int 45, .ref z6, .ref z7, .ref z8, .int 0, .ref z9, .ref z10, .int 0, .int 0, .int 0, .int 0, .ref z11, .int 0, .null, .ref z12, .ref z13]))]) hD hS hA [0] rfl) (fun _ h => h) [0] [0] [] rfl rfl rfl rfl rfl (by decide) 0 (ci := 13) rfl rfl rfl (fun u_3 H locs hP hD hS => ?_)
  have hP : va_P D vwCl [(a0, .inr (13, [.ref z0, .ref z1, .ref z2, .ref z3, .ref z4, .ref z5, .int 45, .ref z6, .ref z7, .ref z8, .int 0, .ref z9, .ref z10, .int 0, .int 0, .int 1, .int 0, .ref z11, .int 0, .null, .ref z12, .ref z13]))] H := hP
  have hD : va_D A [(a0, .inr (13, [.ref z0, .ref z1, .ref z2, .ref z3, .ref z4, .ref z5, .int 45, .ref z6, .ref z7, .ref z8, .int 0, .ref z9, .ref z10, .int 0, .int 0, .int 1, .int 0, .ref z11, .int 0, .null, .ref z12, .ref z13]))] := hD
  refine W.widen (k := 0) (n := 0) (Nat.le_of_ble_eq_true rfl) (Nat.le_of_ble_eq_true rfl) ?_
  refine W.eq (g2 := F0 m 71 ls [.int 1]) rfl ?_
  refine lv_if_eq (tgt := 78) hx hb dX11_wish_71 (by decide) (fun c => absurd c (by decide)) (fun _ => ?_)
  refine lv_iconst (v := 0) hx hb dX11_wish_74 (by decide) ?_
  refine lv_goto (tgt := 92) hx hb dX11_wish_75 (by decide) ?_
  exact e_i hF hr (Nat.le_of_ble_eq_true rfl) (Nat.le_of_ble_eq_true rfl) hS (qg_end hS (fun _ => 0) rfl [0] hP rfl (hD.sub [0] rfl rfl)) dX11_wish_92

set_option maxHeartbeats 4000000 in
set_option maxRecDepth 100000 in
theorem c165_X10_rank (l : Launch) (hlt : l.stackTraces = false) (a0 : Nat) (a1 : Nat) (a2 : Nat) (z0 : Nat) (z1 : Nat) (z2 : Nat) (z3 : Nat) (z4 : Nat) (z5 : Nat) (z6 : Nat) (z7 : Nat) (z8 : Nat) (z9 : Nat) (z10 : Nat) (z11 : Nat) (z12 : Nat) (z13 : Nat) (z14 : Nat) (z15 : Nat) (z16 : Nat) (z17 : Nat) (z18 : Nat) (p0 : Int32) (p1 : Int32) : CX l (.code yX10_rank cX10_rank 4 (some .int)) yX10_rank { frames := 7, cells := 1, slots := 6, locals := 113 } [.ref a0, .int 112, .int p0, .int p1] (fun y => [(a0, .inr (12, [.ref a1, .ref z0, .ref z1, .ref z2, .ref z3, .ref z4, .ref z5, .ref z6, .ref z7, .ref z8, .ref z9, .ref z10, .ref z11, .ref z12, .ref z13])), (a1, .inr (5, [.ref a2, .ref z14, .ref z15])), (a2, .inr (4, [.int 0, .ref z16, .ref z17, .ref z18]))]) (fun _ => []) "java/util/NoSuchElementException" := by
  refine mkX (by decide) (Nat.le_of_ble_eq_true rfl) ?_
  intro p e s m args below meth c D y A ls hF htb hAe hP hD hS hl
  have hF : FX p e s m args meth c cX10_rank 4 RX10 "rank" D y A := hF
  obtain ⟨⟨hx, hb, hml, hown, hts⟩, hev, heh, hA, hlk, hnm⟩ := id hF
  have hK := hev.1
  have hP : va_P D vwCl [(a0, .inr (12, [.ref a1, .ref z0, .ref z1, .ref z2, .ref z3, .ref z4, .ref z5, .ref z6, .ref z7, .ref z8, .ref z9, .ref z10, .ref z11, .ref z12, .ref z13])), (a1, .inr (5, [.ref a2, .ref z14, .ref z15])), (a2, .inr (4, [.int 0, .ref z16, .ref z17, .ref z18]))] s.heap := hP
  have hD : va_D (fun _ => True) [(a0, .inr (12, [.ref a1, .ref z0, .ref z1, .ref z2, .ref z3, .ref z4, .ref z5, .ref z6, .ref z7, .ref z8, .ref z9, .ref z10, .ref z11, .ref z12, .ref z13])), (a1, .inr (5, [.ref a2, .ref z14, .ref z15])), (a2, .inr (4, [.int 0, .ref z16, .ref z17, .ref z18]))] := hD
  have hl : lv_has ls 4 [(0, .ref a0), (1, .int 112), (2, .int p0), (3, .int p1)] := hl
  refine lv_aload_n hx hb dX10_rank_0 rfl (lv_at hl 0 rfl) ?_
  refine lv_iload_n hx hb dX10_rank_1 rfl (lv_at hl 1 rfl) ?_
  refine lv_iload_n hx hb dX10_rank_2 rfl (lv_at hl 2 rfl) ?_
  exact xV (l := l) (yM := yX10_needOne) (C := RX10) (As := [.int 112, .int p0]) (rest := []) hF htb (c119_X10_needOne l hlt a0 a1 a2 z0 z1 z2 z3 z4 z5 z6 z7 z8 z9 z10 z11 z12 z13 z14 z15 z16 z17 z18 p0) gv_RX10_161 2 (by decide +kernel) rfl ⟨(Nat.le_of_ble_eq_true rfl), (Nat.le_of_ble_eq_true rfl)⟩ hl.1 rfl (Nat.le_of_ble_eq_true rfl) dX10_rank_3 ⟨(Nat.le_of_ble_eq_true rfl), (Nat.le_of_ble_eq_true rfl)⟩ hP hD hS (pA hA hS) [0, 1, 2] rfl rfl 0 (ci := 12) rfl rfl rfl ⟨(Nat.le_of_ble_eq_true rfl), (Nat.le_of_ble_eq_true rfl)⟩

set_option maxHeartbeats 4000000 in
set_option maxRecDepth 100000 in
theorem c165_L_rank (l : Launch) (hlt : l.stackTraces = false) (a0 : Nat) (a1 : Nat) (a2 : Nat) (z0 : Nat) (z1 : Nat) (z2 : Nat) (z3 : Nat) (z4 : Nat) (z5 : Nat) (z6 : Nat) (z7 : Nat) (z8 : Nat) (z9 : Nat) (z10 : Nat) (z11 : Nat) (z12 : Nat) (z13 : Nat) (z14 : Nat) (z15 : Nat) (z16 : Nat) (z17 : Nat) (z18 : Nat) (p0 : Int32) (p1 : Int32) (z19 : Nat) : CT l (.codeWith yL_rank cL_rank 6 (some .int) [(0, 12, 15, 13), (0, 12, 19, 24)]) yL_rank { frames := 8, cells := 1, slots := 6, locals := 136 } [.ref a0, .int 112, .int p0, .int p1, .ref z19] (fun y => [(a0, .inr (12, [.ref a1, .ref z0, .ref z1, .ref z2, .ref z3, .ref z4, .ref z5, .ref z6, .ref z7, .ref z8, .ref z9, .ref z10, .ref z11, .ref z12, .ref z13])), (a1, .inr (5, [.ref a2, .ref z14, .ref z15])), (a2, .inr (4, [.int 0, .ref z16, .ref z17, .ref z18]))]) (fun _ => []) (fun u => some (.int 2)) (fun y u => []) := by
  refine mkH (by decide) (Nat.le_of_ble_eq_true rfl) ?_
  intro p e s m args below meth c D y A ls hF htab hr hAe hP hD hS hl
  have hF : FX p e s m args meth c cL_rank 6 RL "rank" D y A := hF
  obtain ⟨⟨hx, hb, hml, hown, hts⟩, hev, heh, hA, hlk, hnm⟩ := id hF
  have hK := hev.1
  have hP : va_P D vwCl [(a0, .inr (12, [.ref a1, .ref z0, .ref z1, .ref z2, .ref z3, .ref z4, .ref z5, .ref z6, .ref z7, .ref z8, .ref z9, .ref z10, .ref z11, .ref z12, .ref z13])), (a1, .inr (5, [.ref a2, .ref z14, .ref z15])), (a2, .inr (4, [.int 0, .ref z16, .ref z17, .ref z18]))] s.heap := hP
  have hD : va_D (fun _ => True) [(a0, .inr (12, [.ref a1, .ref z0, .ref z1, .ref z2, .ref z3, .ref z4, .ref z5, .ref z6, .ref z7, .ref z8, .ref z9, .ref z10, .ref z11, .ref z12, .ref z13])), (a1, .inr (5, [.ref a2, .ref z14, .ref z15])), (a2, .inr (4, [.int 0, .ref z16, .ref z17, .ref z18]))] := hD
  have hl : lv_has ls 6 [(0, .ref a0), (1, .int 112), (2, .int p0), (3, .int p1), (4, .ref z19)] := hl
  refine lv_aload hx hb dL_rank_0 (lv_at hl 4 rfl) ?_
  refine lv_iconst (v := 0) hx hb dL_rank_2 (by decide) ?_
  refine lv_aload_n hx hb dL_rank_3 rfl (lv_at hl 0 rfl) ?_
  refine lv_iload_n hx hb dL_rank_4 rfl (lv_at hl 1 rfl) ?_
  refine lv_iload_n hx hb dL_rank_5 rfl (lv_at hl 2 rfl) ?_
  refine lv_iload_n hx hb dL_rank_6 rfl (lv_at hl 3 rfl) ?_
  refine hV (wr := [(a0, .inr (12, [.ref a1, .ref z0, .ref z1, .ref z2, .ref z3, .ref z4, .ref z5, .ref z6, .ref z7, .ref z8, .ref z9, .ref z10, .ref z11, .ref z12, .ref z13])), (a1, .inr (5, [.ref a2, .ref z14, .ref z15])), (a2, .inr (4, [.int 0, .ref z16, .ref z17, .ref z18]))]) (name := "java/util/NoSuchElementException") (E0 := "java/util/NoSuchElementException") (l := l) (yM := yX10_rank) (C := RX10) (As := [.int 112, .int p0, .int p1]) (rest := [.int 0, .ref z19]) hF (c165_X10_rank l hlt a0 a1 a2 z0 z1 z2 z3 z4 z5 z6 z7 z8 z9 z10 z11 z12 z13 z14 z15 z16 z17 z18 p0 p1) gv_RL_49 3 (by decide +kernel) rfl ⟨(Nat.le_of_ble_eq_true rfl), (Nat.le_of_ble_eq_true rfl)⟩ hl.1 rfl (Nat.le_of_ble_eq_true rfl) dL_rank_7 ⟨(Nat.le_of_ble_eq_true rfl), (Nat.le_of_ble_eq_true rfl)⟩ hP hD hS (pA hA hS) (fun _ _ => trivial) [0, 1, 2] [] [0, 1, 2] rfl rfl rfl rfl rfl (by decide) 0 (ci := 12) rfl rfl rfl [⟨0, 12, 15, 13⟩] ⟨0, 12, 19, 24⟩ [] htab (List.forall_mem_cons.mpr ⟨Or.inr ⟨by decide, "java/lang/IllegalArgumentException", wd_235, List.mem_of_getElem? (i := 0) rfl⟩, (fun z hz => nomatch hz)⟩) (by decide) (by decide) wd_261 (by decide) (fun q9 H locs hP hD hS => ?_)
  have hP : va_P D vwCl [(a0, .inr (12, [.ref a1, .ref z0, .ref z1, .ref z2, .ref z3, .ref z4, .ref z5, .ref z6, .ref z7, .ref z8, .ref z9, .ref z10, .ref z11, .ref z12, .ref z13])), (a1, .inr (5, [.ref a2, .ref z14, .ref z15])), (a2, .inr (4, [.int 0, .ref z16, .ref z17, .ref z18]))] H := hP
  have hD : va_D (fun _ => True) [(a0, .inr (12, [.ref a1, .ref z0, .ref z1, .ref z2, .ref z3, .ref z4, .ref z5, .ref z6, .ref z7, .ref z8, .ref z9, .ref z10, .ref z11, .ref z12, .ref z13])), (a1, .inr (5, [.ref a2, .ref z14, .ref z15])), (a2, .inr (4, [.int 0, .ref z16, .ref z17, .ref z18]))] := hD
  refine W.widen (k := 1) (n := 6) (Nat.le_of_ble_eq_true rfl) (Nat.le_of_ble_eq_true rfl) ?_
  refine W.eq (g2 := F0 m 19 ls [.ref q9]) rfl ?_
  refine lv_astore (lv' := [(5, .ref q9), (0, .ref a0), (1, .int 112), (2, .int p0), (3, .int p1), (4, .ref z19)]) hx hb dL_rank_19 hl (by decide) rfl (fun ls hl => ?_)
  refine lv_iconst (v := 2) hx hb dL_rank_21 (by decide) ?_
  exact e_i hF hr (Nat.le_of_ble_eq_true rfl) (Nat.le_of_ble_eq_true rfl) hS (qg_end hS (fun _ => 0) rfl [] hP rfl d_nil) dL_rank_22

set_option maxHeartbeats 4000000 in
set_option maxRecDepth 100000 in
theorem c167_X11_rank (l : Launch) (a0 : Nat) (a1 : Nat) (z0 : Nat) (z1 : Nat) (z2 : Nat) (z3 : Nat) (z4 : Nat) (z5 : Nat) (z6 : Nat) (z7 : Nat) (z8 : Nat) (z9 : Nat) (z10 : Nat) (z11 : Nat) (z12 : Nat) (p0 : Int32) (p1 : Int32) : CT l (.code yX11_rank cX11_rank 5 (some .int)) yX11_rank { frames := 5, cells := 0, slots := 0, locals := 111 } [.ref a0, .int 112, .int p0, .int p1] (fun y => [(a0, .inr (13, [.ref a1, .ref z0, .ref z1, .ref z2, .ref z3, .ref z4, .int 45, .ref z5, .ref z6, .ref z7, .int 0, .ref z8, .ref z9, .int 0, .int 0, .int 0, .int 0, .ref z10, .int 0, .null, .ref z11, .ref z12])), (a1, .inl (y 0, 3, .inl (fun _ => 0)))]) (fun y => [(a0, .inr (13, [.ref a1, .ref z0, .ref z1, .ref z2, .ref z3, .ref z4, .int 45, .ref z5, .ref z6, .ref z7, .int 0, .ref z8, .ref z9, .int 0, .int 0, .int 0, .int 0, .ref z10, .int 0, .null, .ref z11, .ref z12])), (a1, .inl (y 0, 3, .inl (fun _ => 0)))]) (fun u => some (.int 0)) (fun y u => [(a0, .inr (13, [.ref a1, .ref z0, .ref z1, .ref z2, .ref z3, .ref z4, .int 45, .ref z5, .ref z6, .ref z7, .int 0, .ref z8, .ref z9, .int 0, .int 0, .int 2, .int 0, .ref z10, .int 0, .null, .ref z11, .ref z12])), (a1, .inl (y 0, 3, .inl (fun _ => 0)))]) := by
  refine mkM (by decide) (Nat.le_of_ble_eq_true rfl) ?_
  intro p e s m args below meth c D y A ls hF hr hAe hP hD hS hl
  have hF : FX p e s m args meth c cX11_rank 5 RX11 "rank" D y A := hF
  obtain ⟨⟨hx, hb, hml, hown, hts⟩, hev, heh, hA, hlk, hnm⟩ := id hF
  have hK := hev.1
  have hP : va_P D vwCl [(a0, .inr (13, [.ref a1, .ref z0, .ref z1, .ref z2, .ref z3, .ref z4, .int 45, .ref z5, .ref z6, .ref z7, .int 0, .ref z8, .ref z9, .int 0, .int 0, .int 0, .int 0, .ref z10, .int 0, .null, .ref z11, .ref z12])), (a1, .inl (y 0, 3, .inl (fun _ => 0)))] s.heap := hP
  have hD : va_D A [(a0, .inr (13, [.ref a1, .ref z0, .ref z1, .ref z2, .ref z3, .ref z4, .int 45, .ref z5, .ref z6, .ref z7, .int 0, .ref z8, .ref z9, .int 0, .int 0, .int 0, .int 0, .ref z10, .int 0, .null, .ref z11, .ref z12])), (a1, .inl (y 0, 3, .inl (fun _ => 0)))] := by rw [← hAe]; exact hD.self
  have hl : lv_has ls 5 [(0, .ref a0), (1, .int 112), (2, .int p0), (3, .int p1)] := hl
  refine lv_iload_n hx hb dX11_rank_0 rfl (lv_at hl 1 rfl) ?_
  refine cS (l := l) (yM := yX11_sideOf) (As := [.int 112]) (rest := []) (wr := [(a0, .inr (13, [.ref a1, .ref z0, .ref z1, .ref z2, .ref z3, .ref z4, .int 45, .ref z5, .ref z6, .ref z7, .int 0, .ref z8, .ref z9, .int 0, .int 0, .int 0, .int 0, .ref z10, .int 0, .null, .ref z11, .ref z12])), (a1, .inl (y 0, 3, .inl (fun _ => 0)))]) hF (c23_X11_sideOf l) gs_RX11_124 1 (by decide +kernel) rfl ⟨(Nat.le_of_ble_eq_true rfl), (Nat.le_of_ble_eq_true rfl)⟩ hl.1 rfl (Nat.le_of_ble_eq_true rfl) dX11_rank_1 ⟨(Nat.le_of_ble_eq_true rfl), (Nat.le_of_ble_eq_true rfl)⟩ hP hD hS (pA hA hS) (fun _ h => h) [] [] [0, 1] rfl rfl rfl rfl rfl (by decide) (fun u_1 H locs hP hD hS => ?_)
  have hP : va_P D vwCl [(a0, .inr (13, [.ref a1, .ref z0, .ref z1, .ref z2, .ref z3, .ref z4, .int 45, .ref z5, .ref z6, .ref z7, .int 0, .ref z8, .ref z9, .int 0, .int 0, .int 0, .int 0, .ref z10, .int 0, .null, .ref z11, .ref z12])), (a1, .inl (y 0, 3, .inl (fun _ => 0)))] H := hP
  have hD : va_D A [(a0, .inr (13, [.ref a1, .ref z0, .ref z1, .ref z2, .ref z3, .ref z4, .int 45, .ref z5, .ref z6, .ref z7, .int 0, .ref z8, .ref z9, .int 0, .int 0, .int 0, .int 0, .ref z10, .int 0, .null, .ref z11, .ref z12])), (a1, .inl (y 0, 3, .inl (fun _ => 0)))] := hD
  refine W.widen (k := 0) (n := 0) (Nat.le_of_ble_eq_true rfl) (Nat.le_of_ble_eq_true rfl) ?_
  refine W.eq (g2 := F0 m 4 ls [.int 0]) rfl ?_
  refine lv_istore (lv' := [(4, .int 0), (0, .ref a0), (1, .int 112), (2, .int p0), (3, .int p1)]) hx hb dX11_rank_4 hl (by decide) rfl (fun ls hl => ?_)
  refine lv_aload_n hx hb dX11_rank_6 rfl (lv_at hl 1 rfl) ?_
  refine lv_iload hx hb dX11_rank_7 (lv_at hl 0 rfl) ?_
  refine lv_if_ge (tgt := 16) hx hb dX11_rank_9 (by decide) (fun _ => ?_) (fun c => absurd (by decide) c)
  refine lv_iconst (v := 0) hx hb dX11_rank_16 (by decide) ?_
  refine lv_aload_n hx hb dX11_rank_17 rfl (lv_at hl 1 rfl) ?_
  refine lv_iload hx hb dX11_rank_18 (lv_at hl 0 rfl) ?_
  refine lv_iload_n hx hb dX11_rank_20 rfl (lv_at hl 3 rfl) ?_
  refine cV (l := l) (yM := yX11_isOne) (C := RX11) (As := [.int 0, .int p0]) (rest := [.int 0, .ref a0]) (wr := [(a0, .inr (13, [.ref a1, .ref z0, .ref z1, .ref z2, .ref z3, .ref z4, .int 45, .ref z5, .ref z6, .ref z7, .int 0, .ref z8, .ref z9, .int 0, .int 0, .int 0, .int 0, .ref z10, .int 0, .null, .ref z11, .ref z12])), (a1, .inl (y 0, 3, .inl (fun _ => 0)))]) hF (c122_X11_isOne l a0 a1 z0 z1 z2 z3 z4 z5 z6 z7 z8 z9 z10 z11 z12 p0) gv_RX11_155 2 (by decide +kernel) rfl ⟨(Nat.le_of_ble_eq_true rfl), (Nat.le_of_ble_eq_true rfl)⟩ hl.1 rfl (Nat.le_of_ble_eq_true rfl) dX11_rank_21 ⟨(Nat.le_of_ble_eq_true rfl), (Nat.le_of_ble_eq_true rfl)⟩ hP hD hS (pA hA hS) (fun _ h => h) [0, 1] [] [0, 1] rfl rfl rfl rfl rfl (by decide) 0 (ci := 13) rfl rfl rfl (fun u_2 H locs hP hD hS => ?_)
  have hP : va_P D vwCl [(a0, .inr (13, [.ref a1, .ref z0, .ref z1, .ref z2, .ref z3, .ref z4, .int 45, .ref z5, .ref z6, .ref z7, .int 0, .ref z8, .ref z9, .int 0, .int 0, .int 0, .int 0, .ref z10, .int 0, .null, .ref z11, .ref z12])), (a1, .inl (y 0, 3, .inl (fun _ => 0)))] H := hP
  have hD : va_D A [(a0, .inr (13, [.ref a1, .ref z0, .ref z1, .ref z2, .ref z3, .ref z4, .int 45, .ref z5, .ref z6, .ref z7, .int 0, .ref z8, .ref z9, .int 0, .int 0, .int 0, .int 0, .ref z10, .int 0, .null, .ref z11, .ref z12])), (a1, .inl (y 0, 3, .inl (fun _ => 0)))] := hD
  refine W.widen (k := 0) (n := 0) (Nat.le_of_ble_eq_true rfl) (Nat.le_of_ble_eq_true rfl) ?_
  refine W.eq (g2 := F0 m 24 ls [.int 0, .int 0, .ref a0]) rfl ?_
  refine lv_if_ne (tgt := 31) hx hb dX11_rank_24 (by decide) (fun c => absurd (by decide) c) (fun _ => ?_)
  refine lv_iconst (v := 1) hx hb dX11_rank_27 (by decide) ?_
  refine lv_goto (tgt := 32) hx hb dX11_rank_28 (by decide) ?_
  refine lv_iconst (v := 0) hx hb dX11_rank_32 (by decide) ?_
  refine cV (l := l) (yM := yX11_fails) (C := RX11) (As := [.int 0, .int 1, .int 0]) (rest := []) (wr := [(a1, .inl (y 0, 3, .inl (fun _ => 0)))]) hF (c123_X11_fails l a0 a1 z0 z1 z2 z3 z4 z5 z6 z7 z8 z9 z10 z11 z12) gv_RX11_128 3 (by decide +kernel) rfl ⟨(Nat.le_of_ble_eq_true rfl), (Nat.le_of_ble_eq_true rfl)⟩ hl.1 rfl (Nat.le_of_ble_eq_true rfl) dX11_rank_33 ⟨(Nat.le_of_ble_eq_true rfl), (Nat.le_of_ble_eq_true rfl)⟩ hP hD hS (va_free (wc := [(a0, .inr (13, [.ref a1, .ref z0, .ref z1, .ref z2, .ref z3, .ref z4, .int 45, .ref z5, .ref z6, .ref z7, .int 0, .ref z8, .ref z9, .int 0, .int 0, .int 0, .int 0, .ref z10, .int 0, .null, .ref z11, .ref z12]))]) hD hS hA [0] rfl) (fun _ h => h) [0] [0] [1] rfl rfl rfl rfl rfl (by decide) 0 (ci := 13) rfl rfl rfl (fun u_3 H locs hP hD hS => ?_)
  have hP : va_P D vwCl [(a1, .inl (y 0, 3, .inl (fun _ => 0))), (a0, .inr (13, [.ref a1, .ref z0, .ref z1, .ref z2, .ref z3, .ref z4, .int 45, .ref z5, .ref z6, .ref z7, .int 0, .ref z8, .ref z9, .int 0, .int 0, .int 2, .int 0, .ref z10, .int 0, .null, .ref z11, .ref z12]))] H := hP
  have hD : va_D A [(a1, .inl (y 0, 3, .inl (fun _ => 0))), (a0, .inr (13, [.ref a1, .ref z0, .ref z1, .ref z2, .ref z3, .ref z4, .int 45, .ref z5, .ref z6, .ref z7, .int 0, .ref z8, .ref z9, .int 0, .int 0, .int 2, .int 0, .ref z10, .int 0, .null, .ref z11, .ref z12]))] := hD
  refine W.widen (k := 0) (n := 0) (Nat.le_of_ble_eq_true rfl) (Nat.le_of_ble_eq_true rfl) ?_
  refine W.eq (g2 := F0 m 36 ls [.int 1]) rfl ?_
  refine lv_if_eq (tgt := 43) hx hb dX11_rank_36 (by decide) (fun c => absurd c (by decide)) (fun _ => ?_)
  refine lv_iconst (v := 0) hx hb dX11_rank_39 (by decide) ?_
  refine lv_goto (tgt := 51) hx hb dX11_rank_40 (by decide) ?_
  exact e_i hF hr (Nat.le_of_ble_eq_true rfl) (Nat.le_of_ble_eq_true rfl) hS (qg_end hS (fun _ => 0) rfl [1, 0] hP rfl (hD.sub [1, 0] rfl rfl)) dX11_rank_51

set_option maxHeartbeats 4000000 in
set_option maxRecDepth 100000 in
theorem c168_X10_rank (l : Launch) (hlt : l.stackTraces = false) (a0 : Nat) (a1 : Nat) (a2 : Nat) (z0 : Nat) (z1 : Nat) (z2 : Nat) (z3 : Nat) (z4 : Nat) (z5 : Nat) (z6 : Nat) (z7 : Nat) (z8 : Nat) (z9 : Nat) (z10 : Nat) (z11 : Nat) (z12 : Nat) (z13 : Nat) (z14 : Nat) (z15 : Nat) (z16 : Nat) (z17 : Nat) (z18 : Nat) (p0 : Int32) (p1 : Int32) : CX l (.code yX10_rank cX10_rank 4 (some .int)) yX10_rank { frames := 7, cells := 1, slots := 6, locals := 113 } [.ref a0, .int 104, .int p0, .int p1] (fun y => [(a0, .inr (12, [.ref a1, .ref z0, .ref z1, .ref z2, .ref z3, .ref z4, .ref z5, .ref z6, .ref z7, .ref z8, .ref z9, .ref z10, .ref z11, .ref z12, .ref z13])), (a1, .inr (5, [.ref z14, .ref a2, .ref z15])), (a2, .inr (4, [.int 0, .ref z16, .ref z17, .ref z18]))]) (fun _ => []) "java/util/NoSuchElementException" := by
  refine mkX (by decide) (Nat.le_of_ble_eq_true rfl) ?_
  intro p e s m args below meth c D y A ls hF htb hAe hP hD hS hl
  have hF : FX p e s m args meth c cX10_rank 4 RX10 "rank" D y A := hF
  obtain ⟨⟨hx, hb, hml, hown, hts⟩, hev, heh, hA, hlk, hnm⟩ := id hF
  have hK := hev.1
  have hP : va_P D vwCl [(a0, .inr (12, [.ref a1, .ref z0, .ref z1, .ref z2, .ref z3, .ref z4, .ref z5, .ref z6, .ref z7, .ref z8, .ref z9, .ref z10, .ref z11, .ref z12, .ref z13])), (a1, .inr (5, [.ref z14, .ref a2, .ref z15])), (a2, .inr (4, [.int 0, .ref z16, .ref z17, .ref z18]))] s.heap := hP
  have hD : va_D (fun _ => True) [(a0, .inr (12, [.ref a1, .ref z0, .ref z1, .ref z2, .ref z3, .ref z4, .ref z5, .ref z6, .ref z7, .ref z8, .ref z9, .ref z10, .ref z11, .ref z12, .ref z13])), (a1, .inr (5, [.ref z14, .ref a2, .ref z15])), (a2, .inr (4, [.int 0, .ref z16, .ref z17, .ref z18]))] := hD
  have hl : lv_has ls 4 [(0, .ref a0), (1, .int 104), (2, .int p0), (3, .int p1)] := hl
  refine lv_aload_n hx hb dX10_rank_0 rfl (lv_at hl 0 rfl) ?_
  refine lv_iload_n hx hb dX10_rank_1 rfl (lv_at hl 1 rfl) ?_
  refine lv_iload_n hx hb dX10_rank_2 rfl (lv_at hl 2 rfl) ?_
  exact xV (l := l) (yM := yX10_needOne) (C := RX10) (As := [.int 104, .int p0]) (rest := []) hF htb (c126_X10_needOne l hlt a0 a1 a2 z0 z1 z2 z3 z4 z5 z6 z7 z8 z9 z10 z11 z12 z13 z14 z15 z16 z17 z18 p0) gv_RX10_161 2 (by decide +kernel) rfl ⟨(Nat.le_of_ble_eq_true rfl), (Nat.le_of_ble_eq_true rfl)⟩ hl.1 rfl (Nat.le_of_ble_eq_true rfl) dX10_rank_3 ⟨(Nat.le_of_ble_eq_true rfl), (Nat.le_of_ble_eq_true rfl)⟩ hP hD hS (pA hA hS) [0, 1, 2] rfl rfl 0 (ci := 12) rfl rfl rfl ⟨(Nat.le_of_ble_eq_true rfl), (Nat.le_of_ble_eq_true rfl)⟩

set_option maxHeartbeats 4000000 in
set_option maxRecDepth 100000 in
theorem c168_L_rank (l : Launch) (hlt : l.stackTraces = false) (a0 : Nat) (a1 : Nat) (a2 : Nat) (z0 : Nat) (z1 : Nat) (z2 : Nat) (z3 : Nat) (z4 : Nat) (z5 : Nat) (z6 : Nat) (z7 : Nat) (z8 : Nat) (z9 : Nat) (z10 : Nat) (z11 : Nat) (z12 : Nat) (z13 : Nat) (z14 : Nat) (z15 : Nat) (z16 : Nat) (z17 : Nat) (z18 : Nat) (p0 : Int32) (p1 : Int32) (z19 : Nat) : CT l (.codeWith yL_rank cL_rank 6 (some .int) [(0, 12, 15, 13), (0, 12, 19, 24)]) yL_rank { frames := 8, cells := 1, slots := 6, locals := 136 } [.ref a0, .int 104, .int p0, .int p1, .ref z19] (fun y => [(a0, .inr (12, [.ref a1, .ref z0, .ref z1, .ref z2, .ref z3, .ref z4, .ref z5, .ref z6, .ref z7, .ref z8, .ref z9, .ref z10, .ref z11, .ref z12, .ref z13])), (a1, .inr (5, [.ref z14, .ref a2, .ref z15])), (a2, .inr (4, [.int 0, .ref z16, .ref z17, .ref z18]))]) (fun _ => []) (fun u => some (.int 2)) (fun y u => []) := by
  refine mkH (by decide) (Nat.le_of_ble_eq_true rfl) ?_
  intro p e s m args below meth c D y A ls hF htab hr hAe hP hD hS hl
  have hF : FX p e s m args meth c cL_rank 6 RL "rank" D y A := hF
  obtain ⟨⟨hx, hb, hml, hown, hts⟩, hev, heh, hA, hlk, hnm⟩ := id hF
  have hK := hev.1
  have hP : va_P D vwCl [(a0, .inr (12, [.ref a1, .ref z0, .ref z1, .ref z2, .ref z3, .ref z4, .ref z5, .ref z6, .ref z7, .ref z8, .ref z9, .ref z10, .ref z11, .ref z12, .ref z13])), (a1, .inr (5, [.ref z14, .ref a2, .ref z15])), (a2, .inr (4, [.int 0, .ref z16, .ref z17, .ref z18]))] s.heap := hP
  have hD : va_D (fun _ => True) [(a0, .inr (12, [.ref a1, .ref z0, .ref z1, .ref z2, .ref z3, .ref z4, .ref z5, .ref z6, .ref z7, .ref z8, .ref z9, .ref z10, .ref z11, .ref z12, .ref z13])), (a1, .inr (5, [.ref z14, .ref a2, .ref z15])), (a2, .inr (4, [.int 0, .ref z16, .ref z17, .ref z18]))] := hD
  have hl : lv_has ls 6 [(0, .ref a0), (1, .int 104), (2, .int p0), (3, .int p1), (4, .ref z19)] := hl
  refine lv_aload hx hb dL_rank_0 (lv_at hl 4 rfl) ?_
  refine lv_iconst (v := 0) hx hb dL_rank_2 (by decide) ?_
  refine lv_aload_n hx hb dL_rank_3 rfl (lv_at hl 0 rfl) ?_
  refine lv_iload_n hx hb dL_rank_4 rfl (lv_at hl 1 rfl) ?_
  refine lv_iload_n hx hb dL_rank_5 rfl (lv_at hl 2 rfl) ?_
  refine lv_iload_n hx hb dL_rank_6 rfl (lv_at hl 3 rfl) ?_
  refine hV (wr := [(a0, .inr (12, [.ref a1, .ref z0, .ref z1, .ref z2, .ref z3, .ref z4, .ref z5, .ref z6, .ref z7, .ref z8, .ref z9, .ref z10, .ref z11, .ref z12, .ref z13])), (a1, .inr (5, [.ref z14, .ref a2, .ref z15])), (a2, .inr (4, [.int 0, .ref z16, .ref z17, .ref z18]))]) (name := "java/util/NoSuchElementException") (E0 := "java/util/NoSuchElementException") (l := l) (yM := yX10_rank) (C := RX10) (As := [.int 104, .int p0, .int p1]) (rest := [.int 0, .ref z19]) hF (c168_X10_rank l hlt a0 a1 a2 z0 z1 z2 z3 z4 z5 z6 z7 z8 z9 z10 z11 z12 z13 z14 z15 z16 z17 z18 p0 p1) gv_RL_49 3 (by decide +kernel) rfl ⟨(Nat.le_of_ble_eq_true rfl), (Nat.le_of_ble_eq_true rfl)⟩ hl.1 rfl (Nat.le_of_ble_eq_true rfl) dL_rank_7 ⟨(Nat.le_of_ble_eq_true rfl), (Nat.le_of_ble_eq_true rfl)⟩ hP hD hS (pA hA hS) (fun _ _ => trivial) [0, 1, 2] [] [0, 1, 2] rfl rfl rfl rfl rfl (by decide) 0 (ci := 12) rfl rfl rfl [⟨0, 12, 15, 13⟩] ⟨0, 12, 19, 24⟩ [] htab (List.forall_mem_cons.mpr ⟨Or.inr ⟨by decide, "java/lang/IllegalArgumentException", wd_235, List.mem_of_getElem? (i := 0) rfl⟩, (fun z hz => nomatch hz)⟩) (by decide) (by decide) wd_261 (by decide) (fun q9 H locs hP hD hS => ?_)
  have hP : va_P D vwCl [(a0, .inr (12, [.ref a1, .ref z0, .ref z1, .ref z2, .ref z3, .ref z4, .ref z5, .ref z6, .ref z7, .ref z8, .ref z9, .ref z10, .ref z11, .ref z12, .ref z13])), (a1, .inr (5, [.ref z14, .ref a2, .ref z15])), (a2, .inr (4, [.int 0, .ref z16, .ref z17, .ref z18]))] H := hP
  have hD : va_D (fun _ => True) [(a0, .inr (12, [.ref a1, .ref z0, .ref z1, .ref z2, .ref z3, .ref z4, .ref z5, .ref z6, .ref z7, .ref z8, .ref z9, .ref z10, .ref z11, .ref z12, .ref z13])), (a1, .inr (5, [.ref z14, .ref a2, .ref z15])), (a2, .inr (4, [.int 0, .ref z16, .ref z17, .ref z18]))] := hD
  refine W.widen (k := 1) (n := 6) (Nat.le_of_ble_eq_true rfl) (Nat.le_of_ble_eq_true rfl) ?_
  refine W.eq (g2 := F0 m 19 ls [.ref q9]) rfl ?_
  refine lv_astore (lv' := [(5, .ref q9), (0, .ref a0), (1, .int 104), (2, .int p0), (3, .int p1), (4, .ref z19)]) hx hb dL_rank_19 hl (by decide) rfl (fun ls hl => ?_)
  refine lv_iconst (v := 2) hx hb dL_rank_21 (by decide) ?_
  exact e_i hF hr (Nat.le_of_ble_eq_true rfl) (Nat.le_of_ble_eq_true rfl) hS (qg_end hS (fun _ => 0) rfl [] hP rfl d_nil) dL_rank_22

set_option maxHeartbeats 4000000 in
set_option maxRecDepth 100000 in
theorem c170_X11_rank (l : Launch) (a0 : Nat) (a1 : Nat) (z0 : Nat) (z1 : Nat) (z2 : Nat) (z3 : Nat) (z4 : Nat) (z5 : Nat) (z6 : Nat) (z7 : Nat) (z8 : Nat) (z9 : Nat) (z10 : Nat) (z11 : Nat) (z12 : Nat) (p0 : Int32) (p1 : Int32) : CT l (.code yX11_rank cX11_rank 5 (some .int)) yX11_rank { frames := 5, cells := 0, slots := 0, locals := 111 } [.ref a0, .int 104, .int p0, .int p1] (fun y => [(a0, .inr (13, [.ref a1, .ref z0, .ref z1, .ref z2, .ref z3, .ref z4, .int 45, .ref z5, .ref z6, .ref z7, .int 0, .ref z8, .ref z9, .int 0, .int 0, .int 0, .int 0, .ref z10, .int 0, .null, .ref z11, .ref z12])), (a1, .inl (y 0, 3, .inl (fun _ => 0)))]) (fun y => [(a0, .inr (13, [.ref a1, .ref z0, .ref z1, .ref z2, .ref z3, .ref z4, .int 45, .ref z5, .ref z6, .ref z7, .int 0, .ref z8, .ref z9, .int 0, .int 0, .int 0, .int 0, .ref z10, .int 0, .null, .ref z11, .ref z12])), (a1, .inl (y 0, 3, .inl (fun _ => 0)))]) (fun u => some (.int 0)) (fun y u => [(a0, .inr (13, [.ref a1, .ref z0, .ref z1, .ref z2, .ref z3, .ref z4, .int 45, .ref z5, .ref z6, .ref z7, .int 0, .ref z8, .ref z9, .int 0, .int 0, .int 2, .int 0, .ref z10, .int 0, .null, .ref z11, .ref z12])), (a1, .inl (y 0, 3, .inl (fun _ => 0)))]) := by
  refine mkM (by decide) (Nat.le_of_ble_eq_true rfl) ?_
  intro p e s m args below meth c D y A ls hF hr hAe hP hD hS hl
  have hF : FX p e s m args meth c cX11_rank 5 RX11 "rank" D y A := hF
  obtain ⟨⟨hx, hb, hml, hown, hts⟩, hev, heh, hA, hlk, hnm⟩ := id hF
  have hK := hev.1
  have hP : va_P D vwCl [(a0, .inr (13, [.ref a1, .ref z0, .ref z1, .ref z2, .ref z3, .ref z4, .int 45, .ref z5, .ref z6, .ref z7, .int 0, .ref z8, .ref z9, .int 0, .int 0, .int 0, .int 0, .ref z10, .int 0, .null, .ref z11, .ref z12])), (a1, .inl (y 0, 3, .inl (fun _ => 0)))] s.heap := hP
  have hD : va_D A [(a0, .inr (13, [.ref a1, .ref z0, .ref z1, .ref z2, .ref z3, .ref z4, .int 45, .ref z5, .ref z6, .ref z7, .int 0, .ref z8, .ref z9, .int 0, .int 0, .int 0, .int 0, .ref z10, .int 0, .null, .ref z11, .ref z12])), (a1, .inl (y 0, 3, .inl (fun _ => 0)))] := by rw [← hAe]; exact hD.self
  have hl : lv_has ls 5 [(0, .ref a0), (1, .int 104), (2, .int p0), (3, .int p1)] := hl
  refine lv_iload_n hx hb dX11_rank_0 rfl (lv_at hl 1 rfl) ?_
  refine cS (l := l) (yM := yX11_sideOf) (As := [.int 104]) (rest := []) (wr := [(a0, .inr (13, [.ref a1, .ref z0, .ref z1, .ref z2, .ref z3, .ref z4, .int 45, .ref z5, .ref z6, .ref z7, .int 0, .ref z8, .ref z9, .int 0, .int 0, .int 0, .int 0, .ref z10, .int 0, .null, .ref z11, .ref z12])), (a1, .inl (y 0, 3, .inl (fun _ => 0)))]) hF (c39_X11_sideOf l) gs_RX11_124 1 (by decide +kernel) rfl ⟨(Nat.le_of_ble_eq_true rfl), (Nat.le_of_ble_eq_true rfl)⟩ hl.1 rfl (Nat.le_of_ble_eq_true rfl) dX11_rank_1 ⟨(Nat.le_of_ble_eq_true rfl), (Nat.le_of_ble_eq_true rfl)⟩ hP hD hS (pA hA hS) (fun _ h => h) [] [] [0, 1] rfl rfl rfl rfl rfl (by decide) (fun u_1 H locs hP hD hS => ?_)
  have hP : va_P D vwCl [(a0, .inr (13, [.ref a1, .ref z0, .ref z1, .ref z2, .ref z3, .ref z4, .int 45, .ref z5, .ref z6, .ref z7, .int 0, .ref z8, .ref z9, .int 0, .int 0, .int 0, .int 0, .ref z10, .int 0, .null, .ref z11, .ref z12])), (a1, .inl (y 0, 3, .inl (fun _ => 0)))] H := hP
  have hD : va_D A [(a0, .inr (13, [.ref a1, .ref z0, .ref z1, .ref z2, .ref z3, .ref z4, .int 45, .ref z5, .ref z6, .ref z7, .int 0, .ref z8, .ref z9, .int 0, .int 0, .int 0, .int 0, .ref z10, .int 0, .null, .ref z11, .ref z12])), (a1, .inl (y 0, 3, .inl (fun _ => 0)))] := hD
  refine W.widen (k := 0) (n := 0) (Nat.le_of_ble_eq_true rfl) (Nat.le_of_ble_eq_true rfl) ?_
  refine W.eq (g2 := F0 m 4 ls [.int 1]) rfl ?_
  refine lv_istore (lv' := [(4, .int 1), (0, .ref a0), (1, .int 104), (2, .int p0), (3, .int p1)]) hx hb dX11_rank_4 hl (by decide) rfl (fun ls hl => ?_)
  refine lv_aload_n hx hb dX11_rank_6 rfl (lv_at hl 1 rfl) ?_
  refine lv_iload hx hb dX11_rank_7 (lv_at hl 0 rfl) ?_
  refine lv_if_ge (tgt := 16) hx hb dX11_rank_9 (by decide) (fun _ => ?_) (fun c => absurd (by decide) c)
  refine lv_iconst (v := 0) hx hb dX11_rank_16 (by decide) ?_
  refine lv_aload_n hx hb dX11_rank_17 rfl (lv_at hl 1 rfl) ?_
  refine lv_iload hx hb dX11_rank_18 (lv_at hl 0 rfl) ?_
  refine lv_iload_n hx hb dX11_rank_20 rfl (lv_at hl 3 rfl) ?_
  refine cV (l := l) (yM := yX11_isOne) (C := RX11) (As := [.int 1, .int p0]) (rest := [.int 0, .ref a0]) (wr := [(a0, .inr (13, [.ref a1, .ref z0, .ref z1, .ref z2, .ref z3, .ref z4, .int 45, .ref z5, .ref z6, .ref z7, .int 0, .ref z8, .ref z9, .int 0, .int 0, .int 0, .int 0, .ref z10, .int 0, .null, .ref z11, .ref z12])), (a1, .inl (y 0, 3, .inl (fun _ => 0)))]) hF (c129_X11_isOne l a0 a1 z0 z1 z2 z3 z4 z5 z6 z7 z8 z9 z10 z11 z12 p0) gv_RX11_155 2 (by decide +kernel) rfl ⟨(Nat.le_of_ble_eq_true rfl), (Nat.le_of_ble_eq_true rfl)⟩ hl.1 rfl (Nat.le_of_ble_eq_true rfl) dX11_rank_21 ⟨(Nat.le_of_ble_eq_true rfl), (Nat.le_of_ble_eq_true rfl)⟩ hP hD hS (pA hA hS) (fun _ h => h) [0, 1] [] [0, 1] rfl rfl rfl rfl rfl (by decide) 0 (ci := 13) rfl rfl rfl (fun u_2 H locs hP hD hS => ?_)
  have hP : va_P D vwCl [(a0, .inr (13, [.ref a1, .ref z0, .ref z1, .ref z2, .ref z3, .ref z4, .int 45, .ref z5, .ref z6, .ref z7, .int 0, .ref z8, .ref z9, .int 0, .int 0, .int 0, .int 0, .ref z10, .int 0, .null, .ref z11, .ref z12])), (a1, .inl (y 0, 3, .inl (fun _ => 0)))] H := hP
  have hD : va_D A [(a0, .inr (13, [.ref a1, .ref z0, .ref z1, .ref z2, .ref z3, .ref z4, .int 45, .ref z5, .ref z6, .ref z7, .int 0, .ref z8, .ref z9, .int 0, .int 0, .int 0, .int 0, .ref z10, .int 0, .null, .ref z11, .ref z12])), (a1, .inl (y 0, 3, .inl (fun _ => 0)))] := hD
  refine W.widen (k := 0) (n := 0) (Nat.le_of_ble_eq_true rfl) (Nat.le_of_ble_eq_true rfl) ?_
  refine W.eq (g2 := F0 m 24 ls [.int 0, .int 0, .ref a0]) rfl ?_
  refine lv_if_ne (tgt := 31) hx hb dX11_rank_24 (by decide) (fun c => absurd (by decide) c) (fun _ => ?_)
  refine lv_iconst (v := 1) hx hb dX11_rank_27 (by decide) ?_
  refine lv_goto (tgt := 32) hx hb dX11_rank_28 (by decide) ?_
  refine lv_iconst (v := 0) hx hb dX11_rank_32 (by decide) ?_
  refine cV (l := l) (yM := yX11_fails) (C := RX11) (As := [.int 0, .int 1, .int 0]) (rest := []) (wr := [(a1, .inl (y 0, 3, .inl (fun _ => 0)))]) hF (c123_X11_fails l a0 a1 z0 z1 z2 z3 z4 z5 z6 z7 z8 z9 z10 z11 z12) gv_RX11_128 3 (by decide +kernel) rfl ⟨(Nat.le_of_ble_eq_true rfl), (Nat.le_of_ble_eq_true rfl)⟩ hl.1 rfl (Nat.le_of_ble_eq_true rfl) dX11_rank_33 ⟨(Nat.le_of_ble_eq_true rfl), (Nat.le_of_ble_eq_true rfl)⟩ hP hD hS (va_free (wc := [(a0, .inr (13, [.ref a1, .ref z0, .ref z1, .ref z2, .ref z3, .ref z4, .int 45, .ref z5, .ref z6, .ref z7, .int 0, .ref z8, .ref z9, .int 0, .int 0, .int 0, .int 0, .ref z10, .int 0, .null, .ref z11, .ref z12]))]) hD hS hA [0] rfl) (fun _ h => h) [0] [0] [1] rfl rfl rfl rfl rfl (by decide) 0 (ci := 13) rfl rfl rfl (fun u_3 H locs hP hD hS => ?_)
  have hP : va_P D vwCl [(a1, .inl (y 0, 3, .inl (fun _ => 0))), (a0, .inr (13, [.ref a1, .ref z0, .ref z1, .ref z2, .ref z3, .ref z4, .int 45, .ref z5, .ref z6, .ref z7, .int 0, .ref z8, .ref z9, .int 0, .int 0, .int 2, .int 0, .ref z10, .int 0, .null, .ref z11, .ref z12]))] H := hP
  have hD : va_D A [(a1, .inl (y 0, 3, .inl (fun _ => 0))), (a0, .inr (13, [.ref a1, .ref z0, .ref z1, .ref z2, .ref z3, .ref z4, .int 45, .ref z5, .ref z6, .ref z7, .int 0, .ref z8, .ref z9, .int 0, .int 0, .int 2, .int 0, .ref z10, .int 0, .null, .ref z11, .ref z12]))] := hD
  refine W.widen (k := 0) (n := 0) (Nat.le_of_ble_eq_true rfl) (Nat.le_of_ble_eq_true rfl) ?_
  refine W.eq (g2 := F0 m 36 ls [.int 1]) rfl ?_
  refine lv_if_eq (tgt := 43) hx hb dX11_rank_36 (by decide) (fun c => absurd c (by decide)) (fun _ => ?_)
  refine lv_iconst (v := 0) hx hb dX11_rank_39 (by decide) ?_
  refine lv_goto (tgt := 51) hx hb dX11_rank_40 (by decide) ?_
  exact e_i hF hr (Nat.le_of_ble_eq_true rfl) (Nat.le_of_ble_eq_true rfl) hS (qg_end hS (fun _ => 0) rfl [1, 0] hP rfl (hD.sub [1, 0] rfl rfl)) dX11_rank_51

set_option maxHeartbeats 4000000 in
set_option maxRecDepth 100000 in
theorem c171_X10_rank (l : Launch) (hlt : l.stackTraces = false) (a0 : Nat) (a1 : Nat) (z0 : Nat) (z1 : Nat) (z2 : Nat) (z3 : Nat) (z4 : Nat) (z5 : Nat) (z6 : Nat) (z7 : Nat) (z8 : Nat) (z9 : Nat) (z10 : Nat) (z11 : Nat) (z12 : Nat) (z13 : Nat) (z14 : Nat) (z15 : Nat) (z16 : Nat) (p0 : Int32) (p1 : Int32) : CX l (.code yX10_rank cX10_rank 4 (some .int)) yX10_rank { frames := 7, cells := 1, slots := 6, locals := 113 } [.ref a0, .int 109, .int p0, .int p1] (fun y => [(a0, .inr (12, [.ref z0, .ref a1, .ref z1, .ref z2, .ref z3, .ref z4, .ref z5, .ref z6, .ref z7, .ref z8, .ref z9, .ref z10, .ref z11, .ref z12, .ref z13])), (a1, .inr (4, [.int 0, .ref z14, .ref z15, .ref z16]))]) (fun _ => []) "java/util/NoSuchElementException" := by
  refine mkX (by decide) (Nat.le_of_ble_eq_true rfl) ?_
  intro p e s m args below meth c D y A ls hF htb hAe hP hD hS hl
  have hF : FX p e s m args meth c cX10_rank 4 RX10 "rank" D y A := hF
  obtain ⟨⟨hx, hb, hml, hown, hts⟩, hev, heh, hA, hlk, hnm⟩ := id hF
  have hK := hev.1
  have hP : va_P D vwCl [(a0, .inr (12, [.ref z0, .ref a1, .ref z1, .ref z2, .ref z3, .ref z4, .ref z5, .ref z6, .ref z7, .ref z8, .ref z9, .ref z10, .ref z11, .ref z12, .ref z13])), (a1, .inr (4, [.int 0, .ref z14, .ref z15, .ref z16]))] s.heap := hP
  have hD : va_D (fun _ => True) [(a0, .inr (12, [.ref z0, .ref a1, .ref z1, .ref z2, .ref z3, .ref z4, .ref z5, .ref z6, .ref z7, .ref z8, .ref z9, .ref z10, .ref z11, .ref z12, .ref z13])), (a1, .inr (4, [.int 0, .ref z14, .ref z15, .ref z16]))] := hD
  have hl : lv_has ls 4 [(0, .ref a0), (1, .int 109), (2, .int p0), (3, .int p1)] := hl
  refine lv_aload_n hx hb dX10_rank_0 rfl (lv_at hl 0 rfl) ?_
  refine lv_iload_n hx hb dX10_rank_1 rfl (lv_at hl 1 rfl) ?_
  refine lv_iload_n hx hb dX10_rank_2 rfl (lv_at hl 2 rfl) ?_
  exact xV (l := l) (yM := yX10_needOne) (C := RX10) (As := [.int 109, .int p0]) (rest := []) hF htb (c131_X10_needOne l hlt a0 a1 z0 z1 z2 z3 z4 z5 z6 z7 z8 z9 z10 z11 z12 z13 z14 z15 z16 p0) gv_RX10_161 2 (by decide +kernel) rfl ⟨(Nat.le_of_ble_eq_true rfl), (Nat.le_of_ble_eq_true rfl)⟩ hl.1 rfl (Nat.le_of_ble_eq_true rfl) dX10_rank_3 ⟨(Nat.le_of_ble_eq_true rfl), (Nat.le_of_ble_eq_true rfl)⟩ hP hD hS (pA hA hS) [0, 1] rfl rfl 0 (ci := 12) rfl rfl rfl ⟨(Nat.le_of_ble_eq_true rfl), (Nat.le_of_ble_eq_true rfl)⟩

set_option maxHeartbeats 4000000 in
set_option maxRecDepth 100000 in
theorem c171_L_rank (l : Launch) (hlt : l.stackTraces = false) (a0 : Nat) (a1 : Nat) (z0 : Nat) (z1 : Nat) (z2 : Nat) (z3 : Nat) (z4 : Nat) (z5 : Nat) (z6 : Nat) (z7 : Nat) (z8 : Nat) (z9 : Nat) (z10 : Nat) (z11 : Nat) (z12 : Nat) (z13 : Nat) (z14 : Nat) (z15 : Nat) (z16 : Nat) (p0 : Int32) (p1 : Int32) (z17 : Nat) : CT l (.codeWith yL_rank cL_rank 6 (some .int) [(0, 12, 15, 13), (0, 12, 19, 24)]) yL_rank { frames := 8, cells := 1, slots := 6, locals := 136 } [.ref a0, .int 109, .int p0, .int p1, .ref z17] (fun y => [(a0, .inr (12, [.ref z0, .ref a1, .ref z1, .ref z2, .ref z3, .ref z4, .ref z5, .ref z6, .ref z7, .ref z8, .ref z9, .ref z10, .ref z11, .ref z12, .ref z13])), (a1, .inr (4, [.int 0, .ref z14, .ref z15, .ref z16]))]) (fun _ => []) (fun u => some (.int 2)) (fun y u => []) := by
  refine mkH (by decide) (Nat.le_of_ble_eq_true rfl) ?_
  intro p e s m args below meth c D y A ls hF htab hr hAe hP hD hS hl
  have hF : FX p e s m args meth c cL_rank 6 RL "rank" D y A := hF
  obtain ⟨⟨hx, hb, hml, hown, hts⟩, hev, heh, hA, hlk, hnm⟩ := id hF
  have hK := hev.1
  have hP : va_P D vwCl [(a0, .inr (12, [.ref z0, .ref a1, .ref z1, .ref z2, .ref z3, .ref z4, .ref z5, .ref z6, .ref z7, .ref z8, .ref z9, .ref z10, .ref z11, .ref z12, .ref z13])), (a1, .inr (4, [.int 0, .ref z14, .ref z15, .ref z16]))] s.heap := hP
  have hD : va_D (fun _ => True) [(a0, .inr (12, [.ref z0, .ref a1, .ref z1, .ref z2, .ref z3, .ref z4, .ref z5, .ref z6, .ref z7, .ref z8, .ref z9, .ref z10, .ref z11, .ref z12, .ref z13])), (a1, .inr (4, [.int 0, .ref z14, .ref z15, .ref z16]))] := hD
  have hl : lv_has ls 6 [(0, .ref a0), (1, .int 109), (2, .int p0), (3, .int p1), (4, .ref z17)] := hl
  refine lv_aload hx hb dL_rank_0 (lv_at hl 4 rfl) ?_
  refine lv_iconst (v := 0) hx hb dL_rank_2 (by decide) ?_
  refine lv_aload_n hx hb dL_rank_3 rfl (lv_at hl 0 rfl) ?_
  refine lv_iload_n hx hb dL_rank_4 rfl (lv_at hl 1 rfl) ?_
  refine lv_iload_n hx hb dL_rank_5 rfl (lv_at hl 2 rfl) ?_
  refine lv_iload_n hx hb dL_rank_6 rfl (lv_at hl 3 rfl) ?_
  refine hV (wr := [(a0, .inr (12, [.ref z0, .ref a1, .ref z1, .ref z2, .ref z3, .ref z4, .ref z5, .ref z6, .ref z7, .ref z8, .ref z9, .ref z10, .ref z11, .ref z12, .ref z13])), (a1, .inr (4, [.int 0, .ref z14, .ref z15, .ref z16]))]) (name := "java/util/NoSuchElementException") (E0 := "java/util/NoSuchElementException") (l := l) (yM := yX10_rank) (C := RX10) (As := [.int 109, .int p0, .int p1]) (rest := [.int 0, .ref z17]) hF (c171_X10_rank l hlt a0 a1 z0 z1 z2 z3 z4 z5 z6 z7 z8 z9 z10 z11 z12 z13 z14 z15 z16 p0 p1) gv_RL_49 3 (by decide +kernel) rfl ⟨(Nat.le_of_ble_eq_true rfl), (Nat.le_of_ble_eq_true rfl)⟩ hl.1 rfl (Nat.le_of_ble_eq_true rfl) dL_rank_7 ⟨(Nat.le_of_ble_eq_true rfl), (Nat.le_of_ble_eq_true rfl)⟩ hP hD hS (pA hA hS) (fun _ _ => trivial) [0, 1] [] [0, 1] rfl rfl rfl rfl rfl (by decide) 0 (ci := 12) rfl rfl rfl [⟨0, 12, 15, 13⟩] ⟨0, 12, 19, 24⟩ [] htab (List.forall_mem_cons.mpr ⟨Or.inr ⟨by decide, "java/lang/IllegalArgumentException", wd_235, List.mem_of_getElem? (i := 0) rfl⟩, (fun z hz => nomatch hz)⟩) (by decide) (by decide) wd_261 (by decide) (fun q9 H locs hP hD hS => ?_)
  have hP : va_P D vwCl [(a0, .inr (12, [.ref z0, .ref a1, .ref z1, .ref z2, .ref z3, .ref z4, .ref z5, .ref z6, .ref z7, .ref z8, .ref z9, .ref z10, .ref z11, .ref z12, .ref z13])), (a1, .inr (4, [.int 0, .ref z14, .ref z15, .ref z16]))] H := hP
  have hD : va_D (fun _ => True) [(a0, .inr (12, [.ref z0, .ref a1, .ref z1, .ref z2, .ref z3, .ref z4, .ref z5, .ref z6, .ref z7, .ref z8, .ref z9, .ref z10, .ref z11, .ref z12, .ref z13])), (a1, .inr (4, [.int 0, .ref z14, .ref z15, .ref z16]))] := hD
  refine W.widen (k := 1) (n := 6) (Nat.le_of_ble_eq_true rfl) (Nat.le_of_ble_eq_true rfl) ?_
  refine W.eq (g2 := F0 m 19 ls [.ref q9]) rfl ?_
  refine lv_astore (lv' := [(5, .ref q9), (0, .ref a0), (1, .int 109), (2, .int p0), (3, .int p1), (4, .ref z17)]) hx hb dL_rank_19 hl (by decide) rfl (fun ls hl => ?_)
  refine lv_iconst (v := 2) hx hb dL_rank_21 (by decide) ?_
  exact e_i hF hr (Nat.le_of_ble_eq_true rfl) (Nat.le_of_ble_eq_true rfl) hS (qg_end hS (fun _ => 0) rfl [] hP rfl d_nil) dL_rank_22

set_option maxHeartbeats 4000000 in
set_option maxRecDepth 100000 in
theorem c173_X11_rank (l : Launch) (a0 : Nat) (a1 : Nat) (z0 : Nat) (z1 : Nat) (z2 : Nat) (z3 : Nat) (z4 : Nat) (z5 : Nat) (z6 : Nat) (z7 : Nat) (z8 : Nat) (z9 : Nat) (z10 : Nat) (z11 : Nat) (z12 : Nat) (p0 : Int32) (p1 : Int32) : CT l (.code yX11_rank cX11_rank 5 (some .int)) yX11_rank { frames := 5, cells := 0, slots := 0, locals := 111 } [.ref a0, .int 109, .int p0, .int p1] (fun y => [(a0, .inr (13, [.ref a1, .ref z0, .ref z1, .ref z2, .ref z3, .ref z4, .int 45, .ref z5, .ref z6, .ref z7, .int 0, .ref z8, .ref z9, .int 0, .int 0, .int 0, .int 0, .ref z10, .int 0, .null, .ref z11, .ref z12])), (a1, .inl (y 0, 3, .inl (fun _ => 0)))]) (fun y => [(a0, .inr (13, [.ref a1, .ref z0, .ref z1, .ref z2, .ref z3, .ref z4, .int 45, .ref z5, .ref z6, .ref z7, .int 0, .ref z8, .ref z9, .int 0, .int 0, .int 0, .int 0, .ref z10, .int 0, .null, .ref z11, .ref z12])), (a1, .inl (y 0, 3, .inl (fun _ => 0)))]) (fun u => some (.int 0)) (fun y u => [(a0, .inr (13, [.ref a1, .ref z0, .ref z1, .ref z2, .ref z3, .ref z4, .int 45, .ref z5, .ref z6, .ref z7, .int 0, .ref z8, .ref z9, .int 0, .int 0, .int 2, .int 0, .ref z10, .int 0, .null, .ref z11, .ref z12])), (a1, .inl (y 0, 3, .inl (fun _ => 0)))]) := by
  refine mkM (by decide) (Nat.le_of_ble_eq_true rfl) ?_
  intro p e s m args below meth c D y A ls hF hr hAe hP hD hS hl
  have hF : FX p e s m args meth c cX11_rank 5 RX11 "rank" D y A := hF
  obtain ⟨⟨hx, hb, hml, hown, hts⟩, hev, heh, hA, hlk, hnm⟩ := id hF
  have hK := hev.1
  have hP : va_P D vwCl [(a0, .inr (13, [.ref a1, .ref z0, .ref z1, .ref z2, .ref z3, .ref z4, .int 45, .ref z5, .ref z6, .ref z7, .int 0, .ref z8, .ref z9, .int 0, .int 0, .int 0, .int 0, .ref z10, .int 0, .null, .ref z11, .ref z12])), (a1, .inl (y 0, 3, .inl (fun _ => 0)))] s.heap := hP
  have hD : va_D A [(a0, .inr (13, [.ref a1, .ref z0, .ref z1, .ref z2, .ref z3, .ref z4, .int 45, .ref z5, .ref z6, .ref z7, .int 0, .ref z8, .ref z9, .int 0, .int 0, .int 0, .int 0, .ref z10, .int 0, .null, .ref z11, .ref z12])), (a1, .inl (y 0, 3, .inl (fun _ => 0)))] := by rw [← hAe]; exact hD.self
  have hl : lv_has ls 5 [(0, .ref a0), (1, .int 109), (2, .int p0), (3, .int p1)] := hl
  refine lv_iload_n hx hb dX11_rank_0 rfl (lv_at hl 1 rfl) ?_
  refine cS (l := l) (yM := yX11_sideOf) (As := [.int 109]) (rest := []) (wr := [(a0, .inr (13, [.ref a1, .ref z0, .ref z1, .ref z2, .ref z3, .ref z4, .int 45, .ref z5, .ref z6, .ref z7, .int 0, .ref z8, .ref z9, .int 0, .int 0, .int 0, .int 0, .ref z10, .int 0, .null, .ref z11, .ref z12])), (a1, .inl (y 0, 3, .inl (fun _ => 0)))]) hF (c49_X11_sideOf l) gs_RX11_124 1 (by decide +kernel) rfl ⟨(Nat.le_of_ble_eq_true rfl), (Nat.le_of_ble_eq_true rfl)⟩ hl.1 rfl (Nat.le_of_ble_eq_true rfl) dX11_rank_1 ⟨(Nat.le_of_ble_eq_true rfl), (Nat.le_of_ble_eq_true rfl)⟩ hP hD hS (pA hA hS) (fun _ h => h) [] [] [0, 1] rfl rfl rfl rfl rfl (by decide) (fun u_1 H locs hP hD hS => ?_)
  have hP : va_P D vwCl [(a0, .inr (13, [.ref a1, .ref z0, .ref z1, .ref z2, .ref z3, .ref z4, .int 45, .ref z5, .ref z6, .ref z7, .int 0, .ref z8, .ref z9, .int 0, .int 0, .int 0, .int 0, .ref z10, .int 0, .null, .ref z11, .ref z12])), (a1, .inl (y 0, 3, .inl (fun _ => 0)))] H := hP
  have hD : va_D A [(a0, .inr (13, [.ref a1, .ref z0, .ref z1, .ref z2, .ref z3, .ref z4, .int 45, .ref z5, .ref z6, .ref z7, .int 0, .ref z8, .ref z9, .int 0, .int 0, .int 0, .int 0, .ref z10, .int 0, .null, .ref z11, .ref z12])), (a1, .inl (y 0, 3, .inl (fun _ => 0)))] := hD
  refine W.widen (k := 0) (n := 0) (Nat.le_of_ble_eq_true rfl) (Nat.le_of_ble_eq_true rfl) ?_
  refine W.eq (g2 := F0 m 4 ls [.int 2]) rfl ?_
  refine lv_istore (lv' := [(4, .int 2), (0, .ref a0), (1, .int 109), (2, .int p0), (3, .int p1)]) hx hb dX11_rank_4 hl (by decide) rfl (fun ls hl => ?_)
  refine lv_aload_n hx hb dX11_rank_6 rfl (lv_at hl 1 rfl) ?_
  refine lv_iload hx hb dX11_rank_7 (lv_at hl 0 rfl) ?_
  refine lv_if_ge (tgt := 16) hx hb dX11_rank_9 (by decide) (fun _ => ?_) (fun c => absurd (by decide) c)
  refine lv_iconst (v := 0) hx hb dX11_rank_16 (by decide) ?_
  refine lv_aload_n hx hb dX11_rank_17 rfl (lv_at hl 1 rfl) ?_
  refine lv_iload hx hb dX11_rank_18 (lv_at hl 0 rfl) ?_
  refine lv_iload_n hx hb dX11_rank_20 rfl (lv_at hl 3 rfl) ?_
  refine cV (l := l) (yM := yX11_isOne) (C := RX11) (As := [.int 2, .int p0]) (rest := [.int 0, .ref a0]) (wr := [(a0, .inr (13, [.ref a1, .ref z0, .ref z1, .ref z2, .ref z3, .ref z4, .int 45, .ref z5, .ref z6, .ref z7, .int 0, .ref z8, .ref z9, .int 0, .int 0, .int 0, .int 0, .ref z10, .int 0, .null, .ref z11, .ref z12])), (a1, .inl (y 0, 3, .inl (fun _ => 0)))]) hF (c134_X11_isOne l a0 a1 z0 z1 z2 z3 z4 z5 z6 z7 z8 z9 z10 z11 z12 p0) gv_RX11_155 2 (by decide +kernel) rfl ⟨(Nat.le_of_ble_eq_true rfl), (Nat.le_of_ble_eq_true rfl)⟩ hl.1 rfl (Nat.le_of_ble_eq_true rfl) dX11_rank_21 ⟨(Nat.le_of_ble_eq_true rfl), (Nat.le_of_ble_eq_true rfl)⟩ hP hD hS (pA hA hS) (fun _ h => h) [0, 1] [] [0, 1] rfl rfl rfl rfl rfl (by decide) 0 (ci := 13) rfl rfl rfl (fun u_2 H locs hP hD hS => ?_)
  have hP : va_P D vwCl [(a0, .inr (13, [.ref a1, .ref z0, .ref z1, .ref z2, .ref z3, .ref z4, .int 45, .ref z5, .ref z6, .ref z7, .int 0, .ref z8, .ref z9, .int 0, .int 0, .int 0, .int 0, .ref z10, .int 0, .null, .ref z11, .ref z12])), (a1, .inl (y 0, 3, .inl (fun _ => 0)))] H := hP
  have hD : va_D A [(a0, .inr (13, [.ref a1, .ref z0, .ref z1, .ref z2, .ref z3, .ref z4, .int 45, .ref z5, .ref z6, .ref z7, .int 0, .ref z8, .ref z9, .int 0, .int 0, .int 0, .int 0, .ref z10, .int 0, .null, .ref z11, .ref z12])), (a1, .inl (y 0, 3, .inl (fun _ => 0)))] := hD
  refine W.widen (k := 0) (n := 0) (Nat.le_of_ble_eq_true rfl) (Nat.le_of_ble_eq_true rfl) ?_
  refine W.eq (g2 := F0 m 24 ls [.int 0, .int 0, .ref a0]) rfl ?_
  refine lv_if_ne (tgt := 31) hx hb dX11_rank_24 (by decide) (fun c => absurd (by decide) c) (fun _ => ?_)
  refine lv_iconst (v := 1) hx hb dX11_rank_27 (by decide) ?_
  refine lv_goto (tgt := 32) hx hb dX11_rank_28 (by decide) ?_
  refine lv_iconst (v := 0) hx hb dX11_rank_32 (by decide) ?_
  refine cV (l := l) (yM := yX11_fails) (C := RX11) (As := [.int 0, .int 1, .int 0]) (rest := []) (wr := [(a1, .inl (y 0, 3, .inl (fun _ => 0)))]) hF (c123_X11_fails l a0 a1 z0 z1 z2 z3 z4 z5 z6 z7 z8 z9 z10 z11 z12) gv_RX11_128 3 (by decide +kernel) rfl ⟨(Nat.le_of_ble_eq_true rfl), (Nat.le_of_ble_eq_true rfl)⟩ hl.1 rfl (Nat.le_of_ble_eq_true rfl) dX11_rank_33 ⟨(Nat.le_of_ble_eq_true rfl), (Nat.le_of_ble_eq_true rfl)⟩ hP hD hS (va_free (wc := [(a0, .inr (13, [.ref a1, .ref z0, .ref z1, .ref z2, .ref z3, .ref z4, .int 45, .ref z5, .ref z6, .ref z7, .int 0, .ref z8, .ref z9, .int 0, .int 0, .int 0, .int 0, .ref z10, .int 0, .null, .ref z11, .ref z12]))]) hD hS hA [0] rfl) (fun _ h => h) [0] [0] [1] rfl rfl rfl rfl rfl (by decide) 0 (ci := 13) rfl rfl rfl (fun u_3 H locs hP hD hS => ?_)
  have hP : va_P D vwCl [(a1, .inl (y 0, 3, .inl (fun _ => 0))), (a0, .inr (13, [.ref a1, .ref z0, .ref z1, .ref z2, .ref z3, .ref z4, .int 45, .ref z5, .ref z6, .ref z7, .int 0, .ref z8, .ref z9, .int 0, .int 0, .int 2, .int 0, .ref z10, .int 0, .null, .ref z11, .ref z12]))] H := hP
  have hD : va_D A [(a1, .inl (y 0, 3, .inl (fun _ => 0))), (a0, .inr (13, [.ref a1, .ref z0, .ref z1, .ref z2, .ref z3, .ref z4, .int 45, .ref z5, .ref z6, .ref z7, .int 0, .ref z8, .ref z9, .int 0, .int 0, .int 2, .int 0, .ref z10, .int 0, .null, .ref z11, .ref z12]))] := hD
  refine W.widen (k := 0) (n := 0) (Nat.le_of_ble_eq_true rfl) (Nat.le_of_ble_eq_true rfl) ?_
  refine W.eq (g2 := F0 m 36 ls [.int 1]) rfl ?_
  refine lv_if_eq (tgt := 43) hx hb dX11_rank_36 (by decide) (fun c => absurd c (by decide)) (fun _ => ?_)
  refine lv_iconst (v := 0) hx hb dX11_rank_39 (by decide) ?_
  refine lv_goto (tgt := 51) hx hb dX11_rank_40 (by decide) ?_
  exact e_i hF hr (Nat.le_of_ble_eq_true rfl) (Nat.le_of_ble_eq_true rfl) hS (qg_end hS (fun _ => 0) rfl [1, 0] hP rfl (hD.sub [1, 0] rfl rfl)) dX11_rank_51

set_option maxHeartbeats 4000000 in
set_option maxRecDepth 100000 in
theorem c174_X10_rank (l : Launch) (hlt : l.stackTraces = false) (a0 : Nat) (z0 : Nat) (z1 : Nat) (z2 : Nat) (z3 : Nat) (z4 : Nat) (z5 : Nat) (z6 : Nat) (z7 : Nat) (z8 : Nat) (z9 : Nat) (z10 : Nat) (z11 : Nat) (z12 : Nat) (z13 : Nat) (z14 : Nat) (p0 : Int32) (p1 : Int32) (p2 : Int32) (f0 : ¬ p0 = 112) (f1 : ¬ p0 = 104) (f2 : ¬ p0 = 109) : CX l (.code yX10_rank cX10_rank 4 (some .int)) yX10_rank { frames := 8, cells := 1, slots := 6, locals := 134 } [.ref a0, .int p0, .int p1, .int p2] (fun y => [(a0, .inr (12, [.ref z0, .ref z1, .ref z2, .ref z3, .ref z4, .ref z5, .ref z6, .ref z7, .ref z8, .ref z9, .ref z10, .ref z11, .ref z12, .ref z13, .ref z14]))]) (fun _ => []) "java/lang/IllegalArgumentException" := by
  refine mkX (by decide) (Nat.le_of_ble_eq_true rfl) ?_
  intro p e s m args below meth c D y A ls hF htb hAe hP hD hS hl
  have hF : FX p e s m args meth c cX10_rank 4 RX10 "rank" D y A := hF
  obtain ⟨⟨hx, hb, hml, hown, hts⟩, hev, heh, hA, hlk, hnm⟩ := id hF
  have hK := hev.1
  have hP : va_P D vwCl [(a0, .inr (12, [.ref z0, .ref z1, .ref z2, .ref z3, .ref z4, .ref z5, .ref z6, .ref z7, .ref z8, .ref z9, .ref z10, .ref z11, .ref z12, .ref z13, .ref z14]))] s.heap := hP
  have hD : va_D (fun _ => True) [(a0, .inr (12, [.ref z0, .ref z1, .ref z2, .ref z3, .ref z4, .ref z5, .ref z6, .ref z7, .ref z8, .ref z9, .ref z10, .ref z11, .ref z12, .ref z13, .ref z14]))] := hD
  have hl : lv_has ls 4 [(0, .ref a0), (1, .int p0), (2, .int p1), (3, .int p2)] := hl
  refine lv_aload_n hx hb dX10_rank_0 rfl (lv_at hl 0 rfl) ?_
  refine lv_iload_n hx hb dX10_rank_1 rfl (lv_at hl 1 rfl) ?_
  refine lv_iload_n hx hb dX10_rank_2 rfl (lv_at hl 2 rfl) ?_
  exact xV (l := l) (yM := yX10_needOne) (C := RX10) (As := [.int p0, .int p1]) (rest := []) hF htb (c136_X10_needOne l hlt a0 z0 z1 z2 z3 z4 z5 z6 z7 z8 z9 z10 z11 z12 z13 z14 p0 p1 f0 f1 f2) gv_RX10_161 2 (by decide +kernel) rfl ⟨(Nat.le_of_ble_eq_true rfl), (Nat.le_of_ble_eq_true rfl)⟩ hl.1 rfl (Nat.le_of_ble_eq_true rfl) dX10_rank_3 ⟨(Nat.le_of_ble_eq_true rfl), (Nat.le_of_ble_eq_true rfl)⟩ hP hD hS (pA hA hS) [0] rfl rfl 0 (ci := 12) rfl rfl rfl ⟨(Nat.le_of_ble_eq_true rfl), (Nat.le_of_ble_eq_true rfl)⟩

set_option maxHeartbeats 4000000 in
set_option maxRecDepth 100000 in
theorem c174_L_rank (l : Launch) (hlt : l.stackTraces = false) (a0 : Nat) (z0 : Nat) (z1 : Nat) (z2 : Nat) (z3 : Nat) (z4 : Nat) (z5 : Nat) (z6 : Nat) (z7 : Nat) (z8 : Nat) (z9 : Nat) (z10 : Nat) (z11 : Nat) (z12 : Nat) (z13 : Nat) (z14 : Nat) (p0 : Int32) (p1 : Int32) (p2 : Int32) (z15 : Nat) (f0 : ¬ p0 = 112) (f1 : ¬ p0 = 104) (f2 : ¬ p0 = 109) : CT l (.codeWith yL_rank cL_rank 6 (some .int) [(0, 12, 15, 13), (0, 12, 19, 24)]) yL_rank { frames := 9, cells := 1, slots := 6, locals := 157 } [.ref a0, .int p0, .int p1, .int p2, .ref z15] (fun y => [(a0, .inr (12, [.ref z0, .ref z1, .ref z2, .ref z3, .ref z4, .ref z5, .ref z6, .ref z7, .ref z8, .ref z9, .ref z10, .ref z11, .ref z12, .ref z13, .ref z14]))]) (fun _ => []) (fun u => some (.int 1)) (fun y u => []) := by
  refine mkH (by decide) (Nat.le_of_ble_eq_true rfl) ?_
  intro p e s m args below meth c D y A ls hF htab hr hAe hP hD hS hl
  have hF : FX p e s m args meth c cL_rank 6 RL "rank" D y A := hF
  obtain ⟨⟨hx, hb, hml, hown, hts⟩, hev, heh, hA, hlk, hnm⟩ := id hF
  have hK := hev.1
  have hP : va_P D vwCl [(a0, .inr (12, [.ref z0, .ref z1, .ref z2, .ref z3, .ref z4, .ref z5, .ref z6, .ref z7, .ref z8, .ref z9, .ref z10, .ref z11, .ref z12, .ref z13, .ref z14]))] s.heap := hP
  have hD : va_D (fun _ => True) [(a0, .inr (12, [.ref z0, .ref z1, .ref z2, .ref z3, .ref z4, .ref z5, .ref z6, .ref z7, .ref z8, .ref z9, .ref z10, .ref z11, .ref z12, .ref z13, .ref z14]))] := hD
  have hl : lv_has ls 6 [(0, .ref a0), (1, .int p0), (2, .int p1), (3, .int p2), (4, .ref z15)] := hl
  refine lv_aload hx hb dL_rank_0 (lv_at hl 4 rfl) ?_
  refine lv_iconst (v := 0) hx hb dL_rank_2 (by decide) ?_
  refine lv_aload_n hx hb dL_rank_3 rfl (lv_at hl 0 rfl) ?_
  refine lv_iload_n hx hb dL_rank_4 rfl (lv_at hl 1 rfl) ?_
  refine lv_iload_n hx hb dL_rank_5 rfl (lv_at hl 2 rfl) ?_
  refine lv_iload_n hx hb dL_rank_6 rfl (lv_at hl 3 rfl) ?_
  refine hV (wr := [(a0, .inr (12, [.ref z0, .ref z1, .ref z2, .ref z3, .ref z4, .ref z5, .ref z6, .ref z7, .ref z8, .ref z9, .ref z10, .ref z11, .ref z12, .ref z13, .ref z14]))]) (name := "java/lang/IllegalArgumentException") (E0 := "java/lang/IllegalArgumentException") (l := l) (yM := yX10_rank) (C := RX10) (As := [.int p0, .int p1, .int p2]) (rest := [.int 0, .ref z15]) hF (c174_X10_rank l hlt a0 z0 z1 z2 z3 z4 z5 z6 z7 z8 z9 z10 z11 z12 z13 z14 p0 p1 p2 f0 f1 f2) gv_RL_49 3 (by decide +kernel) rfl ⟨(Nat.le_of_ble_eq_true rfl), (Nat.le_of_ble_eq_true rfl)⟩ hl.1 rfl (Nat.le_of_ble_eq_true rfl) dL_rank_7 ⟨(Nat.le_of_ble_eq_true rfl), (Nat.le_of_ble_eq_true rfl)⟩ hP hD hS (pA hA hS) (fun _ _ => trivial) [0] [] [0] rfl rfl rfl rfl rfl (by decide) 0 (ci := 12) rfl rfl rfl [] ⟨0, 12, 15, 13⟩ [⟨0, 12, 19, 24⟩] htab (fun z hz => nomatch hz) (by decide) (by decide) wd_235 (by decide) (fun q9 H locs hP hD hS => ?_)
  have hP : va_P D vwCl [(a0, .inr (12, [.ref z0, .ref z1, .ref z2, .ref z3, .ref z4, .ref z5, .ref z6, .ref z7, .ref z8, .ref z9, .ref z10, .ref z11, .ref z12, .ref z13, .ref z14]))] H := hP
  have hD : va_D (fun _ => True) [(a0, .inr (12, [.ref z0, .ref z1, .ref z2, .ref z3, .ref z4, .ref z5, .ref z6, .ref z7, .ref z8, .ref z9, .ref z10, .ref z11, .ref z12, .ref z13, .ref z14]))] := hD
  refine W.widen (k := 1) (n := 6) (Nat.le_of_ble_eq_true rfl) (Nat.le_of_ble_eq_true rfl) ?_
  refine W.eq (g2 := F0 m 15 ls [.ref q9]) rfl ?_
  refine lv_astore (lv' := [(5, .ref q9), (0, .ref a0), (1, .int p0), (2, .int p1), (3, .int p2), (4, .ref z15)]) hx hb dL_rank_15 hl (by decide) rfl (fun ls hl => ?_)
  refine lv_iconst (v := 1) hx hb dL_rank_17 (by decide) ?_
  exact e_i hF hr (Nat.le_of_ble_eq_true rfl) (Nat.le_of_ble_eq_true rfl) hS (qg_end hS (fun _ => 0) rfl [] hP rfl d_nil) dL_rank_18

set_option maxHeartbeats 4000000 in
set_option maxRecDepth 100000 in
theorem c176_X11_rank (l : Launch) (a0 : Nat) (z0 : Nat) (z1 : Nat) (z2 : Nat) (z3 : Nat) (z4 : Nat) (z5 : Nat) (z6 : Nat) (z7 : Nat) (z8 : Nat) (z9 : Nat) (z10 : Nat) (z11 : Nat) (z12 : Nat) (z13 : Nat) (p0 : Int32) (p1 : Int32) (p2 : Int32) (f0 : ¬ p0 = 112) (f1 : ¬ p0 = 104) (f2 : ¬ p0 = 109) : CT l (.code yX11_rank cX11_rank 5 (some .int)) yX11_rank { frames := 5, cells := 0, slots := 0, locals := 111 } [.ref a0, .int p0, .int p1, .int p2] (fun y => [(a0, .inr (13, [.ref z0, .ref z1, .ref z2, .ref z3, .ref z4, .ref z5, .int 45, .ref z6, .ref z7, .ref z8, .int 0, .ref z9, .ref z10, .int 0, .int 0, .int 0, .int 0, .ref z11, .int 0, .null, .ref z12, .ref z13]))]) (fun y => [(a0, .inr (13, [.ref z0, .ref z1, .ref z2, .ref z3, .ref z4, .ref z5, .int 45, .ref z6, .ref z7, .ref z8, .int 0, .ref z9, .ref z10, .int 0, .int 0, .int 0, .int 0, .ref z11, .int 0, .null, .ref z12, .ref z13]))]) (fun u => some (.int 0)) (fun y u => [(a0, .inr (13, [.ref z0, .ref z1, .ref z2, .ref z3, .ref z4, .ref z5, .int 45, .ref z6, .ref z7, .ref z8, .int 0, .ref z9, .ref z10, .int 0, .int 0, .int 1, .int 0, .ref z11, .int 0, .null, .ref z12, .ref z13]))]) := by
  refine mkM (by decide) (Nat.le_of_ble_eq_true rfl) ?_
  intro p e s m args below meth c D y A ls hF hr hAe hP hD hS hl
  have hF : FX p e s m args meth c cX11_rank 5 RX11 "rank" D y A := hF
  obtain ⟨⟨hx, hb, hml, hown, hts⟩, hev, heh, hA, hlk, hnm⟩ := id hF
  have hK := hev.1
  have hP : va_P D vwCl [(a0, .inr (13, [.ref z0, .ref z1, .ref z2, .ref z3, .ref z4, .ref z5, .int 45, .ref z6, .ref z7, .ref z8, .int 0, .ref z9, .ref z10, .int 0, .int 0, .int 0, .int 0, .ref z11, .int 0, .null, .ref z12, .ref z13]))] s.heap := hP
  have hD : va_D A [(a0, .inr (13, [.ref z0, .ref z1, .ref z2, .ref z3, .ref z4, .ref z5, .int 45, .ref z6, .ref z7, .ref z8, .int 0, .ref z9, .ref z10, .int 0, .int 0, .int 0, .int 0, .ref z11, .int 0, .null, .ref z12, .ref z13]))] := by rw [← hAe]; exact hD.self
  have hl : lv_has ls 5 [(0, .ref a0), (1, .int p0), (2, .int p1), (3, .int p2)] := hl
  refine lv_iload_n hx hb dX11_rank_0 rfl (lv_at hl 1 rfl) ?_
  refine cS (l := l) (yM := yX11_sideOf) (As := [.int p0]) (rest := []) (wr := [(a0, .inr (13, [.ref z0, .ref z1, .ref z2, .ref z3, .ref z4, .ref z5, .int 45, .ref z6, .ref z7, .ref z8, .int 0, .ref z9, .ref z10, .int 0, .int 0, .int 0, .int 0, .ref z11, .int 0, .null, .ref z12, .ref z13]))]) hF (c59_X11_sideOf l p0 f0 f1 f2) gs_RX11_124 1 (by decide +kernel) rfl ⟨(Nat.le_of_ble_eq_true rfl), (Nat.le_of_ble_eq_true rfl)⟩ hl.1 rfl (Nat.le_of_ble_eq_true rfl) dX11_rank_1 ⟨(Nat.le_of_ble_eq_true rfl), (Nat.le_of_ble_eq_true rfl)⟩ hP hD hS (pA hA hS) (fun _ h => h) [] [] [0] rfl rfl rfl rfl rfl (by decide) (fun u_1 H locs hP hD hS => ?_)
  have hP : va_P D vwCl [(a0, .inr (13, [.ref z0, .ref z1, .ref z2, .ref z3, .ref z4, .ref z5, .int 45, .ref z6, .ref z7, .ref z8, .int 0, .ref z9, .ref z10, .int 0, .int 0, .int 0, .int 0, .ref z11, .int 0, .null, .ref z12, .ref z13]))] H := hP
  have hD : va_D A [(a0, .inr (13, [.ref z0, .ref z1, .ref z2, .ref z3, .ref z4, .ref z5, .int 45, .ref z6, .ref z7, .ref z8, .int 0, .ref z9, .ref z10, .int 0, .int 0, .int 0, .int 0, .ref z11, .int 0, .null, .ref z12, .ref z13]))] := hD
  refine W.widen (k := 0) (n := 0) (Nat.le_of_ble_eq_true rfl) (Nat.le_of_ble_eq_true rfl) ?_
  refine W.eq (g2 := F0 m 4 ls [.int (-1)]) rfl ?_
  refine lv_istore (lv' := [(4, .int (-1)), (0, .ref a0), (1, .int p0), (2, .int p1), (3, .int p2)]) hx hb dX11_rank_4 hl (by decide) rfl (fun ls hl => ?_)
  refine lv_aload_n hx hb dX11_rank_6 rfl (lv_at hl 1 rfl) ?_
  refine lv_iload hx hb dX11_rank_7 (lv_at hl 0 rfl) ?_
  refine lv_if_ge (tgt := 16) hx hb dX11_rank_9 (by decide) (fun c => absurd c (by decide)) (fun _ => ?_)
  refine lv_iconst (v := 1) hx hb dX11_rank_12 (by decide) ?_
  refine lv_goto (tgt := 17) hx hb dX11_rank_13 (by decide) ?_
  refine lv_aload_n hx hb dX11_rank_17 rfl (lv_at hl 1 rfl) ?_
  refine lv_iload hx hb dX11_rank_18 (lv_at hl 0 rfl) ?_
  refine lv_iload_n hx hb dX11_rank_20 rfl (lv_at hl 3 rfl) ?_
  refine cV (l := l) (yM := yX11_isOne) (C := RX11) (As := [.int (-1), .int p1]) (rest := [.int 1, .ref a0]) (wr := [(a0, .inr (13, [.ref z0, .ref z1, .ref z2, .ref z3, .ref z4, .ref z5, .int 45, .ref z6, .ref z7, .ref z8, .int 0, .ref z9, .ref z10, .int 0, .int 0, .int 0, .int 0, .ref z11, .int 0, .null, .ref z12, .ref z13]))]) hF (c139_X11_isOne l a0 p1) gv_RX11_155 2 (by decide +kernel) rfl ⟨(Nat.le_of_ble_eq_true rfl), (Nat.le_of_ble_eq_true rfl)⟩ hl.1 rfl (Nat.le_of_ble_eq_true rfl) dX11_rank_21 ⟨(Nat.le_of_ble_eq_true rfl), (Nat.le_of_ble_eq_true rfl)⟩ hP hD hS (pA hA hS) (fun _ h => h) [] [] [0] rfl rfl rfl rfl rfl (by decide) 0 (ci := 13) rfl rfl rfl (fun u_2 H locs hP hD hS => ?_)
  have hP : va_P D vwCl [(a0, .inr (13, [.ref z0, .ref z1, .ref z2, .ref z3, .ref z4, .ref z5, .int 45, .ref z6, .ref z7, .ref z8, .int 0, .ref z9, .ref z10, .int 0, .int 0, .int 0, .int 0, .ref z11, .int 0, .null, .ref z12, .ref z13]))] H := hP
  have hD : va_D A [(a0, .inr (13, [.ref z0, .ref z1, .ref z2, .ref z3, .ref z4, .ref z5, .int 45, .ref z6, .ref z7, .ref z8, .int 0, .ref z9, .ref z10, .int 0, .int 0, .int 0, .int 0, .ref z11, .int 0, .null, .ref z12, .ref z13]))] := hD
  refine W.widen (k := 0) (n := 0) (Nat.le_of_ble_eq_true rfl) (Nat.le_of_ble_eq_true rfl) ?_
  refine W.eq (g2 := F0 m 24 ls [.int 0, .int 1, .ref a0]) rfl ?_
  refine lv_if_ne (tgt := 31) hx hb dX11_rank_24 (by decide) (fun c => absurd (by decide) c) (fun _ => ?_)
  refine lv_iconst (v := 1) hx hb dX11_rank_27 (by decide) ?_
  refine lv_goto (tgt := 32) hx hb dX11_rank_28 (by decide) ?_
  refine lv_iconst (v := 0) hx hb dX11_rank_32 (by decide) ?_
  refine cV (l := l) (yM := yX11_fails) (C := RX11) (As := [.int 1, .int 1, .int 0]) (rest := []) (wr := []) hF (c89_X11_fails l a0 z0 z1 z2 z3 z4 z5 z6 z7 z8 z9 z10 z11 z12 z13) gv_RX11_128 3 (by decide +kernel) rfl ⟨(Nat.le_of_ble_eq_true rfl), (Nat.le_of_ble_eq_true rfl)⟩ hl.1 rfl (Nat.le_of_ble_eq_true rfl) dX11_rank_33 ⟨(Nat.le_of_ble_eq_true rfl), (Nat.le_of_ble_eq_true rfl)⟩ hP hD hS (va_free (wc := [(a0, .inr (13, [.ref z0, .ref z1, .ref z2, .ref z3, .ref z4, .ref z5, .int 45, .ref z6, .ref z7, .ref z8, .int 0, .ref z9, .ref z10, .int 0, .int 0, .int 0, .int 0, .ref z11, .int 0, .null, .ref z12, .ref z13]))]) hD hS hA [0] rfl) (fun _ h => h) [0] [0] [] rfl rfl rfl rfl rfl (by decide) 0 (ci := 13) rfl rfl rfl (fun u_3 H locs hP hD hS => ?_)
  have hP : va_P D vwCl [(a0, .inr (13, [.ref z0, .ref z1, .ref z2, .ref z3, .ref z4, .ref z5, .int 45, .ref z6, .ref z7, .ref z8, .int 0, .ref z9, .ref z10, .int 0, .int 0, .int 1, .int 0, .ref z11, .int 0, .null, .ref z12, .ref z13]))] H := hP
  have hD : va_D A [(a0, .inr (13, [.ref z0, .ref z1, .ref z2, .ref z3, .ref z4, .ref z5, .int 45, .ref z6, .ref z7, .ref z8, .int 0, .ref z9, .ref z10, .int 0, .int 0, .int 1, .int 0, .ref z11, .int 0, .null, .ref z12, .ref z13]))] := hD
  refine W.widen (k := 0) (n := 0) (Nat.le_of_ble_eq_true rfl) (Nat.le_of_ble_eq_true rfl) ?_
  refine W.eq (g2 := F0 m 36 ls [.int 1]) rfl ?_
  refine lv_if_eq (tgt := 43) hx hb dX11_rank_36 (by decide) (fun c => absurd c (by decide)) (fun _ => ?_)
  refine lv_iconst (v := 0) hx hb dX11_rank_39 (by decide) ?_
  refine lv_goto (tgt := 51) hx hb dX11_rank_40 (by decide) ?_
  exact e_i hF hr (Nat.le_of_ble_eq_true rfl) (Nat.le_of_ble_eq_true rfl) hS (qg_end hS (fun _ => 0) rfl [0] hP rfl (hD.sub [0] rfl rfl)) dX11_rank_51

set_option maxHeartbeats 4000000 in
set_option maxRecDepth 100000 in
theorem c177_X10_cut (l : Launch) (hlt : l.stackTraces = false) (a0 : Nat) (a1 : Nat) (a2 : Nat) (z0 : Nat) (z1 : Nat) (z2 : Nat) (z3 : Nat) (z4 : Nat) (z5 : Nat) (z6 : Nat) (z7 : Nat) (z8 : Nat) (z9 : Nat) (z10 : Nat) (z11 : Nat) (z12 : Nat) (z13 : Nat) (z14 : Nat) (z15 : Nat) (z16 : Nat) (z17 : Nat) (z18 : Nat) (p0 : Int32) (p1 : Int32) : CX l (.code yX10_cut cX10_cut 6 (some .int)) yX10_cut { frames := 7, cells := 1, slots := 6, locals := 113 } [.ref a0, .int 112, .int p0, .int p1] (fun y => [(a0, .inr (12, [.ref a1, .ref z0, .ref z1, .ref z2, .ref z3, .ref z4, .ref z5, .ref z6, .ref z7, .ref z8, .ref z9, .ref z10, .ref z11, .ref z12, .ref z13])), (a1, .inr (5, [.ref a2, .ref z14, .ref z15])), (a2, .inr (4, [.int 0, .ref z16, .ref z17, .ref z18]))]) (fun _ => []) "java/util/NoSuchElementException" := by
  refine mkX (by decide) (Nat.le_of_ble_eq_true rfl) ?_
  intro p e s m args below meth c D y A ls hF htb hAe hP hD hS hl
  have hF : FX p e s m args meth c cX10_cut 6 RX10 "cut" D y A := hF
  obtain ⟨⟨hx, hb, hml, hown, hts⟩, hev, heh, hA, hlk, hnm⟩ := id hF
  have hK := hev.1
  have hP : va_P D vwCl [(a0, .inr (12, [.ref a1, .ref z0, .ref z1, .ref z2, .ref z3, .ref z4, .ref z5, .ref z6, .ref z7, .ref z8, .ref z9, .ref z10, .ref z11, .ref z12, .ref z13])), (a1, .inr (5, [.ref a2, .ref z14, .ref z15])), (a2, .inr (4, [.int 0, .ref z16, .ref z17, .ref z18]))] s.heap := hP
  have hD : va_D (fun _ => True) [(a0, .inr (12, [.ref a1, .ref z0, .ref z1, .ref z2, .ref z3, .ref z4, .ref z5, .ref z6, .ref z7, .ref z8, .ref z9, .ref z10, .ref z11, .ref z12, .ref z13])), (a1, .inr (5, [.ref a2, .ref z14, .ref z15])), (a2, .inr (4, [.int 0, .ref z16, .ref z17, .ref z18]))] := hD
  have hl : lv_has ls 6 [(0, .ref a0), (1, .int 112), (2, .int p0), (3, .int p1)] := hl
  refine lv_aload_n hx hb dX10_cut_0 rfl (lv_at hl 0 rfl) ?_
  refine lv_iload_n hx hb dX10_cut_1 rfl (lv_at hl 1 rfl) ?_
  refine lv_iload_n hx hb dX10_cut_2 rfl (lv_at hl 2 rfl) ?_
  exact xV (l := l) (yM := yX10_needOne) (C := RX10) (As := [.int 112, .int p0]) (rest := []) hF htb (c119_X10_needOne l hlt a0 a1 a2 z0 z1 z2 z3 z4 z5 z6 z7 z8 z9 z10 z11 z12 z13 z14 z15 z16 z17 z18 p0) gv_RX10_161 2 (by decide +kernel) rfl ⟨(Nat.le_of_ble_eq_true rfl), (Nat.le_of_ble_eq_true rfl)⟩ hl.1 rfl (Nat.le_of_ble_eq_true rfl) dX10_cut_3 ⟨(Nat.le_of_ble_eq_true rfl), (Nat.le_of_ble_eq_true rfl)⟩ hP hD hS (pA hA hS) [0, 1, 2] rfl rfl 0 (ci := 12) rfl rfl rfl ⟨(Nat.le_of_ble_eq_true rfl), (Nat.le_of_ble_eq_true rfl)⟩

set_option maxHeartbeats 4000000 in
set_option maxRecDepth 100000 in
theorem c177_L_cut (l : Launch) (hlt : l.stackTraces = false) (a0 : Nat) (a1 : Nat) (a2 : Nat) (z0 : Nat) (z1 : Nat) (z2 : Nat) (z3 : Nat) (z4 : Nat) (z5 : Nat) (z6 : Nat) (z7 : Nat) (z8 : Nat) (z9 : Nat) (z10 : Nat) (z11 : Nat) (z12 : Nat) (z13 : Nat) (z14 : Nat) (z15 : Nat) (z16 : Nat) (z17 : Nat) (z18 : Nat) (p0 : Int32) (p1 : Int32) (z19 : Nat) : CT l (.codeWith yL_cut cL_cut 6 (some .int) [(0, 12, 15, 13), (0, 12, 19, 24), (0, 12, 23, 36)]) yL_cut { frames := 8, cells := 1, slots := 6, locals := 138 } [.ref a0, .int 112, .int p0, .int p1, .ref z19] (fun y => [(a0, .inr (12, [.ref a1, .ref z0, .ref z1, .ref z2, .ref z3, .ref z4, .ref z5, .ref z6, .ref z7, .ref z8, .ref z9, .ref z10, .ref z11, .ref z12, .ref z13])), (a1, .inr (5, [.ref a2, .ref z14, .ref z15])), (a2, .inr (4, [.int 0, .ref z16, .ref z17, .ref z18]))]) (fun _ => []) (fun u => some (.int 2)) (fun y u => []) := by
  refine mkH (by decide) (Nat.le_of_ble_eq_true rfl) ?_
  intro p e s m args below meth c D y A ls hF htab hr hAe hP hD hS hl
  have hF : FX p e s m args meth c cL_cut 6 RL "cut" D y A := hF
  obtain ⟨⟨hx, hb, hml, hown, hts⟩, hev, heh, hA, hlk, hnm⟩ := id hF
  have hK := hev.1
  have hP : va_P D vwCl [(a0, .inr (12, [.ref a1, .ref z0, .ref z1, .ref z2, .ref z3, .ref z4, .ref z5, .ref z6, .ref z7, .ref z8, .ref z9, .ref z10, .ref z11, .ref z12, .ref z13])), (a1, .inr (5, [.ref a2, .ref z14, .ref z15])), (a2, .inr (4, [.int 0, .ref z16, .ref z17, .ref z18]))] s.heap := hP
  have hD : va_D (fun _ => True) [(a0, .inr (12, [.ref a1, .ref z0, .ref z1, .ref z2, .ref z3, .ref z4, .ref z5, .ref z6, .ref z7, .ref z8, .ref z9, .ref z10, .ref z11, .ref z12, .ref z13])), (a1, .inr (5, [.ref a2, .ref z14, .ref z15])), (a2, .inr (4, [.int 0, .ref z16, .ref z17, .ref z18]))] := hD
  have hl : lv_has ls 6 [(0, .ref a0), (1, .int 112), (2, .int p0), (3, .int p1), (4, .ref z19)] := hl
  refine lv_aload hx hb dL_cut_0 (lv_at hl 4 rfl) ?_
  refine lv_iconst (v := 0) hx hb dL_cut_2 (by decide) ?_
  refine lv_aload_n hx hb dL_cut_3 rfl (lv_at hl 0 rfl) ?_
  refine lv_iload_n hx hb dL_cut_4 rfl (lv_at hl 1 rfl) ?_
  refine lv_iload_n hx hb dL_cut_5 rfl (lv_at hl 2 rfl) ?_
  refine lv_iload_n hx hb dL_cut_6 rfl (lv_at hl 3 rfl) ?_
  refine hV (wr := [(a0, .inr (12, [.ref a1, .ref z0, .ref z1, .ref z2, .ref z3, .ref z4, .ref z5, .ref z6, .ref z7, .ref z8, .ref z9, .ref z10, .ref z11, .ref z12, .ref z13])), (a1, .inr (5, [.ref a2, .ref z14, .ref z15])), (a2, .inr (4, [.int 0, .ref z16, .ref z17, .ref z18]))]) (name := "java/util/NoSuchElementException") (E0 := "java/util/NoSuchElementException") (l := l) (yM := yX10_cut) (C := RX10) (As := [.int 112, .int p0, .int p1]) (rest := [.int 0, .ref z19]) hF (c177_X10_cut l hlt a0 a1 a2 z0 z1 z2 z3 z4 z5 z6 z7 z8 z9 z10 z11 z12 z13 z14 z15 z16 z17 z18 p0 p1) gv_RL_52 3 (by decide +kernel) rfl ⟨(Nat.le_of_ble_eq_true rfl), (Nat.le_of_ble_eq_true rfl)⟩ hl.1 rfl (Nat.le_of_ble_eq_true rfl) dL_cut_7 ⟨(Nat.le_of_ble_eq_true rfl), (Nat.le_of_ble_eq_true rfl)⟩ hP hD hS (pA hA hS) (fun _ _ => trivial) [0, 1, 2] [] [0, 1, 2] rfl rfl rfl rfl rfl (by decide) 0 (ci := 12) rfl rfl rfl [⟨0, 12, 15, 13⟩] ⟨0, 12, 19, 24⟩ [⟨0, 12, 23, 36⟩] htab (List.forall_mem_cons.mpr ⟨Or.inr ⟨by decide, "java/lang/IllegalArgumentException", wd_235, List.mem_of_getElem? (i := 0) rfl⟩, (fun z hz => nomatch hz)⟩) (by decide) (by decide) wd_261 (by decide) (fun q9 H locs hP hD hS => ?_)
  have hP : va_P D vwCl [(a0, .inr (12, [.ref a1, .ref z0, .ref z1, .ref z2, .ref z3, .ref z4, .ref z5, .ref z6, .ref z7, .ref z8, .ref z9, .ref z10, .ref z11, .ref z12, .ref z13])), (a1, .inr (5, [.ref a2, .ref z14, .ref z15])), (a2, .inr (4, [.int 0, .ref z16, .ref z17, .ref z18]))] H := hP
  have hD : va_D (fun _ => True) [(a0, .inr (12, [.ref a1, .ref z0, .ref z1, .ref z2, .ref z3, .ref z4, .ref z5, .ref z6, .ref z7, .ref z8, .ref z9, .ref z10, .ref z11, .ref z12, .ref z13])), (a1, .inr (5, [.ref a2, .ref z14, .ref z15])), (a2, .inr (4, [.int 0, .ref z16, .ref z17, .ref z18]))] := hD
  refine W.widen (k := 1) (n := 6) (Nat.le_of_ble_eq_true rfl) (Nat.le_of_ble_eq_true rfl) ?_
  refine W.eq (g2 := F0 m 19 ls [.ref q9]) rfl ?_
  refine lv_astore (lv' := [(5, .ref q9), (0, .ref a0), (1, .int 112), (2, .int p0), (3, .int p1), (4, .ref z19)]) hx hb dL_cut_19 hl (by decide) rfl (fun ls hl => ?_)
  refine lv_iconst (v := 2) hx hb dL_cut_21 (by decide) ?_
  exact e_i hF hr (Nat.le_of_ble_eq_true rfl) (Nat.le_of_ble_eq_true rfl) hS (qg_end hS (fun _ => 0) rfl [] hP rfl d_nil) dL_cut_22

set_option maxHeartbeats 4000000 in
set_option maxRecDepth 100000 in
theorem c179_X11_cut (l : Launch) (a0 : Nat) (a1 : Nat) (z0 : Nat) (z1 : Nat) (z2 : Nat) (z3 : Nat) (z4 : Nat) (z5 : Nat) (z6 : Nat) (z7 : Nat) (z8 : Nat) (z9 : Nat) (z10 : Nat) (z11 : Nat) (z12 : Nat) (p0 : Int32) (p1 : Int32) : CT l (.code yX11_cut cX11_cut 8 (some .int)) yX11_cut { frames := 5, cells := 0, slots := 0, locals := 111 } [.ref a0, .int 112, .int p0, .int p1] (fun y => [(a0, .inr (13, [.ref a1, .ref z0, .ref z1, .ref z2, .ref z3, .ref z4, .int 45, .ref z5, .ref z6, .ref z7, .int 0, .ref z8, .ref z9, .int 0, .int 0, .int 0, .int 0, .ref z10, .int 0, .null, .ref z11, .ref z12])), (a1, .inl (y 0, 3, .inl (fun _ => 0)))]) (fun y => [(a0, .inr (13, [.ref a1, .ref z0, .ref z1, .ref z2, .ref z3, .ref z4, .int 45, .ref z5, .ref z6, .ref z7, .int 0, .ref z8, .ref z9, .int 0, .int 0, .int 0, .int 0, .ref z10, .int 0, .null, .ref z11, .ref z12])), (a1, .inl (y 0, 3, .inl (fun _ => 0)))]) (fun u => some (.int 0)) (fun y u => [(a0, .inr (13, [.ref a1, .ref z0, .ref z1, .ref z2, .ref z3, .ref z4, .int 45, .ref z5, .ref z6, .ref z7, .int 0, .ref z8, .ref z9, .int 0, .int 0, .int 2, .int 0, .ref z10, .int 0, .null, .ref z11, .ref z12])), (a1, .inl (y 0, 3, .inl (fun _ => 0)))]) := by
  refine mkM (by decide) (Nat.le_of_ble_eq_true rfl) ?_
  intro p e s m args below meth c D y A ls hF hr hAe hP hD hS hl
  have hF : FX p e s m args meth c cX11_cut 8 RX11 "cut" D y A := hF
  obtain ⟨⟨hx, hb, hml, hown, hts⟩, hev, heh, hA, hlk, hnm⟩ := id hF
  have hK := hev.1
  have hP : va_P D vwCl [(a0, .inr (13, [.ref a1, .ref z0, .ref z1, .ref z2, .ref z3, .ref z4, .int 45, .ref z5, .ref z6, .ref z7, .int 0, .ref z8, .ref z9, .int 0, .int 0, .int 0, .int 0, .ref z10, .int 0, .null, .ref z11, .ref z12])), (a1, .inl (y 0, 3, .inl (fun _ => 0)))] s.heap := hP
  have hD : va_D A [(a0, .inr (13, [.ref a1, .ref z0, .ref z1, .ref z2, .ref z3, .ref z4, .int 45, .ref z5, .ref z6, .ref z7, .int 0, .ref z8, .ref z9, .int 0, .int 0, .int 0, .int 0, .ref z10, .int 0, .null, .ref z11, .ref z12])), (a1, .inl (y 0, 3, .inl (fun _ => 0)))] := by rw [← hAe]; exact hD.self
  have hl : lv_has ls 8 [(0, .ref a0), (1, .int 112), (2, .int p0), (3, .int p1)] := hl
  refine lv_iload_n hx hb dX11_cut_0 rfl (lv_at hl 1 rfl) ?_
  refine cS (l := l) (yM := yX11_sideOf) (As := [.int 112]) (rest := []) (wr := [(a0, .inr (13, [.ref a1, .ref z0, .ref z1, .ref z2, .ref z3, .ref z4, .int 45, .ref z5, .ref z6, .ref z7, .int 0, .ref z8, .ref z9, .int 0, .int 0, .int 0, .int 0, .ref z10, .int 0, .null, .ref z11, .ref z12])), (a1, .inl (y 0, 3, .inl (fun _ => 0)))]) hF (c23_X11_sideOf l) gs_RX11_124 1 (by decide +kernel) rfl ⟨(Nat.le_of_ble_eq_true rfl), (Nat.le_of_ble_eq_true rfl)⟩ hl.1 rfl (Nat.le_of_ble_eq_true rfl) dX11_cut_1 ⟨(Nat.le_of_ble_eq_true rfl), (Nat.le_of_ble_eq_true rfl)⟩ hP hD hS (pA hA hS) (fun _ h => h) [] [] [0, 1] rfl rfl rfl rfl rfl (by decide) (fun u_1 H locs hP hD hS => ?_)
  have hP : va_P D vwCl [(a0, .inr (13, [.ref a1, .ref z0, .ref z1, .ref z2, .ref z3, .ref z4, .int 45, .ref z5, .ref z6, .ref z7, .int 0, .ref z8, .ref z9, .int 0, .int 0, .int 0, .int 0, .ref z10, .int 0, .null, .ref z11, .ref z12])), (a1, .inl (y 0, 3, .inl (fun _ => 0)))] H := hP
  have hD : va_D A [(a0, .inr (13, [.ref a1, .ref z0, .ref z1, .ref z2, .ref z3, .ref z4, .int 45, .ref z5, .ref z6, .ref z7, .int 0, .ref z8, .ref z9, .int 0, .int 0, .int 0, .int 0, .ref z10, .int 0, .null, .ref z11, .ref z12])), (a1, .inl (y 0, 3, .inl (fun _ => 0)))] := hD
  refine W.widen (k := 0) (n := 0) (Nat.le_of_ble_eq_true rfl) (Nat.le_of_ble_eq_true rfl) ?_
  refine W.eq (g2 := F0 m 4 ls [.int 0]) rfl ?_
  refine lv_istore (lv' := [(4, .int 0), (0, .ref a0), (1, .int 112), (2, .int p0), (3, .int p1)]) hx hb dX11_cut_4 hl (by decide) rfl (fun ls hl => ?_)
  refine lv_aload_n hx hb dX11_cut_6 rfl (lv_at hl 1 rfl) ?_
  refine lv_iload hx hb dX11_cut_7 (lv_at hl 0 rfl) ?_
  refine lv_iload_n hx hb dX11_cut_9 rfl (lv_at hl 3 rfl) ?_
  refine cV (l := l) (yM := yX11_isOne) (C := RX11) (As := [.int 0, .int p0]) (rest := []) (wr := [(a0, .inr (13, [.ref a1, .ref z0, .ref z1, .ref z2, .ref z3, .ref z4, .int 45, .ref z5, .ref z6, .ref z7, .int 0, .ref z8, .ref z9, .int 0, .int 0, .int 0, .int 0, .ref z10, .int 0, .null, .ref z11, .ref z12])), (a1, .inl (y 0, 3, .inl (fun _ => 0)))]) hF (c122_X11_isOne l a0 a1 z0 z1 z2 z3 z4 z5 z6 z7 z8 z9 z10 z11 z12 p0) gv_RX11_155 2 (by decide +kernel) rfl ⟨(Nat.le_of_ble_eq_true rfl), (Nat.le_of_ble_eq_true rfl)⟩ hl.1 rfl (Nat.le_of_ble_eq_true rfl) dX11_cut_10 ⟨(Nat.le_of_ble_eq_true rfl), (Nat.le_of_ble_eq_true rfl)⟩ hP hD hS (pA hA hS) (fun _ h => h) [0, 1] [] [0, 1] rfl rfl rfl rfl rfl (by decide) 0 (ci := 13) rfl rfl rfl (fun u_2 H locs hP hD hS => ?_)
  have hP : va_P D vwCl [(a0, .inr (13, [.ref a1, .ref z0, .ref z1, .ref z2, .ref z3, .ref z4, .int 45, .ref z5, .ref z6, .ref z7, .int 0, .ref z8, .ref z9, .int 0, .int 0, .int 0, .int 0, .ref z10, .int 0, .null, .ref z11, .ref z12])), (a1, .inl (y 0, 3, .inl (fun _ => 0)))] H := hP
  have hD : va_D A [(a0, .inr (13, [.ref a1, .ref z0, .ref z1, .ref z2, .ref z3, .ref z4, .int 45, .ref z5, .ref z6, .ref z7, .int 0, .ref z8, .ref z9, .int 0, .int 0, .int 0, .int 0, .ref z10, .int 0, .null, .ref z11, .ref z12])), (a1, .inl (y 0, 3, .inl (fun _ => 0)))] := hD
  refine W.widen (k := 0) (n := 0) (Nat.le_of_ble_eq_true rfl) (Nat.le_of_ble_eq_true rfl) ?_
  refine W.eq (g2 := F0 m 13 ls [.int 0]) rfl ?_
  refine lv_istore (lv' := [(5, .int 0), (4, .int 0), (0, .ref a0), (1, .int 112), (2, .int p0), (3, .int p1)]) hx hb dX11_cut_13 hl (by decide) rfl (fun ls hl => ?_)
  refine lv_iload hx hb dX11_cut_15 (lv_at hl 0 rfl) ?_
  refine lv_if_eq (tgt := 44) hx hb dX11_cut_17 (by decide) (fun _ => ?_) (fun c => absurd (by decide) c)
  refine lv_iconst (v := 0) hx hb dX11_cut_44 (by decide) ?_
  refine lv_istore (lv' := [(6, .int 0), (5, .int 0), (4, .int 0), (0, .ref a0), (1, .int 112), (2, .int p0), (3, .int p1)]) hx hb dX11_cut_45 hl (by decide) rfl (fun ls hl => ?_)
  refine lv_aload_n hx hb dX11_cut_47 rfl (lv_at hl 3 rfl) ?_
  refine lv_iload hx hb dX11_cut_48 (lv_at hl 2 rfl) ?_
  refine lv_if_ge (tgt := 57) hx hb dX11_cut_50 (by decide) (fun _ => ?_) (fun c => absurd (by decide) c)
  refine lv_iconst (v := 0) hx hb dX11_cut_57 (by decide) ?_
  refine lv_iload hx hb dX11_cut_58 (lv_at hl 1 rfl) ?_
  refine lv_if_ne (tgt := 67) hx hb dX11_cut_60 (by decide) (fun c => absurd (by decide) c) (fun _ => ?_)
  refine lv_iconst (v := 1) hx hb dX11_cut_63 (by decide) ?_
  refine lv_goto (tgt := 68) hx hb dX11_cut_64 (by decide) ?_
  refine lv_iload hx hb dX11_cut_68 (lv_at hl 0 rfl) ?_
  refine cV (l := l) (yM := yX11_fails) (C := RX11) (As := [.int 0, .int 1, .int 0]) (rest := []) (wr := [(a1, .inl (y 0, 3, .inl (fun _ => 0)))]) hF (c123_X11_fails l a0 a1 z0 z1 z2 z3 z4 z5 z6 z7 z8 z9 z10 z11 z12) gv_RX11_128 3 (by decide +kernel) rfl ⟨(Nat.le_of_ble_eq_true rfl), (Nat.le_of_ble_eq_true rfl)⟩ hl.1 rfl (Nat.le_of_ble_eq_true rfl) dX11_cut_70 ⟨(Nat.le_of_ble_eq_true rfl), (Nat.le_of_ble_eq_true rfl)⟩ hP hD hS (va_free (wc := [(a0, .inr (13, [.ref a1, .ref z0, .ref z1, .ref z2, .ref z3, .ref z4, .int 45, .ref z5, .ref z6, .ref z7, .int 0, .ref z8, .ref z9, .int 0, .int 0, .int 0, .int 0, .ref z10, .int 0, .null, .ref z11, .ref z12]))]) hD hS hA [0] rfl) (fun _ h => h) [0] [0] [1] rfl rfl rfl rfl rfl (by decide) 0 (ci := 13) rfl rfl rfl (fun u_3 H locs hP hD hS => ?_)
  have hP : va_P D vwCl [(a1, .inl (y 0, 3, .inl (fun _ => 0))), (a0, .inr (13, [.ref a1, .ref z0, .ref z1, .ref z2, .ref z3, .ref z4, .int 45, .ref z5, .ref z6, .ref z7, .int 0, .ref z8, .ref z9, .int 0, .int 0, .int 2, .int 0, .ref z10, .int 0, .null, .ref z11, .ref z12]))] H := hP
  have hD : va_D A [(a1, .inl (y 0, 3, .inl (fun _ => 0))), (a0, .inr (13, [.ref a1, .ref z0, .ref z1, .ref z2, .ref z3, .ref z4, .int 45, .ref z5, .ref z6, .ref z7, .int 0, .ref z8, .ref z9, .int 0, .int 0, .int 2, .int 0, .ref z10, .int 0, .null, .ref z11, .ref z12]))] := hD
  refine W.widen (k := 0) (n := 0) (Nat.le_of_ble_eq_true rfl) (Nat.le_of_ble_eq_true rfl) ?_
  refine W.eq (g2 := F0 m 73 ls [.int 1]) rfl ?_
  refine lv_if_eq (tgt := 78) hx hb dX11_cut_73 (by decide) (fun c => absurd c (by decide)) (fun _ => ?_)
  refine lv_iconst (v := 0) hx hb dX11_cut_76 (by decide) ?_
  exact e_i hF hr (Nat.le_of_ble_eq_true rfl) (Nat.le_of_ble_eq_true rfl) hS (qg_end hS (fun _ => 0) rfl [1, 0] hP rfl (hD.sub [1, 0] rfl rfl)) dX11_cut_77

set_option maxHeartbeats 4000000 in
set_option maxRecDepth 100000 in
theorem c180_X10_cut (l : Launch) (hlt : l.stackTraces = false) (a0 : Nat) (a1 : Nat) (a2 : Nat) (z0 : Nat) (z1 : Nat) (z2 : Nat) (z3 : Nat) (z4 : Nat) (z5 : Nat) (z6 : Nat) (z7 : Nat) (z8 : Nat) (z9 : Nat) (z10 : Nat) (z11 : Nat) (z12 : Nat) (z13 : Nat) (z14 : Nat) (z15 : Nat) (z16 : Nat) (z17 : Nat) (z18 : Nat) (p0 : Int32) (p1 : Int32) : CX l (.code yX10_cut cX10_cut 6 (some .int)) yX10_cut { frames := 7, cells := 1, slots := 6, locals := 113 } [.ref a0, .int 104, .int p0, .int p1] (fun y => [(a0, .inr (12, [.ref a1, .ref z0, .ref z1, .ref z2, .ref z3, .ref z4, .ref z5, .ref z6, .ref z7, .ref z8, .ref z9, .ref z10, .ref z11, .ref z12, .ref z13])), (a1, .inr (5, [.ref z14, .ref a2, .ref z15])), (a2, .inr (4, [.int 0, .ref z16, .ref z17, .ref z18]))]) (fun _ => []) "java/util/NoSuchElementException" := by
  refine mkX (by decide) (Nat.le_of_ble_eq_true rfl) ?_
  intro p e s m args below meth c D y A ls hF htb hAe hP hD hS hl
  have hF : FX p e s m args meth c cX10_cut 6 RX10 "cut" D y A := hF
  obtain ⟨⟨hx, hb, hml, hown, hts⟩, hev, heh, hA, hlk, hnm⟩ := id hF
  have hK := hev.1
  have hP : va_P D vwCl [(a0, .inr (12, [.ref a1, .ref z0, .ref z1, .ref z2, .ref z3, .ref z4, .ref z5, .ref z6, .ref z7, .ref z8, .ref z9, .ref z10, .ref z11, .ref z12, .ref z13])), (a1, .inr (5, [.ref z14, .ref a2, .ref z15])), (a2, .inr (4, [.int 0, .ref z16, .ref z17, .ref z18]))] s.heap := hP
  have hD : va_D (fun _ => True) [(a0, .inr (12, [.ref a1, .ref z0, .ref z1, .ref z2, .ref z3, .ref z4, .ref z5, .ref z6, .ref z7, .ref z8, .ref z9, .ref z10, .ref z11, .ref z12, .ref z13])), (a1, .inr (5, [.ref z14, .ref a2, .ref z15])), (a2, .inr (4, [.int 0, .ref z16, .ref z17, .ref z18]))] := hD
  have hl : lv_has ls 6 [(0, .ref a0), (1, .int 104), (2, .int p0), (3, .int p1)] := hl
  refine lv_aload_n hx hb dX10_cut_0 rfl (lv_at hl 0 rfl) ?_
  refine lv_iload_n hx hb dX10_cut_1 rfl (lv_at hl 1 rfl) ?_
  refine lv_iload_n hx hb dX10_cut_2 rfl (lv_at hl 2 rfl) ?_
  exact xV (l := l) (yM := yX10_needOne) (C := RX10) (As := [.int 104, .int p0]) (rest := []) hF htb (c126_X10_needOne l hlt a0 a1 a2 z0 z1 z2 z3 z4 z5 z6 z7 z8 z9 z10 z11 z12 z13 z14 z15 z16 z17 z18 p0) gv_RX10_161 2 (by decide +kernel) rfl ⟨(Nat.le_of_ble_eq_true rfl), (Nat.le_of_ble_eq_true rfl)⟩ hl.1 rfl (Nat.le_of_ble_eq_true rfl) dX10_cut_3 ⟨(Nat.le_of_ble_eq_true rfl), (Nat.le_of_ble_eq_true rfl)⟩ hP hD hS (pA hA hS) [0, 1, 2] rfl rfl 0 (ci := 12) rfl rfl rfl ⟨(Nat.le_of_ble_eq_true rfl), (Nat.le_of_ble_eq_true rfl)⟩

set_option maxHeartbeats 4000000 in
set_option maxRecDepth 100000 in
theorem c180_L_cut (l : Launch) (hlt : l.stackTraces = false) (a0 : Nat) (a1 : Nat) (a2 : Nat) (z0 : Nat) (z1 : Nat) (z2 : Nat) (z3 : Nat) (z4 : Nat) (z5 : Nat) (z6 : Nat) (z7 : Nat) (z8 : Nat) (z9 : Nat) (z10 : Nat) (z11 : Nat) (z12 : Nat) (z13 : Nat) (z14 : Nat) (z15 : Nat) (z16 : Nat) (z17 : Nat) (z18 : Nat) (p0 : Int32) (p1 : Int32) (z19 : Nat) : CT l (.codeWith yL_cut cL_cut 6 (some .int) [(0, 12, 15, 13), (0, 12, 19, 24), (0, 12, 23, 36)]) yL_cut { frames := 8, cells := 1, slots := 6, locals := 138 } [.ref a0, .int 104, .int p0, .int p1, .ref z19] (fun y => [(a0, .inr (12, [.ref a1, .ref z0, .ref z1, .ref z2, .ref z3, .ref z4, .ref z5, .ref z6, .ref z7, .ref z8, .ref z9, .ref z10, .ref z11, .ref z12, .ref z13])), (a1, .inr (5, [.ref z14, .ref a2, .ref z15])), (a2, .inr (4, [.int 0, .ref z16, .ref z17, .ref z18]))]) (fun _ => []) (fun u => some (.int 2)) (fun y u => []) := by
  refine mkH (by decide) (Nat.le_of_ble_eq_true rfl) ?_
  intro p e s m args below meth c D y A ls hF htab hr hAe hP hD hS hl
  have hF : FX p e s m args meth c cL_cut 6 RL "cut" D y A := hF
  obtain ⟨⟨hx, hb, hml, hown, hts⟩, hev, heh, hA, hlk, hnm⟩ := id hF
  have hK := hev.1
  have hP : va_P D vwCl [(a0, .inr (12, [.ref a1, .ref z0, .ref z1, .ref z2, .ref z3, .ref z4, .ref z5, .ref z6, .ref z7, .ref z8, .ref z9, .ref z10, .ref z11, .ref z12, .ref z13])), (a1, .inr (5, [.ref z14, .ref a2, .ref z15])), (a2, .inr (4, [.int 0, .ref z16, .ref z17, .ref z18]))] s.heap := hP
  have hD : va_D (fun _ => True) [(a0, .inr (12, [.ref a1, .ref z0, .ref z1, .ref z2, .ref z3, .ref z4, .ref z5, .ref z6, .ref z7, .ref z8, .ref z9, .ref z10, .ref z11, .ref z12, .ref z13])), (a1, .inr (5, [.ref z14, .ref a2, .ref z15])), (a2, .inr (4, [.int 0, .ref z16, .ref z17, .ref z18]))] := hD
  have hl : lv_has ls 6 [(0, .ref a0), (1, .int 104), (2, .int p0), (3, .int p1), (4, .ref z19)] := hl
  refine lv_aload hx hb dL_cut_0 (lv_at hl 4 rfl) ?_
  refine lv_iconst (v := 0) hx hb dL_cut_2 (by decide) ?_
  refine lv_aload_n hx hb dL_cut_3 rfl (lv_at hl 0 rfl) ?_
  refine lv_iload_n hx hb dL_cut_4 rfl (lv_at hl 1 rfl) ?_
  refine lv_iload_n hx hb dL_cut_5 rfl (lv_at hl 2 rfl) ?_
  refine lv_iload_n hx hb dL_cut_6 rfl (lv_at hl 3 rfl) ?_
  refine hV (wr := [(a0, .inr (12, [.ref a1, .ref z0, .ref z1, .ref z2, .ref z3, .ref z4, .ref z5, .ref z6, .ref z7, .ref z8, .ref z9, .ref z10, .ref z11, .ref z12, .ref z13])), (a1, .inr (5, [.ref z14, .ref a2, .ref z15])), (a2, .inr (4, [.int 0, .ref z16, .ref z17, .ref z18]))]) (name := "java/util/NoSuchElementException") (E0 := "java/util/NoSuchElementException") (l := l) (yM := yX10_cut) (C := RX10) (As := [.int 104, .int p0, .int p1]) (rest := [.int 0, .ref z19]) hF (c180_X10_cut l hlt a0 a1 a2 z0 z1 z2 z3 z4 z5 z6 z7 z8 z9 z10 z11 z12 z13 z14 z15 z16 z17 z18 p0 p1) gv_RL_52 3 (by decide +kernel) rfl ⟨(Nat.le_of_ble_eq_true rfl), (Nat.le_of_ble_eq_true rfl)⟩ hl.1 rfl (Nat.le_of_ble_eq_true rfl) dL_cut_7 ⟨(Nat.le_of_ble_eq_true rfl), (Nat.le_of_ble_eq_true rfl)⟩ hP hD hS (pA hA hS) (fun _ _ => trivial) [0, 1, 2] [] [0, 1, 2] rfl rfl rfl rfl rfl (by decide) 0 (ci := 12) rfl rfl rfl [⟨0, 12, 15, 13⟩] ⟨0, 12, 19, 24⟩ [⟨0, 12, 23, 36⟩] htab (List.forall_mem_cons.mpr ⟨Or.inr ⟨by decide, "java/lang/IllegalArgumentException", wd_235, List.mem_of_getElem? (i := 0) rfl⟩, (fun z hz => nomatch hz)⟩) (by decide) (by decide) wd_261 (by decide) (fun q9 H locs hP hD hS => ?_)
  have hP : va_P D vwCl [(a0, .inr (12, [.ref a1, .ref z0, .ref z1, .ref z2, .ref z3, .ref z4, .ref z5, .ref z6, .ref z7, .ref z8, .ref z9, .ref z10, .ref z11, .ref z12, .ref z13])), (a1, .inr (5, [.ref z14, .ref a2, .ref z15])), (a2, .inr (4, [.int 0, .ref z16, .ref z17, .ref z18]))] H := hP
  have hD : va_D (fun _ => True) [(a0, .inr (12, [.ref a1, .ref z0, .ref z1, .ref z2, .ref z3, .ref z4, .ref z5, .ref z6, .ref z7, .ref z8, .ref z9, .ref z10, .ref z11, .ref z12, .ref z13])), (a1, .inr (5, [.ref z14, .ref a2, .ref z15])), (a2, .inr (4, [.int 0, .ref z16, .ref z17, .ref z18]))] := hD
  refine W.widen (k := 1) (n := 6) (Nat.le_of_ble_eq_true rfl) (Nat.le_of_ble_eq_true rfl) ?_
  refine W.eq (g2 := F0 m 19 ls [.ref q9]) rfl ?_
  refine lv_astore (lv' := [(5, .ref q9), (0, .ref a0), (1, .int 104), (2, .int p0), (3, .int p1), (4, .ref z19)]) hx hb dL_cut_19 hl (by decide) rfl (fun ls hl => ?_)
  refine lv_iconst (v := 2) hx hb dL_cut_21 (by decide) ?_
  exact e_i hF hr (Nat.le_of_ble_eq_true rfl) (Nat.le_of_ble_eq_true rfl) hS (qg_end hS (fun _ => 0) rfl [] hP rfl d_nil) dL_cut_22

set_option maxHeartbeats 4000000 in
set_option maxRecDepth 100000 in
theorem c182_X11_cut (l : Launch) (a0 : Nat) (a1 : Nat) (z0 : Nat) (z1 : Nat) (z2 : Nat) (z3 : Nat) (z4 : Nat) (z5 : Nat) (z6 : Nat) (z7 : Nat) (z8 : Nat) (z9 : Nat) (z10 : Nat) (z11 : Nat) (z12 : Nat) (p0 : Int32) (p1 : Int32) : CT l (.code yX11_cut cX11_cut 8 (some .int)) yX11_cut { frames := 5, cells := 0, slots := 0, locals := 111 } [.ref a0, .int 104, .int p0, .int p1] (fun y => [(a0, .inr (13, [.ref a1, .ref z0, .ref z1, .ref z2, .ref z3, .ref z4, .int 45, .ref z5, .ref z6, .ref z7, .int 0, .ref z8, .ref z9, .int 0, .int 0, .int 0, .int 0, .ref z10, .int 0, .null, .ref z11, .ref z12])), (a1, .inl (y 0, 3, .inl (fun _ => 0)))]) (fun y => [(a0, .inr (13, [.ref a1, .ref z0, .ref z1, .ref z2, .ref z3, .ref z4, .int 45, .ref z5, .ref z6, .ref z7, .int 0, .ref z8, .ref z9, .int 0, .int 0, .int 0, .int 0, .ref z10, .int 0, .null, .ref z11, .ref z12])), (a1, .inl (y 0, 3, .inl (fun _ => 0)))]) (fun u => some (.int 0)) (fun y u => [(a0, .inr (13, [.ref a1, .ref z0, .ref z1, .ref z2, .ref z3, .ref z4, .int 45, .ref z5, .ref z6, .ref z7, .int 0, .ref z8, .ref z9, .int 0, .int 0, .int 2, .int 0, .ref z10, .int 0, .null, .ref z11, .ref z12])), (a1, .inl (y 0, 3, .inl (fun _ => 0)))]) := by
  refine mkM (by decide) (Nat.le_of_ble_eq_true rfl) ?_
  intro p e s m args below meth c D y A ls hF hr hAe hP hD hS hl
  have hF : FX p e s m args meth c cX11_cut 8 RX11 "cut" D y A := hF
  obtain ⟨⟨hx, hb, hml, hown, hts⟩, hev, heh, hA, hlk, hnm⟩ := id hF
  have hK := hev.1
  have hP : va_P D vwCl [(a0, .inr (13, [.ref a1, .ref z0, .ref z1, .ref z2, .ref z3, .ref z4, .int 45, .ref z5, .ref z6, .ref z7, .int 0, .ref z8, .ref z9, .int 0, .int 0, .int 0, .int 0, .ref z10, .int 0, .null, .ref z11, .ref z12])), (a1, .inl (y 0, 3, .inl (fun _ => 0)))] s.heap := hP
  have hD : va_D A [(a0, .inr (13, [.ref a1, .ref z0, .ref z1, .ref z2, .ref z3, .ref z4, .int 45, .ref z5, .ref z6, .ref z7, .int 0, .ref z8, .ref z9, .int 0, .int 0, .int 0, .int 0, .ref z10, .int 0, .null, .ref z11, .ref z12])), (a1, .inl (y 0, 3, .inl (fun _ => 0)))] := by rw [← hAe]; exact hD.self
  have hl : lv_has ls 8 [(0, .ref a0), (1, .int 104), (2, .int p0), (3, .int p1)] := hl
  refine lv_iload_n hx hb dX11_cut_0 rfl (lv_at hl 1 rfl) ?_
  refine cS (l := l) (yM := yX11_sideOf) (As := [.int 104]) (rest := []) (wr := [(a0, .inr (13, [.ref a1, .ref z0, .ref z1, .ref z2, .ref z3, .ref z4, .int 45, .ref z5, .ref z6, .ref z7, .int 0, .ref z8, .ref z9, .int 0, .int 0, .int 0, .int 0, .ref z10, .int 0, .null, .ref z11, .ref z12])), (a1, .inl (y 0, 3, .inl (fun _ => 0)))]) hF (c39_X11_sideOf l) gs_RX11_124 1 (by decide +kernel) rfl ⟨(Nat.le_of_ble_eq_true rfl), (Nat.le_of_ble_eq_true rfl)⟩ hl.1 rfl (Nat.le_of_ble_eq_true rfl) dX11_cut_1 ⟨(Nat.le_of_ble_eq_true rfl), (Nat.le_of_ble_eq_true rfl)⟩ hP hD hS (pA hA hS) (fun _ h => h) [] [] [0, 1] rfl rfl rfl rfl rfl (by decide) (fun u_1 H locs hP hD hS => ?_)
  have hP : va_P D vwCl [(a0, .inr (13, [.ref a1, .ref z0, .ref z1, .ref z2, .ref z3, .ref z4, .int 45, .ref z5, .ref z6, .ref z7, .int 0, .ref z8, .ref z9, .int 0, .int 0, .int 0, .int 0, .ref z10, .int 0, .null, .ref z11, .ref z12])), (a1, .inl (y 0, 3, .inl (fun _ => 0)))] H := hP
  have hD : va_D A [(a0, .inr (13, [.ref a1, .ref z0, .ref z1, .ref z2, .ref z3, .ref z4, .int 45, .ref z5, .ref z6, .ref z7, .int 0, .ref z8, .ref z9, .int 0, .int 0, .int 0, .int 0, .ref z10, .int 0, .null, .ref z11, .ref z12])), (a1, .inl (y 0, 3, .inl (fun _ => 0)))] := hD
  refine W.widen (k := 0) (n := 0) (Nat.le_of_ble_eq_true rfl) (Nat.le_of_ble_eq_true rfl) ?_
  refine W.eq (g2 := F0 m 4 ls [.int 1]) rfl ?_
  refine lv_istore (lv' := [(4, .int 1), (0, .ref a0), (1, .int 104), (2, .int p0), (3, .int p1)]) hx hb dX11_cut_4 hl (by decide) rfl (fun ls hl => ?_)
  refine lv_aload_n hx hb dX11_cut_6 rfl (lv_at hl 1 rfl) ?_
  refine lv_iload hx hb dX11_cut_7 (lv_at hl 0 rfl) ?_
  refine lv_iload_n hx hb dX11_cut_9 rfl (lv_at hl 3 rfl) ?_
  refine cV (l := l) (yM := yX11_isOne) (C := RX11) (As := [.int 1, .int p0]) (rest := []) (wr := [(a0, .inr (13, [.ref a1, .ref z0, .ref z1, .ref z2, .ref z3, .ref z4, .int 45, .ref z5, .ref z6, .ref z7, .int 0, .ref z8, .ref z9, .int 0, .int 0, .int 0, .int 0, .ref z10, .int 0, .null, .ref z11, .ref z12])), (a1, .inl (y 0, 3, .inl (fun _ => 0)))]) hF (c129_X11_isOne l a0 a1 z0 z1 z2 z3 z4 z5 z6 z7 z8 z9 z10 z11 z12 p0) gv_RX11_155 2 (by decide +kernel) rfl ⟨(Nat.le_of_ble_eq_true rfl), (Nat.le_of_ble_eq_true rfl)⟩ hl.1 rfl (Nat.le_of_ble_eq_true rfl) dX11_cut_10 ⟨(Nat.le_of_ble_eq_true rfl), (Nat.le_of_ble_eq_true rfl)⟩ hP hD hS (pA hA hS) (fun _ h => h) [0, 1] [] [0, 1] rfl rfl rfl rfl rfl (by decide) 0 (ci := 13) rfl rfl rfl (fun u_2 H locs hP hD hS => ?_)
  have hP : va_P D vwCl [(a0, .inr (13, [.ref a1, .ref z0, .ref z1, .ref z2, .ref z3, .ref z4, .int 45, .ref z5, .ref z6, .ref z7, .int 0, .ref z8, .ref z9, .int 0, .int 0, .int 0, .int 0, .ref z10, .int 0, .null, .ref z11, .ref z12])), (a1, .inl (y 0, 3, .inl (fun _ => 0)))] H := hP
  have hD : va_D A [(a0, .inr (13, [.ref a1, .ref z0, .ref z1, .ref z2, .ref z3, .ref z4, .int 45, .ref z5, .ref z6, .ref z7, .int 0, .ref z8, .ref z9, .int 0, .int 0, .int 0, .int 0, .ref z10, .int 0, .null, .ref z11, .ref z12])), (a1, .inl (y 0, 3, .inl (fun _ => 0)))] := hD
  refine W.widen (k := 0) (n := 0) (Nat.le_of_ble_eq_true rfl) (Nat.le_of_ble_eq_true rfl) ?_
  refine W.eq (g2 := F0 m 13 ls [.int 0]) rfl ?_
  refine lv_istore (lv' := [(5, .int 0), (4, .int 1), (0, .ref a0), (1, .int 104), (2, .int p0), (3, .int p1)]) hx hb dX11_cut_13 hl (by decide) rfl (fun ls hl => ?_)
  refine lv_iload hx hb dX11_cut_15 (lv_at hl 0 rfl) ?_
  refine lv_if_eq (tgt := 44) hx hb dX11_cut_17 (by decide) (fun _ => ?_) (fun c => absurd (by decide) c)
  refine lv_iconst (v := 0) hx hb dX11_cut_44 (by decide) ?_
  refine lv_istore (lv' := [(6, .int 0), (5, .int 0), (4, .int 1), (0, .ref a0), (1, .int 104), (2, .int p0), (3, .int p1)]) hx hb dX11_cut_45 hl (by decide) rfl (fun ls hl => ?_)
  refine lv_aload_n hx hb dX11_cut_47 rfl (lv_at hl 3 rfl) ?_
  refine lv_iload hx hb dX11_cut_48 (lv_at hl 2 rfl) ?_
  refine lv_if_ge (tgt := 57) hx hb dX11_cut_50 (by decide) (fun _ => ?_) (fun c => absurd (by decide) c)
  refine lv_iconst (v := 0) hx hb dX11_cut_57 (by decide) ?_
  refine lv_iload hx hb dX11_cut_58 (lv_at hl 1 rfl) ?_
  refine lv_if_ne (tgt := 67) hx hb dX11_cut_60 (by decide) (fun c => absurd (by decide) c) (fun _ => ?_)
  refine lv_iconst (v := 1) hx hb dX11_cut_63 (by decide) ?_
  refine lv_goto (tgt := 68) hx hb dX11_cut_64 (by decide) ?_
  refine lv_iload hx hb dX11_cut_68 (lv_at hl 0 rfl) ?_
  refine cV (l := l) (yM := yX11_fails) (C := RX11) (As := [.int 0, .int 1, .int 0]) (rest := []) (wr := [(a1, .inl (y 0, 3, .inl (fun _ => 0)))]) hF (c123_X11_fails l a0 a1 z0 z1 z2 z3 z4 z5 z6 z7 z8 z9 z10 z11 z12) gv_RX11_128 3 (by decide +kernel) rfl ⟨(Nat.le_of_ble_eq_true rfl), (Nat.le_of_ble_eq_true rfl)⟩ hl.1 rfl (Nat.le_of_ble_eq_true rfl) dX11_cut_70 ⟨(Nat.le_of_ble_eq_true rfl), (Nat.le_of_ble_eq_true rfl)⟩ hP hD hS (va_free (wc := [(a0, .inr (13, [.ref a1, .ref z0, .ref z1, .ref z2, .ref z3, .ref z4, .int 45, .ref z5, .ref z6, .ref z7, .int 0, .ref z8, .ref z9, .int 0, .int 0, .int 0, .int 0, .ref z10, .int 0, .null, .ref z11, .ref z12]))]) hD hS hA [0] rfl) (fun _ h => h) [0] [0] [1] rfl rfl rfl rfl rfl (by decide) 0 (ci := 13) rfl rfl rfl (fun u_3 H locs hP hD hS => ?_)
  have hP : va_P D vwCl [(a1, .inl (y 0, 3, .inl (fun _ => 0))), (a0, .inr (13, [.ref a1, .ref z0, .ref z1, .ref z2, .ref z3, .ref z4, .int 45, .ref z5, .ref z6, .ref z7, .int 0, .ref z8, .ref z9, .int 0, .int 0, .int 2, .int 0, .ref z10, .int 0, .null, .ref z11, .ref z12]))] H := hP
  have hD : va_D A [(a1, .inl (y 0, 3, .inl (fun _ => 0))), (a0, .inr (13, [.ref a1, .ref z0, .ref z1, .ref z2, .ref z3, .ref z4, .int 45, .ref z5, .ref z6, .ref z7, .int 0, .ref z8, .ref z9, .int 0, .int 0, .int 2, .int 0, .ref z10, .int 0, .null, .ref z11, .ref z12]))] := hD
  refine W.widen (k := 0) (n := 0) (Nat.le_of_ble_eq_true rfl) (Nat.le_of_ble_eq_true rfl) ?_
  refine W.eq (g2 := F0 m 73 ls [.int 1]) rfl ?_
  refine lv_if_eq (tgt := 78) hx hb dX11_cut_73 (by decide) (fun c => absurd c (by decide)) (fun _ => ?_)
  refine lv_iconst (v := 0) hx hb dX11_cut_76 (by decide) ?_
  exact e_i hF hr (Nat.le_of_ble_eq_true rfl) (Nat.le_of_ble_eq_true rfl) hS (qg_end hS (fun _ => 0) rfl [1, 0] hP rfl (hD.sub [1, 0] rfl rfl)) dX11_cut_77

set_option maxHeartbeats 4000000 in
set_option maxRecDepth 100000 in
theorem c183_X10_cut (l : Launch) (hlt : l.stackTraces = false) (a0 : Nat) (a1 : Nat) (z0 : Nat) (z1 : Nat) (z2 : Nat) (z3 : Nat) (z4 : Nat) (z5 : Nat) (z6 : Nat) (z7 : Nat) (z8 : Nat) (z9 : Nat) (z10 : Nat) (z11 : Nat) (z12 : Nat) (z13 : Nat) (z14 : Nat) (z15 : Nat) (z16 : Nat) (p0 : Int32) (p1 : Int32) : CX l (.code yX10_cut cX10_cut 6 (some .int)) yX10_cut { frames := 7, cells := 1, slots := 6, locals := 113 } [.ref a0, .int 109, .int p0, .int p1] (fun y => [(a0, .inr (12, [.ref z0, .ref a1, .ref z1, .ref z2, .ref z3, .ref z4, .ref z5, .ref z6, .ref z7, .ref z8, .ref z9, .ref z10, .ref z11, .ref z12, .ref z13])), (a1, .inr (4, [.int 0, .ref z14, .ref z15, .ref z16]))]) (fun _ => []) "java/util/NoSuchElementException" := by
  refine mkX (by decide) (Nat.le_of_ble_eq_true rfl) ?_
  intro p e s m args below meth c D y A ls hF htb hAe hP hD hS hl
  have hF : FX p e s m args meth c cX10_cut 6 RX10 "cut" D y A := hF
  obtain ⟨⟨hx, hb, hml, hown, hts⟩, hev, heh, hA, hlk, hnm⟩ := id hF
  have hK := hev.1
  have hP : va_P D vwCl [(a0, .inr (12, [.ref z0, .ref a1, .ref z1, .ref z2, .ref z3, .ref z4, .ref z5, .ref z6, .ref z7, .ref z8, .ref z9, .ref z10, .ref z11, .ref z12, .ref z13])), (a1, .inr (4, [.int 0, .ref z14, .ref z15, .ref z16]))] s.heap := hP
  have hD : va_D (fun _ => True) [(a0, .inr (12, [.ref z0, .ref a1, .ref z1, .ref z2, .ref z3, .ref z4, .ref z5, .ref z6, .ref z7, .ref z8, .ref z9, .ref z10, .ref z11, .ref z12, .ref z13])), (a1, .inr (4, [.int 0, .ref z14, .ref z15, .ref z16]))] := hD
  have hl : lv_has ls 6 [(0, .ref a0), (1, .int 109), (2, .int p0), (3, .int p1)] := hl
  refine lv_aload_n hx hb dX10_cut_0 rfl (lv_at hl 0 rfl) ?_
  refine lv_iload_n hx hb dX10_cut_1 rfl (lv_at hl 1 rfl) ?_
  refine lv_iload_n hx hb dX10_cut_2 rfl (lv_at hl 2 rfl) ?_
  exact xV (l := l) (yM := yX10_needOne) (C := RX10) (As := [.int 109, .int p0]) (rest := []) hF htb (c131_X10_needOne l hlt a0 a1 z0 z1 z2 z3 z4 z5 z6 z7 z8 z9 z10 z11 z12 z13 z14 z15 z16 p0) gv_RX10_161 2 (by decide +kernel) rfl ⟨(Nat.le_of_ble_eq_true rfl), (Nat.le_of_ble_eq_true rfl)⟩ hl.1 rfl (Nat.le_of_ble_eq_true rfl) dX10_cut_3 ⟨(Nat.le_of_ble_eq_true rfl), (Nat.le_of_ble_eq_true rfl)⟩ hP hD hS (pA hA hS) [0, 1] rfl rfl 0 (ci := 12) rfl rfl rfl ⟨(Nat.le_of_ble_eq_true rfl), (Nat.le_of_ble_eq_true rfl)⟩

set_option maxHeartbeats 4000000 in
set_option maxRecDepth 100000 in
theorem c183_L_cut (l : Launch) (hlt : l.stackTraces = false) (a0 : Nat) (a1 : Nat) (z0 : Nat) (z1 : Nat) (z2 : Nat) (z3 : Nat) (z4 : Nat) (z5 : Nat) (z6 : Nat) (z7 : Nat) (z8 : Nat) (z9 : Nat) (z10 : Nat) (z11 : Nat) (z12 : Nat) (z13 : Nat) (z14 : Nat) (z15 : Nat) (z16 : Nat) (p0 : Int32) (p1 : Int32) (z17 : Nat) : CT l (.codeWith yL_cut cL_cut 6 (some .int) [(0, 12, 15, 13), (0, 12, 19, 24), (0, 12, 23, 36)]) yL_cut { frames := 8, cells := 1, slots := 6, locals := 138 } [.ref a0, .int 109, .int p0, .int p1, .ref z17] (fun y => [(a0, .inr (12, [.ref z0, .ref a1, .ref z1, .ref z2, .ref z3, .ref z4, .ref z5, .ref z6, .ref z7, .ref z8, .ref z9, .ref z10, .ref z11, .ref z12, .ref z13])), (a1, .inr (4, [.int 0, .ref z14, .ref z15, .ref z16]))]) (fun _ => []) (fun u => some (.int 2)) (fun y u => []) := by
  refine mkH (by decide) (Nat.le_of_ble_eq_true rfl) ?_
  intro p e s m args below meth c D y A ls hF htab hr hAe hP hD hS hl
  have hF : FX p e s m args meth c cL_cut 6 RL "cut" D y A := hF
  obtain ⟨⟨hx, hb, hml, hown, hts⟩, hev, heh, hA, hlk, hnm⟩ := id hF
  have hK := hev.1
  have hP : va_P D vwCl [(a0, .inr (12, [.ref z0, .ref a1, .ref z1, .ref z2, .ref z3, .ref z4, .ref z5, .ref z6, .ref z7, .ref z8, .ref z9, .ref z10, .ref z11, .ref z12, .ref z13])), (a1, .inr (4, [.int 0, .ref z14, .ref z15, .ref z16]))] s.heap := hP
  have hD : va_D (fun _ => True) [(a0, .inr (12, [.ref z0, .ref a1, .ref z1, .ref z2, .ref z3, .ref z4, .ref z5, .ref z6, .ref z7, .ref z8, .ref z9, .ref z10, .ref z11, .ref z12, .ref z13])), (a1, .inr (4, [.int 0, .ref z14, .ref z15, .ref z16]))] := hD
  have hl : lv_has ls 6 [(0, .ref a0), (1, .int 109), (2, .int p0), (3, .int p1), (4, .ref z17)] := hl
  refine lv_aload hx hb dL_cut_0 (lv_at hl 4 rfl) ?_
  refine lv_iconst (v := 0) hx hb dL_cut_2 (by decide) ?_
  refine lv_aload_n hx hb dL_cut_3 rfl (lv_at hl 0 rfl) ?_
  refine lv_iload_n hx hb dL_cut_4 rfl (lv_at hl 1 rfl) ?_
  refine lv_iload_n hx hb dL_cut_5 rfl (lv_at hl 2 rfl) ?_
  refine lv_iload_n hx hb dL_cut_6 rfl (lv_at hl 3 rfl) ?_
  refine hV (wr := [(a0, .inr (12, [.ref z0, .ref a1, .ref z1, .ref z2, .ref z3, .ref z4, .ref z5, .ref z6, .ref z7, .ref z8, .ref z9, .ref z10, .ref z11, .ref z12, .ref z13])), (a1, .inr (4, [.int 0, .ref z14, .ref z15, .ref z16]))]) (name := "java/util/NoSuchElementException") (E0 := "java/util/NoSuchElementException") (l := l) (yM := yX10_cut) (C := RX10) (As := [.int 109, .int p0, .int p1]) (rest := [.int 0, .ref z17]) hF (c183_X10_cut l hlt a0 a1 z0 z1 z2 z3 z4 z5 z6 z7 z8 z9 z10 z11 z12 z13 z14 z15 z16 p0 p1) gv_RL_52 3 (by decide +kernel) rfl ⟨(Nat.le_of_ble_eq_true rfl), (Nat.le_of_ble_eq_true rfl)⟩ hl.1 rfl (Nat.le_of_ble_eq_true rfl) dL_cut_7 ⟨(Nat.le_of_ble_eq_true rfl), (Nat.le_of_ble_eq_true rfl)⟩ hP hD hS (pA hA hS) (fun _ _ => trivial) [0, 1] [] [0, 1] rfl rfl rfl rfl rfl (by decide) 0 (ci := 12) rfl rfl rfl [⟨0, 12, 15, 13⟩] ⟨0, 12, 19, 24⟩ [⟨0, 12, 23, 36⟩] htab (List.forall_mem_cons.mpr ⟨Or.inr ⟨by decide, "java/lang/IllegalArgumentException", wd_235, List.mem_of_getElem? (i := 0) rfl⟩, (fun z hz => nomatch hz)⟩) (by decide) (by decide) wd_261 (by decide) (fun q9 H locs hP hD hS => ?_)
  have hP : va_P D vwCl [(a0, .inr (12, [.ref z0, .ref a1, .ref z1, .ref z2, .ref z3, .ref z4, .ref z5, .ref z6, .ref z7, .ref z8, .ref z9, .ref z10, .ref z11, .ref z12, .ref z13])), (a1, .inr (4, [.int 0, .ref z14, .ref z15, .ref z16]))] H := hP
  have hD : va_D (fun _ => True) [(a0, .inr (12, [.ref z0, .ref a1, .ref z1, .ref z2, .ref z3, .ref z4, .ref z5, .ref z6, .ref z7, .ref z8, .ref z9, .ref z10, .ref z11, .ref z12, .ref z13])), (a1, .inr (4, [.int 0, .ref z14, .ref z15, .ref z16]))] := hD
  refine W.widen (k := 1) (n := 6) (Nat.le_of_ble_eq_true rfl) (Nat.le_of_ble_eq_true rfl) ?_
  refine W.eq (g2 := F0 m 19 ls [.ref q9]) rfl ?_
  refine lv_astore (lv' := [(5, .ref q9), (0, .ref a0), (1, .int 109), (2, .int p0), (3, .int p1), (4, .ref z17)]) hx hb dL_cut_19 hl (by decide) rfl (fun ls hl => ?_)
  refine lv_iconst (v := 2) hx hb dL_cut_21 (by decide) ?_
  exact e_i hF hr (Nat.le_of_ble_eq_true rfl) (Nat.le_of_ble_eq_true rfl) hS (qg_end hS (fun _ => 0) rfl [] hP rfl d_nil) dL_cut_22

set_option maxHeartbeats 4000000 in
set_option maxRecDepth 100000 in
theorem c185_X11_cut (l : Launch) (a0 : Nat) (a1 : Nat) (z0 : Nat) (z1 : Nat) (z2 : Nat) (z3 : Nat) (z4 : Nat) (z5 : Nat) (z6 : Nat) (z7 : Nat) (z8 : Nat) (z9 : Nat) (z10 : Nat) (z11 : Nat) (z12 : Nat) (p0 : Int32) (p1 : Int32) : CT l (.code yX11_cut cX11_cut 8 (some .int)) yX11_cut { frames := 5, cells := 0, slots := 0, locals := 111 } [.ref a0, .int 109, .int p0, .int p1] (fun y => [(a0, .inr (13, [.ref a1, .ref z0, .ref z1, .ref z2, .ref z3, .ref z4, .int 45, .ref z5, .ref z6, .ref z7, .int 0, .ref z8, .ref z9, .int 0, .int 0, .int 0, .int 0, .ref z10, .int 0, .null, .ref z11, .ref z12])), (a1, .inl (y 0, 3, .inl (fun _ => 0)))]) (fun y => [(a0, .inr (13, [.ref a1, .ref z0, .ref z1, .ref z2, .ref z3, .ref z4, .int 45, .ref z5, .ref z6, .ref z7, .int 0, .ref z8, .ref z9, .int 0, .int 0, .int 0, .int 0, .ref z10, .int 0, .null, .ref z11, .ref z12])), (a1, .inl (y 0, 3, .inl (fun _ => 0)))]) (fun u => some (.int 0)) (fun y u => [(a0, .inr (13, [.ref a1, .ref z0, .ref z1, .ref z2, .ref z3, .ref z4, .int 45, .ref z5, .ref z6, .ref z7, .int 0, .ref z8, .ref z9, .int 0, .int 0, .int 2, .int 0, .ref z10, .int 0, .null, .ref z11, .ref z12])), (a1, .inl (y 0, 3, .inl (fun _ => 0)))]) := by
  refine mkM (by decide) (Nat.le_of_ble_eq_true rfl) ?_
  intro p e s m args below meth c D y A ls hF hr hAe hP hD hS hl
  have hF : FX p e s m args meth c cX11_cut 8 RX11 "cut" D y A := hF
  obtain ⟨⟨hx, hb, hml, hown, hts⟩, hev, heh, hA, hlk, hnm⟩ := id hF
  have hK := hev.1
  have hP : va_P D vwCl [(a0, .inr (13, [.ref a1, .ref z0, .ref z1, .ref z2, .ref z3, .ref z4, .int 45, .ref z5, .ref z6, .ref z7, .int 0, .ref z8, .ref z9, .int 0, .int 0, .int 0, .int 0, .ref z10, .int 0, .null, .ref z11, .ref z12])), (a1, .inl (y 0, 3, .inl (fun _ => 0)))] s.heap := hP
  have hD : va_D A [(a0, .inr (13, [.ref a1, .ref z0, .ref z1, .ref z2, .ref z3, .ref z4, .int 45, .ref z5, .ref z6, .ref z7, .int 0, .ref z8, .ref z9, .int 0, .int 0, .int 0, .int 0, .ref z10, .int 0, .null, .ref z11, .ref z12])), (a1, .inl (y 0, 3, .inl (fun _ => 0)))] := by rw [← hAe]; exact hD.self
  have hl : lv_has ls 8 [(0, .ref a0), (1, .int 109), (2, .int p0), (3, .int p1)] := hl
  refine lv_iload_n hx hb dX11_cut_0 rfl (lv_at hl 1 rfl) ?_
  refine cS (l := l) (yM := yX11_sideOf) (As := [.int 109]) (rest := []) (wr := [(a0, .inr (13, [.ref a1, .ref z0, .ref z1, .ref z2, .ref z3, .ref z4, .int 45, .ref z5, .ref z6, .ref z7, .int 0, .ref z8, .ref z9, .int 0, .int 0, .int 0, .int 0, .ref z10, .int 0, .null, .ref z11, .ref z12])), (a1, .inl (y 0, 3, .inl (fun _ => 0)))]) hF (c49_X11_sideOf l) gs_RX11_124 1 (by decide +kernel) rfl ⟨(Nat.le_of_ble_eq_true rfl), (Nat.le_of_ble_eq_true rfl)⟩ hl.1 rfl (Nat.le_of_ble_eq_true rfl) dX11_cut_1 ⟨(Nat.le_of_ble_eq_true rfl), (Nat.le_of_ble_eq_true rfl)⟩ hP hD hS (pA hA hS) (fun _ h => h) [] [] [0, 1] rfl rfl rfl rfl rfl (by decide) (fun u_1 H locs hP hD hS => ?_)
  have hP : va_P D vwCl [(a0, .inr (13, [.ref a1, .ref z0, .ref z1, .ref z2, .ref z3, .ref z4, .int 45, .ref z5, .ref z6, .ref z7, .int 0, .ref z8, .ref z9, .int 0, .int 0, .int 0, .int 0, .ref z10, .int 0, .null, .ref z11, .ref z12])), (a1, .inl (y 0, 3, .inl (fun _ => 0)))] H := hP
  have hD : va_D A [(a0, .inr (13, [.ref a1, .ref z0, .ref z1, .ref z2, .ref z3, .ref z4, .int 45, .ref z5, .ref z6, .ref z7, .int 0, .ref z8, .ref z9, .int 0, .int 0, .int 0, .int 0, .ref z10, .int 0, .null, .ref z11, .ref z12])), (a1, .inl (y 0, 3, .inl (fun _ => 0)))] := hD
  refine W.widen (k := 0) (n := 0) (Nat.le_of_ble_eq_true rfl) (Nat.le_of_ble_eq_true rfl) ?_
  refine W.eq (g2 := F0 m 4 ls [.int 2]) rfl ?_
  refine lv_istore (lv' := [(4, .int 2), (0, .ref a0), (1, .int 109), (2, .int p0), (3, .int p1)]) hx hb dX11_cut_4 hl (by decide) rfl (fun ls hl => ?_)
  refine lv_aload_n hx hb dX11_cut_6 rfl (lv_at hl 1 rfl) ?_
  refine lv_iload hx hb dX11_cut_7 (lv_at hl 0 rfl) ?_
  refine lv_iload_n hx hb dX11_cut_9 rfl (lv_at hl 3 rfl) ?_
  refine cV (l := l) (yM := yX11_isOne) (C := RX11) (As := [.int 2, .int p0]) (rest := []) (wr := [(a0, .inr (13, [.ref a1, .ref z0, .ref z1, .ref z2, .ref z3, .ref z4, .int 45, .ref z5, .ref z6, .ref z7, .int 0, .ref z8, .ref z9, .int 0, .int 0, .int 0, .int 0, .ref z10, .int 0, .null, .ref z11, .ref z12])), (a1, .inl (y 0, 3, .inl (fun _ => 0)))]) hF (c134_X11_isOne l a0 a1 z0 z1 z2 z3 z4 z5 z6 z7 z8 z9 z10 z11 z12 p0) gv_RX11_155 2 (by decide +kernel) rfl ⟨(Nat.le_of_ble_eq_true rfl), (Nat.le_of_ble_eq_true rfl)⟩ hl.1 rfl (Nat.le_of_ble_eq_true rfl) dX11_cut_10 ⟨(Nat.le_of_ble_eq_true rfl), (Nat.le_of_ble_eq_true rfl)⟩ hP hD hS (pA hA hS) (fun _ h => h) [0, 1] [] [0, 1] rfl rfl rfl rfl rfl (by decide) 0 (ci := 13) rfl rfl rfl (fun u_2 H locs hP hD hS => ?_)
  have hP : va_P D vwCl [(a0, .inr (13, [.ref a1, .ref z0, .ref z1, .ref z2, .ref z3, .ref z4, .int 45, .ref z5, .ref z6, .ref z7, .int 0, .ref z8, .ref z9, .int 0, .int 0, .int 0, .int 0, .ref z10, .int 0, .null, .ref z11, .ref z12])), (a1, .inl (y 0, 3, .inl (fun _ => 0)))] H := hP
  have hD : va_D A [(a0, .inr (13, [.ref a1, .ref z0, .ref z1, .ref z2, .ref z3, .ref z4, .int 45, .ref z5, .ref z6, .ref z7, .int 0, .ref z8, .ref z9, .int 0, .int 0, .int 0, .int 0, .ref z10, .int 0, .null, .ref z11, .ref z12])), (a1, .inl (y 0, 3, .inl (fun _ => 0)))] := hD
  refine W.widen (k := 0) (n := 0) (Nat.le_of_ble_eq_true rfl) (Nat.le_of_ble_eq_true rfl) ?_
  refine W.eq (g2 := F0 m 13 ls [.int 0]) rfl ?_
  refine lv_istore (lv' := [(5, .int 0), (4, .int 2), (0, .ref a0), (1, .int 109), (2, .int p0), (3, .int p1)]) hx hb dX11_cut_13 hl (by decide) rfl (fun ls hl => ?_)
  refine lv_iload hx hb dX11_cut_15 (lv_at hl 0 rfl) ?_
  refine lv_if_eq (tgt := 44) hx hb dX11_cut_17 (by decide) (fun _ => ?_) (fun c => absurd (by decide) c)
  refine lv_iconst (v := 0) hx hb dX11_cut_44 (by decide) ?_
  refine lv_istore (lv' := [(6, .int 0), (5, .int 0), (4, .int 2), (0, .ref a0), (1, .int 109), (2, .int p0), (3, .int p1)]) hx hb dX11_cut_45 hl (by decide) rfl (fun ls hl => ?_)
  refine lv_aload_n hx hb dX11_cut_47 rfl (lv_at hl 3 rfl) ?_
  refine lv_iload hx hb dX11_cut_48 (lv_at hl 2 rfl) ?_
  refine lv_if_ge (tgt := 57) hx hb dX11_cut_50 (by decide) (fun _ => ?_) (fun c => absurd (by decide) c)
  refine lv_iconst (v := 0) hx hb dX11_cut_57 (by decide) ?_
  refine lv_iload hx hb dX11_cut_58 (lv_at hl 1 rfl) ?_
  refine lv_if_ne (tgt := 67) hx hb dX11_cut_60 (by decide) (fun c => absurd (by decide) c) (fun _ => ?_)
  refine lv_iconst (v := 1) hx hb dX11_cut_63 (by decide) ?_
  refine lv_goto (tgt := 68) hx hb dX11_cut_64 (by decide) ?_
  refine lv_iload hx hb dX11_cut_68 (lv_at hl 0 rfl) ?_
  refine cV (l := l) (yM := yX11_fails) (C := RX11) (As := [.int 0, .int 1, .int 0]) (rest := []) (wr := [(a1, .inl (y 0, 3, .inl (fun _ => 0)))]) hF (c123_X11_fails l a0 a1 z0 z1 z2 z3 z4 z5 z6 z7 z8 z9 z10 z11 z12) gv_RX11_128 3 (by decide +kernel) rfl ⟨(Nat.le_of_ble_eq_true rfl), (Nat.le_of_ble_eq_true rfl)⟩ hl.1 rfl (Nat.le_of_ble_eq_true rfl) dX11_cut_70 ⟨(Nat.le_of_ble_eq_true rfl), (Nat.le_of_ble_eq_true rfl)⟩ hP hD hS (va_free (wc := [(a0, .inr (13, [.ref a1, .ref z0, .ref z1, .ref z2, .ref z3, .ref z4, .int 45, .ref z5, .ref z6, .ref z7, .int 0, .ref z8, .ref z9, .int 0, .int 0, .int 0, .int 0, .ref z10, .int 0, .null, .ref z11, .ref z12]))]) hD hS hA [0] rfl) (fun _ h => h) [0] [0] [1] rfl rfl rfl rfl rfl (by decide) 0 (ci := 13) rfl rfl rfl (fun u_3 H locs hP hD hS => ?_)
  have hP : va_P D vwCl [(a1, .inl (y 0, 3, .inl (fun _ => 0))), (a0, .inr (13, [.ref a1, .ref z0, .ref z1, .ref z2, .ref z3, .ref z4, .int 45, .ref z5, .ref z6, .ref z7, .int 0, .ref z8, .ref z9, .int 0, .int 0, .int 2, .int 0, .ref z10, .int 0, .null, .ref z11, .ref z12]))] H := hP
  have hD : va_D A [(a1, .inl (y 0, 3, .inl (fun _ => 0))), (a0, .inr (13, [.ref a1, .ref z0, .ref z1, .ref z2, .ref z3, .ref z4, .int 45, .ref z5, .ref z6, .ref z7, .int 0, .ref z8, .ref z9, .int 0, .int 0, .int 2, .int 0, .ref z10, .int 0, .null, .ref z11, .ref z12]))] := hD
  refine W.widen (k := 0) (n := 0) (Nat.le_of_ble_eq_true rfl) (Nat.le_of_ble_eq_true rfl) ?_
  refine W.eq (g2 := F0 m 73 ls [.int 1]) rfl ?_
  refine lv_if_eq (tgt := 78) hx hb dX11_cut_73 (by decide) (fun c => absurd c (by decide)) (fun _ => ?_)
  refine lv_iconst (v := 0) hx hb dX11_cut_76 (by decide) ?_
  exact e_i hF hr (Nat.le_of_ble_eq_true rfl) (Nat.le_of_ble_eq_true rfl) hS (qg_end hS (fun _ => 0) rfl [1, 0] hP rfl (hD.sub [1, 0] rfl rfl)) dX11_cut_77

set_option maxHeartbeats 4000000 in
set_option maxRecDepth 100000 in
theorem c186_X10_cut (l : Launch) (hlt : l.stackTraces = false) (a0 : Nat) (z0 : Nat) (z1 : Nat) (z2 : Nat) (z3 : Nat) (z4 : Nat) (z5 : Nat) (z6 : Nat) (z7 : Nat) (z8 : Nat) (z9 : Nat) (z10 : Nat) (z11 : Nat) (z12 : Nat) (z13 : Nat) (z14 : Nat) (p0 : Int32) (p1 : Int32) (p2 : Int32) (f0 : ¬ p0 = 112) (f1 : ¬ p0 = 104) (f2 : ¬ p0 = 109) : CX l (.code yX10_cut cX10_cut 6 (some .int)) yX10_cut { frames := 8, cells := 1, slots := 6, locals := 134 } [.ref a0, .int p0, .int p1, .int p2] (fun y => [(a0, .inr (12, [.ref z0, .ref z1, .ref z2, .ref z3, .ref z4, .ref z5, .ref z6, .ref z7, .ref z8, .ref z9, .ref z10, .ref z11, .ref z12, .ref z13, .ref z14]))]) (fun _ => []) "java/lang/IllegalArgumentException" := by
  refine mkX (by decide) (Nat.le_of_ble_eq_true rfl) ?_
  intro p e s m args below meth c D y A ls hF htb hAe hP hD hS hl
  have hF : FX p e s m args meth c cX10_cut 6 RX10 "cut" D y A := hF
  obtain ⟨⟨hx, hb, hml, hown, hts⟩, hev, heh, hA, hlk, hnm⟩ := id hF
  have hK := hev.1
  have hP : va_P D vwCl [(a0, .inr (12, [.ref z0, .ref z1, .ref z2, .ref z3, .ref z4, .ref z5, .ref z6, .ref z7, .ref z8, .ref z9, .ref z10, .ref z11, .ref z12, .ref z13, .ref z14]))] s.heap := hP
  have hD : va_D (fun _ => True) [(a0, .inr (12, [.ref z0, .ref z1, .ref z2, .ref z3, .ref z4, .ref z5, .ref z6, .ref z7, .ref z8, .ref z9, .ref z10, .ref z11, .ref z12, .ref z13, .ref z14]))] := hD
  have hl : lv_has ls 6 [(0, .ref a0), (1, .int p0), (2, .int p1), (3, .int p2)] := hl
  refine lv_aload_n hx hb dX10_cut_0 rfl (lv_at hl 0 rfl) ?_
  refine lv_iload_n hx hb dX10_cut_1 rfl (lv_at hl 1 rfl) ?_
  refine lv_iload_n hx hb dX10_cut_2 rfl (lv_at hl 2 rfl) ?_
  exact xV (l := l) (yM := yX10_needOne) (C := RX10) (As := [.int p0, .int p1]) (rest := []) hF htb (c136_X10_needOne l hlt a0 z0 z1 z2 z3 z4 z5 z6 z7 z8 z9 z10 z11 z12 z13 z14 p0 p1 f0 f1 f2) gv_RX10_161 2 (by decide +kernel) rfl ⟨(Nat.le_of_ble_eq_true rfl), (Nat.le_of_ble_eq_true rfl)⟩ hl.1 rfl (Nat.le_of_ble_eq_true rfl) dX10_cut_3 ⟨(Nat.le_of_ble_eq_true rfl), (Nat.le_of_ble_eq_true rfl)⟩ hP hD hS (pA hA hS) [0] rfl rfl 0 (ci := 12) rfl rfl rfl ⟨(Nat.le_of_ble_eq_true rfl), (Nat.le_of_ble_eq_true rfl)⟩

set_option maxHeartbeats 4000000 in
set_option maxRecDepth 100000 in
theorem c186_L_cut (l : Launch) (hlt : l.stackTraces = false) (a0 : Nat) (z0 : Nat) (z1 : Nat) (z2 : Nat) (z3 : Nat) (z4 : Nat) (z5 : Nat) (z6 : Nat) (z7 : Nat) (z8 : Nat) (z9 : Nat) (z10 : Nat) (z11 : Nat) (z12 : Nat) (z13 : Nat) (z14 : Nat) (p0 : Int32) (p1 : Int32) (p2 : Int32) (z15 : Nat) (f0 : ¬ p0 = 112) (f1 : ¬ p0 = 104) (f2 : ¬ p0 = 109) : CT l (.codeWith yL_cut cL_cut 6 (some .int) [(0, 12, 15, 13), (0, 12, 19, 24), (0, 12, 23, 36)]) yL_cut { frames := 9, cells := 1, slots := 6, locals := 159 } [.ref a0, .int p0, .int p1, .int p2, .ref z15] (fun y => [(a0, .inr (12, [.ref z0, .ref z1, .ref z2, .ref z3, .ref z4, .ref z5, .ref z6, .ref z7, .ref z8, .ref z9, .ref z10, .ref z11, .ref z12, .ref z13, .ref z14]))]) (fun _ => []) (fun u => some (.int 1)) (fun y u => []) := by
  refine mkH (by decide) (Nat.le_of_ble_eq_true rfl) ?_
  intro p e s m args below meth c D y A ls hF htab hr hAe hP hD hS hl
  have hF : FX p e s m args meth c cL_cut 6 RL "cut" D y A := hF
  obtain ⟨⟨hx, hb, hml, hown, hts⟩, hev, heh, hA, hlk, hnm⟩ := id hF
  have hK := hev.1
  have hP : va_P D vwCl [(a0, .inr (12, [.ref z0, .ref z1, .ref z2, .ref z3, .ref z4, .ref z5, .ref z6, .ref z7, .ref z8, .ref z9, .ref z10, .ref z11, .ref z12, .ref z13, .ref z14]))] s.heap := hP
  have hD : va_D (fun _ => True) [(a0, .inr (12, [.ref z0, .ref z1, .ref z2, .ref z3, .ref z4, .ref z5, .ref z6, .ref z7, .ref z8, .ref z9, .ref z10, .ref z11, .ref z12, .ref z13, .ref z14]))] := hD
  have hl : lv_has ls 6 [(0, .ref a0), (1, .int p0), (2, .int p1), (3, .int p2), (4, .ref z15)] := hl
  refine lv_aload hx hb dL_cut_0 (lv_at hl 4 rfl) ?_
  refine lv_iconst (v := 0) hx hb dL_cut_2 (by decide) ?_
  refine lv_aload_n hx hb dL_cut_3 rfl (lv_at hl 0 rfl) ?_
  refine lv_iload_n hx hb dL_cut_4 rfl (lv_at hl 1 rfl) ?_
  refine lv_iload_n hx hb dL_cut_5 rfl (lv_at hl 2 rfl) ?_
  refine lv_iload_n hx hb dL_cut_6 rfl (lv_at hl 3 rfl) ?_
  refine hV (wr := [(a0, .inr (12, [.ref z0, .ref z1, .ref z2, .ref z3, .ref z4, .ref z5, .ref z6, .ref z7, .ref z8, .ref z9, .ref z10, .ref z11, .ref z12, .ref z13, .ref z14]))]) (name := "java/lang/IllegalArgumentException") (E0 := "java/lang/IllegalArgumentException") (l := l) (yM := yX10_cut) (C := RX10) (As := [.int p0, .int p1, .int p2]) (rest := [.int 0, .ref z15]) hF (c186_X10_cut l hlt a0 z0 z1 z2 z3 z4 z5 z6 z7 z8 z9 z10 z11 z12 z13 z14 p0 p1 p2 f0 f1 f2) gv_RL_52 3 (by decide +kernel) rfl ⟨(Nat.le_of_ble_eq_true rfl), (Nat.le_of_ble_eq_true rfl)⟩ hl.1 rfl (Nat.le_of_ble_eq_true rfl) dL_cut_7 ⟨(Nat.le_of_ble_eq_true rfl), (Nat.le_of_ble_eq_true rfl)⟩ hP hD hS (pA hA hS) (fun _ _ => trivial) [0] [] [0] rfl rfl rfl rfl rfl (by decide) 0 (ci := 12) rfl rfl rfl [] ⟨0, 12, 15, 13⟩ [⟨0, 12, 19, 24⟩, ⟨0, 12, 23, 36⟩] htab (fun z hz => nomatch hz) (by decide) (by decide) wd_235 (by decide) (fun q9 H locs hP hD hS => ?_)
  have hP : va_P D vwCl [(a0, .inr (12, [.ref z0, .ref z1, .ref z2, .ref z3, .ref z4, .ref z5, .ref z6, .ref z7, .ref z8, .ref z9, .ref z10, .ref z11, .ref z12, .ref z13, .ref z14]))] H := hP
  have hD : va_D (fun _ => True) [(a0, .inr (12, [.ref z0, .ref z1, .ref z2, .ref z3, .ref z4, .ref z5, .ref z6, .ref z7, .ref z8, .ref z9, .ref z10, .ref z11, .ref z12, .ref z13, .ref z14]))] := hD
  refine W.widen (k := 1) (n := 6) (Nat.le_of_ble_eq_true rfl) (Nat.le_of_ble_eq_true rfl) ?_
  refine W.eq (g2 := F0 m 15 ls [.ref q9]) rfl ?_
  refine lv_astore (lv' := [(5, .ref q9), (0, .ref a0), (1, .int p0), (2, .int p1), (3, .int p2), (4, .ref z15)]) hx hb dL_cut_15 hl (by decide) rfl (fun ls hl => ?_)
  refine lv_iconst (v := 1) hx hb dL_cut_17 (by decide) ?_
  exact e_i hF hr (Nat.le_of_ble_eq_true rfl) (Nat.le_of_ble_eq_true rfl) hS (qg_end hS (fun _ => 0) rfl [] hP rfl d_nil) dL_cut_18

set_option maxHeartbeats 4000000 in
set_option maxRecDepth 100000 in
theorem c188_X11_cut (l : Launch) (a0 : Nat) (z0 : Nat) (z1 : Nat) (z2 : Nat) (z3 : Nat) (z4 : Nat) (z5 : Nat) (z6 : Nat) (z7 : Nat) (z8 : Nat) (z9 : Nat) (z10 : Nat) (z11 : Nat) (z12 : Nat) (z13 : Nat) (p0 : Int32) (p1 : Int32) (p2 : Int32) (f0 : ¬ p0 = 112) (f1 : ¬ p0 = 104) (f2 : ¬ p0 = 109) : CT l (.code yX11_cut cX11_cut 8 (some .int)) yX11_cut { frames := 5, cells := 0, slots := 0, locals := 111 } [.ref a0, .int p0, .int p1, .int p2] (fun y => [(a0, .inr (13, [.ref z0, .ref z1, .ref z2, .ref z3, .ref z4, .ref z5, .int 45, .ref z6, .ref z7, .ref z8, .int 0, .ref z9, .ref z10, .int 0, .int 0, .int 0, .int 0, .ref z11, .int 0, .null, .ref z12, .ref z13]))]) (fun y => [(a0, .inr (13, [.ref z0, .ref z1, .ref z2, .ref z3, .ref z4, .ref z5, .int 45, .ref z6, .ref z7, .ref z8, .int 0, .ref z9, .ref z10, .int 0, .int 0, .int 0, .int 0, .ref z11, .int 0, .null, .ref z12, .ref z13]))]) (fun u => some (.int 0)) (fun y u => [(a0, .inr (13, [.ref z0, .ref z1, .ref z2, .ref z3, .ref z4, .ref z5, .int 45, .ref z6, .ref z7, .ref z8, .int 0, .ref z9, .ref z10, .int 0, .int 0, .int 1, .int 0, .ref z11, .int 0, .null, .ref z12, .ref z13]))]) := by
  refine mkM (by decide) (Nat.le_of_ble_eq_true rfl) ?_
  intro p e s m args below meth c D y A ls hF hr hAe hP hD hS hl
  have hF : FX p e s m args meth c cX11_cut 8 RX11 "cut" D y A := hF
  obtain ⟨⟨hx, hb, hml, hown, hts⟩, hev, heh, hA, hlk, hnm⟩ := id hF
  have hK := hev.1
  have hP : va_P D vwCl [(a0, .inr (13, [.ref z0, .ref z1, .ref z2, .ref z3, .ref z4, .ref z5, .int 45, .ref z6, .ref z7, .ref z8, .int 0, .ref z9, .ref z10, .int 0, .int 0, .int 0, .int 0, .ref z11, .int 0, .null, .ref z12, .ref z13]))] s.heap := hP
  have hD : va_D A [(a0, .inr (13, [.ref z0, .ref z1, .ref z2, .ref z3, .ref z4, .ref z5, .int 45, .ref z6, .ref z7, .ref z8, .int 0, .ref z9, .ref z10, .int 0, .int 0, .int 0, .int 0, .ref z11, .int 0, .null, .ref z12, .ref z13]))] := by rw [← hAe]; exact hD.self
  have hl : lv_has ls 8 [(0, .ref a0), (1, .int p0), (2, .int p1), (3, .int p2)] := hl
  refine lv_iload_n hx hb dX11_cut_0 rfl (lv_at hl 1 rfl) ?_
  refine cS (l := l) (yM := yX11_sideOf) (As := [.int p0]) (rest := []) (wr := [(a0, .inr (13, [.ref z0, .ref z1, .ref z2, .ref z3, .ref z4, .ref z5, .int 45, .ref z6, .ref z7, .ref z8, .int 0, .ref z9, .ref z10, .int 0, .int 0, .int 0, .int 0, .ref z11, .int 0, .null, .ref z12, .ref z13]))]) hF (c59_X11_sideOf l p0 f0 f1 f2) gs_RX11_124 1 (by decide +kernel) rfl ⟨(Nat.le_of_ble_eq_true rfl), (Nat.le_of_ble_eq_true rfl)⟩ hl.1 rfl (Nat.le_of_ble_eq_true rfl) dX11_cut_1 ⟨(Nat.le_of_ble_eq_true rfl), (Nat.le_of_ble_eq_true rfl)⟩ hP hD hS (pA hA hS) (fun _ h => h) [] [] [0] rfl rfl rfl rfl rfl (by decide) (fun u_1 H locs hP hD hS => ?_)
  have hP : va_P D vwCl [(a0, .inr (13, [.ref z0, .ref z1, .ref z2, .ref z3, .ref z4, .ref z5, .int 45, .ref z6, .ref z7, .ref z8, .int 0, .ref z9, .ref z10, .int 0, .int 0, .int 0, .int 0, .ref z11, .int 0, .null, .ref z12, .ref z13]))] H := hP
  have hD : va_D A [(a0, .inr (13, [.ref z0, .ref z1, .ref z2, .ref z3, .ref z4, .ref z5, .int 45, .ref z6, .ref z7, .ref z8, .int 0, .ref z9, .ref z10, .int 0, .int 0, .int 0, .int 0, .ref z11, .int 0, .null, .ref z12, .ref z13]))] := hD
  refine W.widen (k := 0) (n := 0) (Nat.le_of_ble_eq_true rfl) (Nat.le_of_ble_eq_true rfl) ?_
  refine W.eq (g2 := F0 m 4 ls [.int (-1)]) rfl ?_
  refine lv_istore (lv' := [(4, .int (-1)), (0, .ref a0), (1, .int p0), (2, .int p1), (3, .int p2)]) hx hb dX11_cut_4 hl (by decide) rfl (fun ls hl => ?_)
  refine lv_aload_n hx hb dX11_cut_6 rfl (lv_at hl 1 rfl) ?_
  refine lv_iload hx hb dX11_cut_7 (lv_at hl 0 rfl) ?_
  refine lv_iload_n hx hb dX11_cut_9 rfl (lv_at hl 3 rfl) ?_
  refine cV (l := l) (yM := yX11_isOne) (C := RX11) (As := [.int (-1), .int p1]) (rest := []) (wr := [(a0, .inr (13, [.ref z0, .ref z1, .ref z2, .ref z3, .ref z4, .ref z5, .int 45, .ref z6, .ref z7, .ref z8, .int 0, .ref z9, .ref z10, .int 0, .int 0, .int 0, .int 0, .ref z11, .int 0, .null, .ref z12, .ref z13]))]) hF (c139_X11_isOne l a0 p1) gv_RX11_155 2 (by decide +kernel) rfl ⟨(Nat.le_of_ble_eq_true rfl), (Nat.le_of_ble_eq_true rfl)⟩ hl.1 rfl (Nat.le_of_ble_eq_true rfl) dX11_cut_10 ⟨(Nat.le_of_ble_eq_true rfl), (Nat.le_of_ble_eq_true rfl)⟩ hP hD hS (pA hA hS) (fun _ h => h) [] [] [0] rfl rfl rfl rfl rfl (by decide) 0 (ci := 13) rfl rfl rfl (fun u_2 H locs hP hD hS => ?_)
  have hP : va_P D vwCl [(a0, .inr (13, [.ref z0, .ref z1, .ref z2, .ref z3, .ref z4, .ref z5, .int 45, .ref z6, .ref z7, .ref z8, .int 0, .ref z9, .ref z10, .int 0, .int 0, .int 0, .int 0, .ref z11, .int 0, .null, .ref z12, .ref z13]))] H := hP
  have hD : va_D A [(a0, .inr (13, [.ref z0, .ref z1, .ref z2, .ref z3, .ref z4, .ref z5, .int 45, .ref z6, .ref z7, .ref z8, .int 0, .ref z9, .ref z10, .int 0, .int 0, .int 0, .int 0, .ref z11, .int 0, .null, .ref z12, .ref z13]))] := hD
  refine W.widen (k := 0) (n := 0) (Nat.le_of_ble_eq_true rfl) (Nat.le_of_ble_eq_true rfl) ?_
  refine W.eq (g2 := F0 m 13 ls [.int 0]) rfl ?_
  refine lv_istore (lv' := [(5, .int 0), (4, .int (-1)), (0, .ref a0), (1, .int p0), (2, .int p1), (3, .int p2)]) hx hb dX11_cut_13 hl (by decide) rfl (fun ls hl => ?_)
  refine lv_iload hx hb dX11_cut_15 (lv_at hl 0 rfl) ?_
  refine lv_if_eq (tgt := 44) hx hb dX11_cut_17 (by decide) (fun _ => ?_) (fun c => absurd (by decide) c)
  refine lv_iconst (v := 0) hx hb dX11_cut_44 (by decide) ?_
  refine lv_istore (lv' := [(6, .int 0), (5, .int 0), (4, .int (-1)), (0, .ref a0), (1, .int p0), (2, .int p1), (3, .int p2)]) hx hb dX11_cut_45 hl (by decide) rfl (fun ls hl => ?_)
  refine lv_aload_n hx hb dX11_cut_47 rfl (lv_at hl 3 rfl) ?_
  refine lv_iload hx hb dX11_cut_48 (lv_at hl 2 rfl) ?_
  refine lv_if_ge (tgt := 57) hx hb dX11_cut_50 (by decide) (fun c => absurd c (by decide)) (fun _ => ?_)
  refine lv_iconst (v := 1) hx hb dX11_cut_53 (by decide) ?_
  refine lv_goto (tgt := 58) hx hb dX11_cut_54 (by decide) ?_
  refine lv_iload hx hb dX11_cut_58 (lv_at hl 1 rfl) ?_
  refine lv_if_ne (tgt := 67) hx hb dX11_cut_60 (by decide) (fun c => absurd (by decide) c) (fun _ => ?_)
  refine lv_iconst (v := 1) hx hb dX11_cut_63 (by decide) ?_
  refine lv_goto (tgt := 68) hx hb dX11_cut_64 (by decide) ?_
  refine lv_iload hx hb dX11_cut_68 (lv_at hl 0 rfl) ?_
  refine cV (l := l) (yM := yX11_fails) (C := RX11) (As := [.int 1, .int 1, .int 0]) (rest := []) (wr := []) hF (c89_X11_fails l a0 z0 z1 z2 z3 z4 z5 z6 z7 z8 z9 z10 z11 z12 z13) gv_RX11_128 3 (by decide +kernel) rfl ⟨(Nat.le_of_ble_eq_true rfl), (Nat.le_of_ble_eq_true rfl)⟩ hl.1 rfl (Nat.le_of_ble_eq_true rfl) dX11_cut_70 ⟨(Nat.le_of_ble_eq_true rfl), (Nat.le_of_ble_eq_true rfl)⟩ hP hD hS (va_free (wc := [(a0, .inr (13, [.ref z0, .ref z1, .ref z2, .ref z3, .ref z4, .ref z5, .int 45, .ref z6, .ref z7, .ref z8, .int 0, .ref z9, .ref z10, .int 0, .int 0, .int 0, .int 0, .ref z11, .int 0, .null, .ref z12, .ref z13]))]) hD hS hA [0] rfl) (fun _ h => h) [0] [0] [] rfl rfl rfl rfl rfl (by decide) 0 (ci := 13) rfl rfl rfl (fun u_3 H locs hP hD hS => ?_)
  have hP : va_P D vwCl [(a0, .inr (13, [.ref z0, .ref z1, .ref z2, .ref z3, .ref z4, .ref z5, .int 45, .ref z6, .ref z7, .ref z8, .int 0, .ref z9, .ref z10, .int 0, .int 0, .int 1, .int 0, .ref z11, .int 0, .null, .ref z12, .ref z13]))] H := hP
  have hD : va_D A [(a0, .inr (13, [.ref z0, .ref z1, .ref z2, .ref z3, .ref z4, .ref z5, .int 45, .ref z6, .ref z7, .ref z8, .int 0, .ref z9, .ref z10, .int 0, .int 0, .int 1, .int 0, .ref z11, .int 0, .null, .ref z12, .ref z13]))] := hD
  refine W.widen (k := 0) (n := 0) (Nat.le_of_ble_eq_true rfl) (Nat.le_of_ble_eq_true rfl) ?_
  refine W.eq (g2 := F0 m 73 ls [.int 1]) rfl ?_
  refine lv_if_eq (tgt := 78) hx hb dX11_cut_73 (by decide) (fun c => absurd c (by decide)) (fun _ => ?_)
  refine lv_iconst (v := 0) hx hb dX11_cut_76 (by decide) ?_
  exact e_i hF hr (Nat.le_of_ble_eq_true rfl) (Nat.le_of_ble_eq_true rfl) hS (qg_end hS (fun _ => 0) rfl [0] hP rfl (hD.sub [0] rfl rfl)) dX11_cut_77

set_option maxHeartbeats 4000000 in
set_option maxRecDepth 100000 in
theorem c189_X10_needOfferSide (l : Launch) (z0 : Nat) : CT l (.code yX10_needOfferSide cX10_needOfferSide 2 none) yX10_needOfferSide { frames := 0, cells := 0, slots := 0, locals := 0 } [.ref z0, .int 112] (fun y => []) (fun _ => []) (fun u => none) (fun y u => []) := by
  refine mkM (by decide) (Nat.le_of_ble_eq_true rfl) ?_
  intro p e s m args below meth c D y A ls hF hr hAe hP hD hS hl
  have hF : FX p e s m args meth c cX10_needOfferSide 2 RX10 "needOfferSide" D y A := hF
  obtain ⟨⟨hx, hb, hml, hown, hts⟩, hev, heh, hA, hlk, hnm⟩ := id hF
  have hK := hev.1
  have hP : va_P D vwCl [] s.heap := hP
  have hD : va_D A [] := by rw [← hAe]; exact hD.self
  have hl : lv_has ls 2 [(0, .ref z0), (1, .int 112)] := hl
  refine lv_iload_n hx hb dX10_needOfferSide_0 rfl (lv_at hl 1 rfl) ?_
  refine lv_bipush (v := 112) hx hb dX10_needOfferSide_1 (by decide) ?_
  refine lv_icmp_eq (tgt := 23) hx hb dX10_needOfferSide_3 (by decide) (fun _ => ?_) (fun c => absurd (by decide) c)
  exact e_v hF hr (Nat.le_of_ble_eq_true rfl) (Nat.le_of_ble_eq_true rfl) hS (qg_end hS (fun _ => 0) rfl [] hP rfl d_nil) dX10_needOfferSide_23

set_option maxHeartbeats 4000000 in
set_option maxRecDepth 100000 in
theorem c190_X4_start (l : Launch) (a0 : Nat) (a1 : Nat) (z0 : Nat) (z1 : Nat) : CT l (.code yX4_start cX4_start 2 none) yX4_start { frames := 1, cells := 0, slots := 0, locals := 23 } [.ref a0, .int 112] (fun y => [(a0, .inr (6, [.int 0, .int 0, .int 0, .ref a1, .ref z0, .ref z1])), (a1, .inl (y 0, 10, .inl (fun _ => 0)))]) (fun y => [(a0, .inr (6, [.int 0, .int 0, .int 0, .ref a1, .ref z0, .ref z1])), (a1, .inl (y 0, 10, .inl (fun _ => 0)))]) (fun u => none) (fun y u => [(a0, .inr (6, [.int 1, .int 0, .int 0, .ref a1, .ref z0, .ref z1])), (a1, .inl (y 0, 10, .inl (fun _ => 0)))]) := by
  refine mkM (by decide) (Nat.le_of_ble_eq_true rfl) ?_
  intro p e s m args below meth c D y A ls hF hr hAe hP hD hS hl
  have hF : FX p e s m args meth c cX4_start 2 RX4 "start" D y A := hF
  obtain ⟨⟨hx, hb, hml, hown, hts⟩, hev, heh, hA, hlk, hnm⟩ := id hF
  have hK := hev.1
  have hP : va_P D vwCl [(a0, .inr (6, [.int 0, .int 0, .int 0, .ref a1, .ref z0, .ref z1])), (a1, .inl (y 0, 10, .inl (fun _ => 0)))] s.heap := hP
  have hD : va_D A [(a0, .inr (6, [.int 0, .int 0, .int 0, .ref a1, .ref z0, .ref z1])), (a1, .inl (y 0, 10, .inl (fun _ => 0)))] := by rw [← hAe]; exact hD.self
  have hl : lv_has ls 2 [(0, .ref a0), (1, .int 112)] := hl
  refine lv_aload_n hx hb dX4_start_0 rfl (lv_at hl 0 rfl) ?_
  refine lv_iconst (v := 1) hx hb dX4_start_1 (by decide) ?_
  refine va_put (D := D) (ci := 6) (v := .int 1) (ty := .boolean) (C := RX4) (T := TX4) (N := 6) hx hb hts inX4 tyX4 tyX4_ok nmX4 hown hK hP hD hS 0 rfl rfl 0 (by decide) (hts _ wd_155) (fun _ h9 => h9) rfl (by decide +kernel) (by decide) (by decide) (Nat.le_of_ble_eq_true rfl) dX4_start_2 (fun H locs hP hD hS => ?_)
  have hP : va_P D vwCl [(a0, .inr (6, [.int 1, .int 0, .int 0, .ref a1, .ref z0, .ref z1])), (a1, .inl (y 0, 10, .inl (fun _ => 0)))] H := hP
  have hD : va_D A [(a0, .inr (6, [.int 1, .int 0, .int 0, .ref a1, .ref z0, .ref z1])), (a1, .inl (y 0, 10, .inl (fun _ => 0)))] := hD
  refine lv_aload_n hx hb dX4_start_5 rfl (lv_at hl 0 rfl) ?_
  refine lv_iload_n hx hb dX4_start_6 rfl (lv_at hl 1 rfl) ?_
  refine lv_bipush (v := 104) hx hb dX4_start_7 (by decide) ?_
  refine lv_icmp_ne (tgt := 16) hx hb dX4_start_9 (by decide) (fun _ => ?_) (fun c => absurd c (by decide))
  refine lv_iconst (v := 0) hx hb dX4_start_16 (by decide) ?_
  refine va_put (D := D) (ci := 6) (v := .int 0) (ty := .boolean) (C := RX4) (T := TX4) (N := 6) hx hb hts inX4 tyX4 tyX4_ok nmX4 hown hK hP hD hS 0 rfl rfl 1 (by decide) (hts _ wd_397) (fun _ h9 => h9) rfl (by decide +kernel) (by decide) (by decide) (Nat.le_of_ble_eq_true rfl) dX4_start_17 (fun H locs hP hD hS => ?_)
  have hP : va_P D vwCl [(a0, .inr (6, [.int 1, .int 0, .int 0, .ref a1, .ref z0, .ref z1])), (a1, .inl (y 0, 10, .inl (fun _ => 0)))] H := hP
  have hD : va_D A [(a0, .inr (6, [.int 1, .int 0, .int 0, .ref a1, .ref z0, .ref z1])), (a1, .inl (y 0, 10, .inl (fun _ => 0)))] := hD
  refine lv_aload_n hx hb dX4_start_20 rfl (lv_at hl 0 rfl) ?_
  refine lv_iconst (v := 0) hx hb dX4_start_21 (by decide) ?_
  refine va_put (D := D) (ci := 6) (v := .int 0) (ty := .int) (C := RX4) (T := TX4) (N := 6) hx hb hts inX4 tyX4 tyX4_ok nmX4 hown hK hP hD hS 0 rfl rfl 2 (by decide) (hts _ wd_398) (fun _ h9 => h9) rfl (by decide +kernel) rfl rfl (Nat.le_of_ble_eq_true rfl) dX4_start_22 (fun H locs hP hD hS => ?_)
  have hP : va_P D vwCl [(a0, .inr (6, [.int 1, .int 0, .int 0, .ref a1, .ref z0, .ref z1])), (a1, .inl (y 0, 10, .inl (fun _ => 0)))] H := hP
  have hD : va_D A [(a0, .inr (6, [.int 1, .int 0, .int 0, .ref a1, .ref z0, .ref z1])), (a1, .inl (y 0, 10, .inl (fun _ => 0)))] := hD
  refine lv_aload_n hx hb dX4_start_25 rfl (lv_at hl 0 rfl) ?_
  refine va_get (D := D) (ci := 6) (v := .ref a1) (C := RX4) (T := TX4) (N := 6) hx hb hts inX4 hown hK hP 0 rfl rfl 3 (by decide) (hts _ wd_52) (fun _ h9 => h9) rfl dX4_start_26 ?_
  refine lv_iconst (v := 0) hx hb dX4_start_29 (by decide) ?_
  refine cS (l := l) (yM := yJ7_fill_53178) (As := [.ref a1, .int 0]) (rest := []) (wr := [(a0, .inr (6, [.int 1, .int 0, .int 0, .ref a1, .ref z0, .ref z1]))]) hF (c17_J7_fill_53178 l a1) gs_RX4_33 2 (by decide +kernel) rfl ⟨(Nat.le_of_ble_eq_true rfl), (Nat.le_of_ble_eq_true rfl)⟩ hl.1 rfl (Nat.le_of_ble_eq_true rfl) dX4_start_30 ⟨(Nat.le_of_ble_eq_true rfl), (Nat.le_of_ble_eq_true rfl)⟩ hP hD hS (va_free (wc := [(a1, .inl (y 0, 10, .inl (fun _ => 0)))]) hD hS hA [1] rfl) (fun _ h => h) [1] [1] [0] rfl rfl rfl rfl rfl (by decide) (fun u_1 H locs hP hD hS => ?_)
  have hP : va_P D vwCl [(a0, .inr (6, [.int 1, .int 0, .int 0, .ref a1, .ref z0, .ref z1])), (a1, .inl (y 0, 10, .inl (fun _ => 0)))] H := hP
  have hD : va_D A [(a0, .inr (6, [.int 1, .int 0, .int 0, .ref a1, .ref z0, .ref z1])), (a1, .inl (y 0, 10, .inl (fun _ => 0)))] := hD
  refine W.widen (k := 0) (n := 0) (Nat.le_of_ble_eq_true rfl) (Nat.le_of_ble_eq_true rfl) ?_
  refine W.eq (g2 := F0 m 33 ls []) rfl ?_
  exact e_v hF hr (Nat.le_of_ble_eq_true rfl) (Nat.le_of_ble_eq_true rfl) hS (qg_end hS (fun _ => 0) rfl [0, 1] hP rfl (hD.sub [0, 1] rfl rfl)) dX4_start_33

set_option maxHeartbeats 4000000 in
set_option maxRecDepth 100000 in
theorem c191_X4_offerers (l : Launch) (a0 : Nat) (a1 : Nat) (z0 : Nat) (z1 : Nat) (z2 : Nat) (z3 : Nat) (z4 : Nat) (z5 : Nat) : CT l (.code yX4_offerers cX4_offerers 2 (some (.object "StablepairBureau$Lists"))) yX4_offerers { frames := 0, cells := 0, slots := 0, locals := 0 } [.ref a1, .ref a0] (fun y => [(a0, .inr (5, [.ref z0, .ref z1, .ref z2])), (a1, .inr (6, [.int 1, .int 0, .int 0, .ref z3, .ref z4, .ref z5]))]) (fun _ => []) (fun u => some (.ref z0)) (fun y u => []) := by
  refine mkM (by decide) (Nat.le_of_ble_eq_true rfl) ?_
  intro p e s m args below meth c D y A ls hF hr hAe hP hD hS hl
  have hF : FX p e s m args meth c cX4_offerers 2 RX4 "offerers" D y A := hF
  obtain ⟨⟨hx, hb, hml, hown, hts⟩, hev, heh, hA, hlk, hnm⟩ := id hF
  have hK := hev.1
  have hP : va_P D vwCl [(a0, .inr (5, [.ref z0, .ref z1, .ref z2])), (a1, .inr (6, [.int 1, .int 0, .int 0, .ref z3, .ref z4, .ref z5]))] s.heap := hP
  have hD : va_D (fun _ => True) [(a0, .inr (5, [.ref z0, .ref z1, .ref z2])), (a1, .inr (6, [.int 1, .int 0, .int 0, .ref z3, .ref z4, .ref z5]))] := hD
  have hl : lv_has ls 2 [(0, .ref a1), (1, .ref a0)] := hl
  refine lv_aload_n hx hb dX4_offerers_0 rfl (lv_at hl 0 rfl) ?_
  refine va_get (D := D) (ci := 6) (v := .int 0) (C := RX4) (T := TX4) (N := 6) hx hb hts inX4 hown hK hP 1 rfl rfl 1 (by decide) (hts _ wd_397) (fun _ h9 => h9) rfl dX4_offerers_1 ?_
  refine lv_if_eq (tgt := 14) hx hb dX4_offerers_4 (by decide) (fun _ => ?_) (fun c => absurd (by decide) c)
  refine lv_aload_n hx hb dX4_offerers_14 rfl (lv_at hl 1 rfl) ?_
  refine va_getN (D := D) (ci := 5) (v := .ref z0) (C := RX3) (T := TX3) (N := 3) hx hb hts inX3 hown hK hP 0 rfl rfl 0 (by decide) (va_Nw.use (A := args) rfl (hev.2.1 (RX4, 45, RX3, "persons", "LStablepairBureau$Lists;") (List.mem_of_getElem? (i := 6) rfl))) (fun _ h9 => h9) rfl dX4_offerers_15 ?_
  exact e_a hF hr (Or.inl ⟨_, rfl⟩) (Nat.le_of_ble_eq_true rfl) (Nat.le_of_ble_eq_true rfl) hS (qg_end hS (fun _ => 0) rfl [] hP rfl d_nil) dX4_offerers_18

set_option maxHeartbeats 4000000 in
set_option maxRecDepth 100000 in
theorem c192_X2_sizeOf (l : Launch) (a0 : Nat) (z0 : Nat) (z1 : Nat) (z2 : Nat) (p0 : Int32) : CT l (.code yX2_sizeOf cX2_sizeOf 2 (some .int)) yX2_sizeOf { frames := 0, cells := 0, slots := 0, locals := 0 } [.ref a0, .int p0] (fun y => [(a0, .inr (4, [.int 0, .ref z0, .ref z1, .ref z2]))]) (fun _ => []) (fun u => some (.int 0)) (fun y u => []) := by
  refine mkM (by decide) (Nat.le_of_ble_eq_true rfl) ?_
  intro p e s m args below meth c D y A ls hF hr hAe hP hD hS hl
  have hF : FX p e s m args meth c cX2_sizeOf 2 RX2 "sizeOf" D y A := hF
  obtain ⟨⟨hx, hb, hml, hown, hts⟩, hev, heh, hA, hlk, hnm⟩ := id hF
  have hK := hev.1
  have hP : va_P D vwCl [(a0, .inr (4, [.int 0, .ref z0, .ref z1, .ref z2]))] s.heap := hP
  have hD : va_D (fun _ => True) [(a0, .inr (4, [.int 0, .ref z0, .ref z1, .ref z2]))] := hD
  have hl : lv_has ls 2 [(0, .ref a0), (1, .int p0)] := hl
  refine lv_iload_n hx hb dX2_sizeOf_0 rfl (lv_at hl 1 rfl) ?_
  refine lv_if_lt (tgt := 27) hx hb dX2_sizeOf_1 (by decide) (fun c_1 => ?_) (fun c_1 => ?_)
  · refine lv_iconst (v := 0) hx hb dX2_sizeOf_27 (by decide) ?_
    exact e_i hF hr (Nat.le_of_ble_eq_true rfl) (Nat.le_of_ble_eq_true rfl) hS (qg_end hS (fun _ => 0) rfl [] hP rfl d_nil) dX2_sizeOf_28
  · refine lv_iload_n hx hb dX2_sizeOf_4 rfl (lv_at hl 1 rfl) ?_
    refine lv_aload_n hx hb dX2_sizeOf_5 rfl (lv_at hl 0 rfl) ?_
    refine va_get (D := D) (ci := 4) (v := .int 0) (C := RX2) (T := TX2) (N := 4) hx hb hts inX2 hown hK hP 0 rfl rfl 0 (by decide) (hts _ wd_142) (fun _ h9 => h9) rfl dX2_sizeOf_6 ?_
    refine lv_icmp_ge (tgt := 27) hx hb dX2_sizeOf_9 (by decide) (fun _ => ?_) (fun c => absurd (by have e0 : (0 : Int32).toInt = 0 := (by decide); have h9 := c_1; simp only [Int32.lt_iff_toInt_lt, Int32.le_iff_toInt_le, ← Int32.toInt_inj, e0] at h9 ⊢; omega) c)
    refine lv_iconst (v := 0) hx hb dX2_sizeOf_27 (by decide) ?_
    exact e_i hF hr (Nat.le_of_ble_eq_true rfl) (Nat.le_of_ble_eq_true rfl) hS (qg_end hS (fun _ => 0) rfl [] hP rfl d_nil) dX2_sizeOf_28

set_option maxHeartbeats 4000000 in
set_option maxRecDepth 100000 in
theorem c191_X4_canMake (l : Launch) (a0 : Nat) (a1 : Nat) (a2 : Nat) (a3 : Nat) (z0 : Nat) (z1 : Nat) (z2 : Nat) (z3 : Nat) (z4 : Nat) (z5 : Nat) (z6 : Nat) (z7 : Nat) (p0 : Int32) : CT l (.code yX4_canMake cX4_canMake 4 (some .boolean)) yX4_canMake { frames := 1, cells := 0, slots := 0, locals := 21 } [.ref a2, .ref a0, .ref z7, .int p0] (fun y => [(a0, .inr (5, [.ref a1, .ref z0, .ref z1])), (a1, .inr (4, [.int 0, .ref z2, .ref z3, .ref z4])), (a2, .inr (6, [.int 1, .int 0, .int 0, .ref a3, .ref z5, .ref z6])), (a3, .inl (y 0, 10, .inl (fun _ => 0)))]) (fun _ => []) (fun u => some (.int 0)) (fun y u => []) := by
  refine mkM (by decide) (Nat.le_of_ble_eq_true rfl) ?_
  intro p e s m args below meth c D y A ls hF hr hAe hP hD hS hl
  have hF : FX p e s m args meth c cX4_canMake 4 RX4 "canMake" D y A := hF
  obtain ⟨⟨hx, hb, hml, hown, hts⟩, hev, heh, hA, hlk, hnm⟩ := id hF
  have hK := hev.1
  have hP : va_P D vwCl [(a0, .inr (5, [.ref a1, .ref z0, .ref z1])), (a1, .inr (4, [.int 0, .ref z2, .ref z3, .ref z4])), (a2, .inr (6, [.int 1, .int 0, .int 0, .ref a3, .ref z5, .ref z6])), (a3, .inl (y 0, 10, .inl (fun _ => 0)))] s.heap := hP
  have hD : va_D (fun _ => True) [(a0, .inr (5, [.ref a1, .ref z0, .ref z1])), (a1, .inr (4, [.int 0, .ref z2, .ref z3, .ref z4])), (a2, .inr (6, [.int 1, .int 0, .int 0, .ref a3, .ref z5, .ref z6])), (a3, .inl (y 0, 10, .inl (fun _ => 0)))] := hD
  have hl : lv_has ls 4 [(0, .ref a2), (1, .ref a0), (2, .ref z7), (3, .int p0)] := hl
  refine lv_iload_n hx hb dX4_canMake_0 rfl (lv_at hl 3 rfl) ?_
  refine lv_if_lt (tgt := 28) hx hb dX4_canMake_1 (by decide) (fun c_1 => ?_) (fun c_1 => ?_)
  · refine lv_iconst (v := 0) hx hb dX4_canMake_28 (by decide) ?_
    exact e_z hF hr (by decide) (Nat.le_of_ble_eq_true rfl) (Nat.le_of_ble_eq_true rfl) hS (qg_end hS (fun _ => 0) rfl [] hP rfl d_nil) dX4_canMake_29
  · refine lv_iload_n hx hb dX4_canMake_4 rfl (lv_at hl 3 rfl) ?_
    refine lv_bipush (v := 10) hx hb dX4_canMake_5 (by decide) ?_
    refine lv_icmp_ge (tgt := 28) hx hb dX4_canMake_7 (by decide) (fun c_2 => ?_) (fun c_2 => ?_)
    · refine lv_iconst (v := 0) hx hb dX4_canMake_28 (by decide) ?_
      exact e_z hF hr (by decide) (Nat.le_of_ble_eq_true rfl) (Nat.le_of_ble_eq_true rfl) hS (qg_end hS (fun _ => 0) rfl [] hP rfl d_nil) dX4_canMake_29
    · refine lv_aload_n hx hb dX4_canMake_10 rfl (lv_at hl 0 rfl) ?_
      refine va_get (D := D) (ci := 6) (v := .ref a3) (C := RX4) (T := TX4) (N := 6) hx hb hts inX4 hown hK hP 2 rfl rfl 3 (by decide) (hts _ wd_52) (fun _ h9 => h9) rfl dX4_canMake_11 ?_
      refine lv_iload_n hx hb dX4_canMake_14 rfl (lv_at hl 3 rfl) ?_
      refine va_iald hx hb hK hP 3 0 rfl rfl (vin2 (n := 10) c_1 c_2 (by decide)) dX4_canMake_15 ?_
      refine tp_i (v := 0) rfl ?_
      refine lv_aload_n hx hb dX4_canMake_16 rfl (lv_at hl 0 rfl) ?_
      refine lv_aload_n hx hb dX4_canMake_17 rfl (lv_at hl 1 rfl) ?_
      refine cV (l := l) (yM := yX4_offerers) (C := RX4) (As := [.ref a0]) (rest := [.int 0]) (wr := [(a0, .inr (5, [.ref a1, .ref z0, .ref z1])), (a1, .inr (4, [.int 0, .ref z2, .ref z3, .ref z4])), (a2, .inr (6, [.int 1, .int 0, .int 0, .ref a3, .ref z5, .ref z6])), (a3, .inl (y 0, 10, .inl (fun _ => 0)))]) hF (c191_X4_offerers l a0 a2 a1 z0 z1 a3 z5 z6) gv_RX4_48 1 (by decide +kernel) rfl ⟨(Nat.le_of_ble_eq_true rfl), (Nat.le_of_ble_eq_true rfl)⟩ hl.1 rfl (Nat.le_of_ble_eq_true rfl) dX4_canMake_18 ⟨(Nat.le_of_ble_eq_true rfl), (Nat.le_of_ble_eq_true rfl)⟩ hP hD hS (pA hA hS) (fun _ _ => trivial) [0, 2] [] [0, 1, 2, 3] rfl rfl rfl rfl rfl (by decide) 2 (ci := 6) rfl rfl rfl (fun u_3 H locs hP hD hS => ?_)
      have hP : va_P D vwCl [(a0, .inr (5, [.ref a1, .ref z0, .ref z1])), (a1, .inr (4, [.int 0, .ref z2, .ref z3, .ref z4])), (a2, .inr (6, [.int 1, .int 0, .int 0, .ref a3, .ref z5, .ref z6])), (a3, .inl (y 0, 10, .inl (fun _ => 0)))] H := hP
      have hD : va_D (fun _ => True) [(a0, .inr (5, [.ref a1, .ref z0, .ref z1])), (a1, .inr (4, [.int 0, .ref z2, .ref z3, .ref z4])), (a2, .inr (6, [.int 1, .int 0, .int 0, .ref a3, .ref z5, .ref z6])), (a3, .inl (y 0, 10, .inl (fun _ => 0)))] := hD
      refine W.widen (k := 0) (n := 0) (Nat.le_of_ble_eq_true rfl) (Nat.le_of_ble_eq_true rfl) ?_
      refine W.eq (g2 := F0 m 21 ls [.ref a1, .int 0]) rfl ?_
      refine lv_iload_n hx hb dX4_canMake_21 rfl (lv_at hl 3 rfl) ?_
      refine cV (l := l) (yM := yX2_sizeOf) (C := RX2) (As := [.int p0]) (rest := [.int 0]) (wr := [(a0, .inr (5, [.ref a1, .ref z0, .ref z1])), (a1, .inr (4, [.int 0, .ref z2, .ref z3, .ref z4])), (a2, .inr (6, [.int 1, .int 0, .int 0, .ref a3, .ref z5, .ref z6])), (a3, .inl (y 0, 10, .inl (fun _ => 0)))]) hF (c192_X2_sizeOf l a1 z2 z3 z4 p0) gv_RX4_52 1 (by decide +kernel) rfl ⟨(Nat.le_of_ble_eq_true rfl), (Nat.le_of_ble_eq_true rfl)⟩ hl.1 rfl (Nat.le_of_ble_eq_true rfl) dX4_canMake_22 ⟨(Nat.le_of_ble_eq_true rfl), (Nat.le_of_ble_eq_true rfl)⟩ hP hD hS (pA hA hS) (fun _ _ => trivial) [1] [] [0, 1, 2, 3] rfl rfl rfl rfl rfl (by decide) 1 (ci := 4) rfl rfl rfl (fun u_4 H locs hP hD hS => ?_)
      have hP : va_P D vwCl [(a0, .inr (5, [.ref a1, .ref z0, .ref z1])), (a1, .inr (4, [.int 0, .ref z2, .ref z3, .ref z4])), (a2, .inr (6, [.int 1, .int 0, .int 0, .ref a3, .ref z5, .ref z6])), (a3, .inl (y 0, 10, .inl (fun _ => 0)))] H := hP
      have hD : va_D (fun _ => True) [(a0, .inr (5, [.ref a1, .ref z0, .ref z1])), (a1, .inr (4, [.int 0, .ref z2, .ref z3, .ref z4])), (a2, .inr (6, [.int 1, .int 0, .int 0, .ref a3, .ref z5, .ref z6])), (a3, .inl (y 0, 10, .inl (fun _ => 0)))] := hD
      refine W.widen (k := 0) (n := 0) (Nat.le_of_ble_eq_true rfl) (Nat.le_of_ble_eq_true rfl) ?_
      refine W.eq (g2 := F0 m 25 ls [.int 0, .int 0]) rfl ?_
      refine lv_icmp_lt (tgt := 30) hx hb dX4_canMake_25 (by decide) (fun c => absurd c (by decide)) (fun _ => ?_)
      refine lv_iconst (v := 0) hx hb dX4_canMake_28 (by decide) ?_
      exact e_z hF hr (by decide) (Nat.le_of_ble_eq_true rfl) (Nat.le_of_ble_eq_true rfl) hS (qg_end hS (fun _ => 0) rfl [] hP rfl d_nil) dX4_canMake_29

set_option maxHeartbeats 4000000 in
set_option maxRecDepth 100000 in
theorem c191_X4_countAble (l : Launch) (a0 : Nat) (a1 : Nat) (a2 : Nat) (a3 : Nat) (z0 : Nat) (z1 : Nat) (z2 : Nat) (z3 : Nat) (z4 : Nat) (z5 : Nat) (z6 : Nat) (z7 : Nat) : CT l (.code yX4_countAble cX4_countAble 5 (some .int)) yX4_countAble { frames := 2, cells := 0, slots := 0, locals := 44 } [.ref a2, .ref a0, .ref z7] (fun y => [(a0, .inr (5, [.ref a1, .ref z0, .ref z1])), (a1, .inr (4, [.int 0, .ref z2, .ref z3, .ref z4])), (a2, .inr (6, [.int 1, .int 0, .int 0, .ref a3, .ref z5, .ref z6])), (a3, .inl (y 0, 10, .inl (fun _ => 0)))]) (fun _ => []) (fun u => some (.int 0)) (fun y u => []) := by
  refine mkM (by decide) (Nat.le_of_ble_eq_true rfl) ?_
  intro p e s m args below meth c D y A ls hF hr hAe hP hD hS hl
  have hF : FX p e s m args meth c cX4_countAble 5 RX4 "countAble" D y A := hF
  obtain ⟨⟨hx, hb, hml, hown, hts⟩, hev, heh, hA, hlk, hnm⟩ := id hF
  have hK := hev.1
  have hP : va_P D vwCl [(a0, .inr (5, [.ref a1, .ref z0, .ref z1])), (a1, .inr (4, [.int 0, .ref z2, .ref z3, .ref z4])), (a2, .inr (6, [.int 1, .int 0, .int 0, .ref a3, .ref z5, .ref z6])), (a3, .inl (y 0, 10, .inl (fun _ => 0)))] s.heap := hP
  have hD : va_D (fun _ => True) [(a0, .inr (5, [.ref a1, .ref z0, .ref z1])), (a1, .inr (4, [.int 0, .ref z2, .ref z3, .ref z4])), (a2, .inr (6, [.int 1, .int 0, .int 0, .ref a3, .ref z5, .ref z6])), (a3, .inl (y 0, 10, .inl (fun _ => 0)))] := hD
  have hl : lv_has ls 5 [(0, .ref a2), (1, .ref a0), (2, .ref z7)] := hl
  refine lv_iconst (v := 0) hx hb dX4_countAble_0 (by decide) ?_
  refine lv_istore_n (lv' := [(3, .int 0), (0, .ref a2), (1, .ref a0), (2, .ref z7)]) hx hb dX4_countAble_1 rfl hl (by decide) rfl (fun ls hl => ?_)
  refine lv_iconst (v := 0) hx hb dX4_countAble_2 (by decide) ?_
  refine lv_istore (lv' := [(4, .int 0), (3, .int 0), (0, .ref a2), (1, .ref a0), (2, .ref z7)]) hx hb dX4_countAble_3 hl (by decide) rfl (fun ls hl => ?_)
  refine lpF (lo := 0) (N := 10) (by decide) (Wd := fun i => [(a0, .inr (5, [.ref a1, .ref z0, .ref z1])), (a1, .inr (4, [.int 0, .ref z2, .ref z3, .ref z4])), (a2, .inr (6, [.int 1, .int 0, .int 0, .ref a3, .ref z5, .ref z6])), (a3, .inl (y 0, 10, .inl (fun _ => 0)))]) (Lv := fun i => [(4, .int (nI i)), (3, .int 0), (0, .ref a2), (1, .ref a0), (2, .ref z7)]) hP hD hS (lv_sub hl [0, 1, 2, 3, 4] rfl) (fun i hlo_i hi ih_i H locs ls hP hD hS hl => ?_) (fun H locs ls hP hD hS hl => ?_)
  · have hP : va_P D vwCl [(a0, .inr (5, [.ref a1, .ref z0, .ref z1])), (a1, .inr (4, [.int 0, .ref z2, .ref z3, .ref z4])), (a2, .inr (6, [.int 1, .int 0, .int 0, .ref a3, .ref z5, .ref z6])), (a3, .inl (y 0, 10, .inl (fun _ => 0)))] H := hP
    have hD : va_D (fun _ => True) [(a0, .inr (5, [.ref a1, .ref z0, .ref z1])), (a1, .inr (4, [.int 0, .ref z2, .ref z3, .ref z4])), (a2, .inr (6, [.int 1, .int 0, .int 0, .ref a3, .ref z5, .ref z6])), (a3, .inl (y 0, 10, .inl (fun _ => 0)))] := hD
    have hl : lv_has ls 5 [(4, .int (nI i)), (3, .int 0), (0, .ref a2), (1, .ref a0), (2, .ref z7)] := hl
    have hi_1 : (nI i) < (10 : Int32) := nI_lt hi (by decide)
    have hi_0 : ¬ (nI i) < (0 : Int32) := nI_pos (by omega)
    refine lv_iload hx hb dX4_countAble_5 (lv_at hl 0 rfl) ?_
    refine lv_bipush (v := 10) hx hb dX4_countAble_7 (by decide) ?_
    refine lv_icmp_ge (tgt := 32) hx hb dX4_countAble_9 (by decide) (fun c => absurd c (by have e0 : (0 : Int32).toInt = 0 := (by decide); have e1 : (10 : Int32).toInt = 10 := (by decide); have h9 := And.intro hi_1 hi_0; simp only [Int32.lt_iff_toInt_lt, Int32.le_iff_toInt_le, ← Int32.toInt_inj, e0, e1] at h9 ⊢; omega)) (fun _ => ?_)
    refine lv_aload_n hx hb dX4_countAble_12 rfl (lv_at hl 2 rfl) ?_
    refine lv_aload_n hx hb dX4_countAble_13 rfl (lv_at hl 3 rfl) ?_
    refine lv_aload_n hx hb dX4_countAble_14 rfl (lv_at hl 4 rfl) ?_
    refine lv_iload hx hb dX4_countAble_15 (lv_at hl 0 rfl) ?_
    refine cV (l := l) (yM := yX4_canMake) (C := RX4) (As := [.ref a0, .ref z7, .int (nI i)]) (rest := []) (wr := [(a0, .inr (5, [.ref a1, .ref z0, .ref z1])), (a1, .inr (4, [.int 0, .ref z2, .ref z3, .ref z4])), (a2, .inr (6, [.int 1, .int 0, .int 0, .ref a3, .ref z5, .ref z6])), (a3, .inl (y 0, 10, .inl (fun _ => 0)))]) hF (c191_X4_canMake l a0 a1 a2 a3 z0 z1 z2 z3 z4 z5 z6 z7 (nI i)) gv_RX4_67 3 (by decide +kernel) rfl ⟨(Nat.le_of_ble_eq_true rfl), (Nat.le_of_ble_eq_true rfl)⟩ hl.1 rfl (Nat.le_of_ble_eq_true rfl) dX4_countAble_17 ⟨(Nat.le_of_ble_eq_true rfl), (Nat.le_of_ble_eq_true rfl)⟩ hP hD hS (pA hA hS) (fun _ _ => trivial) [0, 1, 2, 3] [] [0, 1, 2, 3] rfl rfl rfl rfl rfl (by decide) 2 (ci := 6) rfl rfl rfl (fun u_1 H locs hP hD hS => ?_)
    have hP : va_P D vwCl [(a0, .inr (5, [.ref a1, .ref z0, .ref z1])), (a1, .inr (4, [.int 0, .ref z2, .ref z3, .ref z4])), (a2, .inr (6, [.int 1, .int 0, .int 0, .ref a3, .ref z5, .ref z6])), (a3, .inl (y 0, 10, .inl (fun _ => 0)))] H := hP
    have hD : va_D (fun _ => True) [(a0, .inr (5, [.ref a1, .ref z0, .ref z1])), (a1, .inr (4, [.int 0, .ref z2, .ref z3, .ref z4])), (a2, .inr (6, [.int 1, .int 0, .int 0, .ref a3, .ref z5, .ref z6])), (a3, .inl (y 0, 10, .inl (fun _ => 0)))] := hD
    refine W.widen (k := 0) (n := 0) (Nat.le_of_ble_eq_true rfl) (Nat.le_of_ble_eq_true rfl) ?_
    refine W.eq (g2 := F0 m 20 ls [.int 0]) rfl ?_
    refine lv_if_eq (tgt := 26) hx hb dX4_countAble_20 (by decide) (fun _ => ?_) (fun c => absurd (by decide) c)
    refine lv_iinc (v := nI (i + 1)) (lv' := [(4, .int (nI (i + 1))), (3, .int 0), (0, .ref a2), (1, .ref a0), (2, .ref z7)]) hx hb dX4_countAble_26 hl (k := 0) rfl (nI_inc i) (by decide) rfl (fun ls hl => ?_)
    refine lv_goto (tgt := 5) hx hb dX4_countAble_29 (by decide) ?_
    exact ih_i _ _ _ hP hD hS (lv_sub hl [0, 1, 2, 3, 4] rfl)
  · have hP : va_P D vwCl [(a0, .inr (5, [.ref a1, .ref z0, .ref z1])), (a1, .inr (4, [.int 0, .ref z2, .ref z3, .ref z4])), (a2, .inr (6, [.int 1, .int 0, .int 0, .ref a3, .ref z5, .ref z6])), (a3, .inl (y 0, 10, .inl (fun _ => 0)))] H := hP
    have hD : va_D (fun _ => True) [(a0, .inr (5, [.ref a1, .ref z0, .ref z1])), (a1, .inr (4, [.int 0, .ref z2, .ref z3, .ref z4])), (a2, .inr (6, [.int 1, .int 0, .int 0, .ref a3, .ref z5, .ref z6])), (a3, .inl (y 0, 10, .inl (fun _ => 0)))] := hD
    have hl : lv_has ls 5 [(4, .int 10), (3, .int 0), (0, .ref a2), (1, .ref a0), (2, .ref z7)] := hl
    refine lv_iload hx hb dX4_countAble_5 (lv_at hl 0 rfl) ?_
    refine lv_bipush (v := 10) hx hb dX4_countAble_7 (by decide) ?_
    refine lv_icmp_ge (tgt := 32) hx hb dX4_countAble_9 (by decide) (fun _ => ?_) (fun c => absurd (by decide) c)
    refine lv_iload_n hx hb dX4_countAble_32 rfl (lv_at hl 1 rfl) ?_
    exact e_i hF hr (Nat.le_of_ble_eq_true rfl) (Nat.le_of_ble_eq_true rfl) hS (qg_end hS (fun _ => 0) rfl [] hP rfl d_nil) dX4_countAble_33

set_option maxHeartbeats 4000000 in
set_option maxRecDepth 100000 in
theorem c189_X10_begin (l : Launch) (a0 : Nat) (a1 : Nat) (a2 : Nat) (a3 : Nat) (a4 : Nat) (a5 : Nat) (a6 : Nat) (a7 : Nat) (z0 : Nat) (z1 : Nat) (z2 : Nat) (z3 : Nat) (z4 : Nat) (z5 : Nat) (z6 : Nat) (z7 : Nat) (z8 : Nat) (z9 : Nat) (z10 : Nat) (z11 : Nat) (z12 : Nat) (z13 : Nat) (z14 : Nat) (z15 : Nat) (z16 : Nat) (z17 : Nat) (z18 : Nat) : CT l (.code yX10_begin cX10_begin 2 (some .int)) yX10_begin { frames := 3, cells := 0, slots := 0, locals := 68 } [.ref a0, .int 112] (fun y => [(a0, .inr (12, [.ref a1, .ref z0, .ref z1, .ref z2, .ref a3, .ref a6, .ref z3, .ref z4, .ref z5, .ref z6, .ref z7, .ref z8, .ref z9, .ref z10, .ref z11])), (a1, .inr (5, [.ref a2, .ref z12, .ref z13])), (a2, .inr (4, [.int 0, .ref z14, .ref z15, .ref z16])), (a3, .inr (7, [.ref a4, .ref a5])), (a4, .inl (y 0, 10, .inl (fun _ => (-1)))), (a5, .inl (y 0, 10, .inl (fun _ => 0))), (a6, .inr (6, [.int 0, .int 0, .int 0, .ref a7, .ref z17, .ref z18])), (a7, .inl (y 0, 10, .inl (fun _ => 0)))]) (fun y => [(a0, .inr (12, [.ref a1, .ref z0, .ref z1, .ref z2, .ref a3, .ref a6, .ref z3, .ref z4, .ref z5, .ref z6, .ref z7, .ref z8, .ref z9, .ref z10, .ref z11])), (a1, .inr (5, [.ref a2, .ref z12, .ref z13])), (a2, .inr (4, [.int 0, .ref z14, .ref z15, .ref z16])), (a3, .inr (7, [.ref a4, .ref a5])), (a4, .inl (y 0, 10, .inl (fun _ => (-1)))), (a5, .inl (y 0, 10, .inl (fun _ => 0))), (a6, .inr (6, [.int 0, .int 0, .int 0, .ref a7, .ref z17, .ref z18])), (a7, .inl (y 0, 10, .inl (fun _ => 0)))]) (fun u => some (.int 0)) (fun y u => [(a0, .inr (12, [.ref a1, .ref z0, .ref z1, .ref z2, .ref a3, .ref a6, .ref z3, .ref z4, .ref z5, .ref z6, .ref z7, .ref z8, .ref z9, .ref z10, .ref z11])), (a1, .inr (5, [.ref a2, .ref z12, .ref z13])), (a2, .inr (4, [.int 0, .ref z14, .ref z15, .ref z16])), (a3, .inr (7, [.ref a4, .ref a5])), (a4, .inl (y 0, 10, .inl (fun _ => (-1)))), (a5, .inl (y 0, 10, .inl (fun _ => 0))), (a6, .inr (6, [.int 1, .int 0, .int 0, .ref a7, .ref z17, .ref z18])), (a7, .inl (y 0, 10, .inl (fun _ => 0)))]) := by
  refine mkM (by decide) (Nat.le_of_ble_eq_true rfl) ?_
  intro p e s m args below meth c D y A ls hF hr hAe hP hD hS hl
  have hF : FX p e s m args meth c cX10_begin 2 RX10 "begin" D y A := hF
  obtain ⟨⟨hx, hb, hml, hown, hts⟩, hev, heh, hA, hlk, hnm⟩ := id hF
  have hK := hev.1
  have hP : va_P D vwCl [(a0, .inr (12, [.ref a1, .ref z0, .ref z1, .ref z2, .ref a3, .ref a6, .ref z3, .ref z4, .ref z5, .ref z6, .ref z7, .ref z8, .ref z9, .ref z10, .ref z11])), (a1, .inr (5, [.ref a2, .ref z12, .ref z13])), (a2, .inr (4, [.int 0, .ref z14, .ref z15, .ref z16])), (a3, .inr (7, [.ref a4, .ref a5])), (a4, .inl (y 0, 10, .inl (fun _ => (-1)))), (a5, .inl (y 0, 10, .inl (fun _ => 0))), (a6, .inr (6, [.int 0, .int 0, .int 0, .ref a7, .ref z17, .ref z18])), (a7, .inl (y 0, 10, .inl (fun _ => 0)))] s.heap := hP
  have hD : va_D A [(a0, .inr (12, [.ref a1, .ref z0, .ref z1, .ref z2, .ref a3, .ref a6, .ref z3, .ref z4, .ref z5, .ref z6, .ref z7, .ref z8, .ref z9, .ref z10, .ref z11])), (a1, .inr (5, [.ref a2, .ref z12, .ref z13])), (a2, .inr (4, [.int 0, .ref z14, .ref z15, .ref z16])), (a3, .inr (7, [.ref a4, .ref a5])), (a4, .inl (y 0, 10, .inl (fun _ => (-1)))), (a5, .inl (y 0, 10, .inl (fun _ => 0))), (a6, .inr (6, [.int 0, .int 0, .int 0, .ref a7, .ref z17, .ref z18])), (a7, .inl (y 0, 10, .inl (fun _ => 0)))] := by rw [← hAe]; exact hD.self
  have hl : lv_has ls 2 [(0, .ref a0), (1, .int 112)] := hl
  refine lv_aload_n hx hb dX10_begin_0 rfl (lv_at hl 0 rfl) ?_
  refine lv_iload_n hx hb dX10_begin_1 rfl (lv_at hl 1 rfl) ?_
  refine cV (l := l) (yM := yX10_needOfferSide) (C := RX10) (As := [.int 112]) (rest := []) (wr := [(a0, .inr (12, [.ref a1, .ref z0, .ref z1, .ref z2, .ref a3, .ref a6, .ref z3, .ref z4, .ref z5, .ref z6, .ref z7, .ref z8, .ref z9, .ref z10, .ref z11])), (a1, .inr (5, [.ref a2, .ref z12, .ref z13])), (a2, .inr (4, [.int 0, .ref z14, .ref z15, .ref z16])), (a3, .inr (7, [.ref a4, .ref a5])), (a4, .inl (y 0, 10, .inl (fun _ => (-1)))), (a5, .inl (y 0, 10, .inl (fun _ => 0))), (a6, .inr (6, [.int 0, .int 0, .int 0, .ref a7, .ref z17, .ref z18])), (a7, .inl (y 0, 10, .inl (fun _ => 0)))]) hF (c189_X10_needOfferSide l a0) gv_RX10_198 1 (by decide +kernel) rfl ⟨(Nat.le_of_ble_eq_true rfl), (Nat.le_of_ble_eq_true rfl)⟩ hl.1 rfl (Nat.le_of_ble_eq_true rfl) dX10_begin_2 ⟨(Nat.le_of_ble_eq_true rfl), (Nat.le_of_ble_eq_true rfl)⟩ hP hD hS (pA hA hS) (fun _ h => h) [] [] [0, 1, 2, 3, 4, 5, 6, 7] rfl rfl rfl rfl rfl (by decide) 0 (ci := 12) rfl rfl rfl (fun u_1 H locs hP hD hS => ?_)
  have hP : va_P D vwCl [(a0, .inr (12, [.ref a1, .ref z0, .ref z1, .ref z2, .ref a3, .ref a6, .ref z3, .ref z4, .ref z5, .ref z6, .ref z7, .ref z8, .ref z9, .ref z10, .ref z11])), (a1, .inr (5, [.ref a2, .ref z12, .ref z13])), (a2, .inr (4, [.int 0, .ref z14, .ref z15, .ref z16])), (a3, .inr (7, [.ref a4, .ref a5])), (a4, .inl (y 0, 10, .inl (fun _ => (-1)))), (a5, .inl (y 0, 10, .inl (fun _ => 0))), (a6, .inr (6, [.int 0, .int 0, .int 0, .ref a7, .ref z17, .ref z18])), (a7, .inl (y 0, 10, .inl (fun _ => 0)))] H := hP
  have hD : va_D A [(a0, .inr (12, [.ref a1, .ref z0, .ref z1, .ref z2, .ref a3, .ref a6, .ref z3, .ref z4, .ref z5, .ref z6, .ref z7, .ref z8, .ref z9, .ref z10, .ref z11])), (a1, .inr (5, [.ref a2, .ref z12, .ref z13])), (a2, .inr (4, [.int 0, .ref z14, .ref z15, .ref z16])), (a3, .inr (7, [.ref a4, .ref a5])), (a4, .inl (y 0, 10, .inl (fun _ => (-1)))), (a5, .inl (y 0, 10, .inl (fun _ => 0))), (a6, .inr (6, [.int 0, .int 0, .int 0, .ref a7, .ref z17, .ref z18])), (a7, .inl (y 0, 10, .inl (fun _ => 0)))] := hD
  refine W.widen (k := 0) (n := 0) (Nat.le_of_ble_eq_true rfl) (Nat.le_of_ble_eq_true rfl) ?_
  refine W.eq (g2 := F0 m 5 ls []) rfl ?_
  refine lv_aload_n hx hb dX10_begin_5 rfl (lv_at hl 0 rfl) ?_
  refine va_get (D := D) (ci := 12) (v := .ref a3) (C := RX10) (T := TX10) (N := 15) hx hb hts inX10 hown hK hP 0 rfl rfl 4 (by decide) (hts _ wd_47) (fun _ h9 => h9) rfl dX10_begin_6 ?_
  refine cV (l := l) (yM := yX5_clear) (C := RX5) (As := []) (rest := []) (wr := [(a0, .inr (12, [.ref a1, .ref z0, .ref z1, .ref z2, .ref a3, .ref a6, .ref z3, .ref z4, .ref z5, .ref z6, .ref z7, .ref z8, .ref z9, .ref z10, .ref z11])), (a1, .inr (5, [.ref a2, .ref z12, .ref z13])), (a2, .inr (4, [.int 0, .ref z14, .ref z15, .ref z16])), (a6, .inr (6, [.int 0, .int 0, .int 0, .ref a7, .ref z17, .ref z18])), (a7, .inl (y 0, 10, .inl (fun _ => 0)))]) hF (c16_X5_clear l a3 a4 a5) gv_RX10_201 0 (by decide +kernel) rfl ⟨(Nat.le_of_ble_eq_true rfl), (Nat.le_of_ble_eq_true rfl)⟩ hl.1 rfl (Nat.le_of_ble_eq_true rfl) dX10_begin_9 ⟨(Nat.le_of_ble_eq_true rfl), (Nat.le_of_ble_eq_true rfl)⟩ hP hD hS (va_free (wc := [(a3, .inr (7, [.ref a4, .ref a5])), (a4, .inl (y 0, 10, .inl (fun _ => (-1)))), (a5, .inl (y 0, 10, .inl (fun _ => 0)))]) hD hS hA [3, 4, 5] rfl) (fun _ h => h) [3, 4, 5] [3, 4, 5] [0, 1, 2, 6, 7] rfl rfl rfl rfl rfl (by decide) 3 (ci := 7) rfl rfl rfl (fun u_2 H locs hP hD hS => ?_)
  have hP : va_P D vwCl [(a0, .inr (12, [.ref a1, .ref z0, .ref z1, .ref z2, .ref a3, .ref a6, .ref z3, .ref z4, .ref z5, .ref z6, .ref z7, .ref z8, .ref z9, .ref z10, .ref z11])), (a1, .inr (5, [.ref a2, .ref z12, .ref z13])), (a2, .inr (4, [.int 0, .ref z14, .ref z15, .ref z16])), (a6, .inr (6, [.int 0, .int 0, .int 0, .ref a7, .ref z17, .ref z18])), (a7, .inl (y 0, 10, .inl (fun _ => 0))), (a3, .inr (7, [.ref a4, .ref a5])), (a4, .inl (y 0, 10, .inl (fun _ => (-1)))), (a5, .inl (y 0, 10, .inl (fun _ => 0)))] H := hP
  have hD : va_D A [(a0, .inr (12, [.ref a1, .ref z0, .ref z1, .ref z2, .ref a3, .ref a6, .ref z3, .ref z4, .ref z5, .ref z6, .ref z7, .ref z8, .ref z9, .ref z10, .ref z11])), (a1, .inr (5, [.ref a2, .ref z12, .ref z13])), (a2, .inr (4, [.int 0, .ref z14, .ref z15, .ref z16])), (a6, .inr (6, [.int 0, .int 0, .int 0, .ref a7, .ref z17, .ref z18])), (a7, .inl (y 0, 10, .inl (fun _ => 0))), (a3, .inr (7, [.ref a4, .ref a5])), (a4, .inl (y 0, 10, .inl (fun _ => (-1)))), (a5, .inl (y 0, 10, .inl (fun _ => 0)))] := hD
  refine W.widen (k := 0) (n := 0) (Nat.le_of_ble_eq_true rfl) (Nat.le_of_ble_eq_true rfl) ?_
  refine W.eq (g2 := F0 m 12 ls []) rfl ?_
  refine lv_aload_n hx hb dX10_begin_12 rfl (lv_at hl 0 rfl) ?_
  refine va_get (D := D) (ci := 12) (v := .ref a6) (C := RX10) (T := TX10) (N := 15) hx hb hts inX10 hown hK hP 0 rfl rfl 5 (by decide) (hts _ wd_57) (fun _ h9 => h9) rfl dX10_begin_13 ?_
  refine lv_iload_n hx hb dX10_begin_16 rfl (lv_at hl 1 rfl) ?_
  refine cV (l := l) (yM := yX4_start) (C := RX4) (As := [.int 112]) (rest := []) (wr := [(a0, .inr (12, [.ref a1, .ref z0, .ref z1, .ref z2, .ref a3, .ref a6, .ref z3, .ref z4, .ref z5, .ref z6, .ref z7, .ref z8, .ref z9, .ref z10, .ref z11])), (a1, .inr (5, [.ref a2, .ref z12, .ref z13])), (a2, .inr (4, [.int 0, .ref z14, .ref z15, .ref z16])), (a3, .inr (7, [.ref a4, .ref a5])), (a4, .inl (y 0, 10, .inl (fun _ => (-1)))), (a5, .inl (y 0, 10, .inl (fun _ => 0)))]) hF (c190_X4_start l a6 a7 z17 z18) gv_RX10_202 1 (by decide +kernel) rfl ⟨(Nat.le_of_ble_eq_true rfl), (Nat.le_of_ble_eq_true rfl)⟩ hl.1 rfl (Nat.le_of_ble_eq_true rfl) dX10_begin_17 ⟨(Nat.le_of_ble_eq_true rfl), (Nat.le_of_ble_eq_true rfl)⟩ hP hD hS (va_free (wc := [(a6, .inr (6, [.int 0, .int 0, .int 0, .ref a7, .ref z17, .ref z18])), (a7, .inl (y 0, 10, .inl (fun _ => 0)))]) hD hS hA [3, 4] rfl) (fun _ h => h) [3, 4] [3, 4] [0, 1, 2, 5, 6, 7] rfl rfl rfl rfl rfl (by decide) 3 (ci := 6) rfl rfl rfl (fun u_3 H locs hP hD hS => ?_)
  have hP : va_P D vwCl [(a0, .inr (12, [.ref a1, .ref z0, .ref z1, .ref z2, .ref a3, .ref a6, .ref z3, .ref z4, .ref z5, .ref z6, .ref z7, .ref z8, .ref z9, .ref z10, .ref z11])), (a1, .inr (5, [.ref a2, .ref z12, .ref z13])), (a2, .inr (4, [.int 0, .ref z14, .ref z15, .ref z16])), (a3, .inr (7, [.ref a4, .ref a5])), (a4, .inl (y 0, 10, .inl (fun _ => (-1)))), (a5, .inl (y 0, 10, .inl (fun _ => 0))), (a6, .inr (6, [.int 1, .int 0, .int 0, .ref a7, .ref z17, .ref z18])), (a7, .inl (y 0, 10, .inl (fun _ => 0)))] H := hP
  have hD : va_D A [(a0, .inr (12, [.ref a1, .ref z0, .ref z1, .ref z2, .ref a3, .ref a6, .ref z3, .ref z4, .ref z5, .ref z6, .ref z7, .ref z8, .ref z9, .ref z10, .ref z11])), (a1, .inr (5, [.ref a2, .ref z12, .ref z13])), (a2, .inr (4, [.int 0, .ref z14, .ref z15, .ref z16])), (a3, .inr (7, [.ref a4, .ref a5])), (a4, .inl (y 0, 10, .inl (fun _ => (-1)))), (a5, .inl (y 0, 10, .inl (fun _ => 0))), (a6, .inr (6, [.int 1, .int 0, .int 0, .ref a7, .ref z17, .ref z18])), (a7, .inl (y 0, 10, .inl (fun _ => 0)))] := hD
  refine W.widen (k := 0) (n := 0) (Nat.le_of_ble_eq_true rfl) (Nat.le_of_ble_eq_true rfl) ?_
  refine W.eq (g2 := F0 m 20 ls []) rfl ?_
  refine lv_aload_n hx hb dX10_begin_20 rfl (lv_at hl 0 rfl) ?_
  refine va_get (D := D) (ci := 12) (v := .ref a6) (C := RX10) (T := TX10) (N := 15) hx hb hts inX10 hown hK hP 0 rfl rfl 5 (by decide) (hts _ wd_57) (fun _ h9 => h9) rfl dX10_begin_21 ?_
  refine lv_aload_n hx hb dX10_begin_24 rfl (lv_at hl 0 rfl) ?_
  refine va_get (D := D) (ci := 12) (v := .ref a1) (C := RX10) (T := TX10) (N := 15) hx hb hts inX10 hown hK hP 0 rfl rfl 0 (by decide) (hts _ wd_24) (fun _ h9 => h9) rfl dX10_begin_25 ?_
  refine lv_aload_n hx hb dX10_begin_28 rfl (lv_at hl 0 rfl) ?_
  refine va_get (D := D) (ci := 12) (v := .ref a3) (C := RX10) (T := TX10) (N := 15) hx hb hts inX10 hown hK hP 0 rfl rfl 4 (by decide) (hts _ wd_47) (fun _ h9 => h9) rfl dX10_begin_29 ?_
  refine cV (l := l) (yM := yX4_countAble) (C := RX4) (As := [.ref a1, .ref a3]) (rest := []) (wr := [(a0, .inr (12, [.ref a1, .ref z0, .ref z1, .ref z2, .ref a3, .ref a6, .ref z3, .ref z4, .ref z5, .ref z6, .ref z7, .ref z8, .ref z9, .ref z10, .ref z11])), (a1, .inr (5, [.ref a2, .ref z12, .ref z13])), (a2, .inr (4, [.int 0, .ref z14, .ref z15, .ref z16])), (a3, .inr (7, [.ref a4, .ref a5])), (a4, .inl (y 0, 10, .inl (fun _ => (-1)))), (a5, .inl (y 0, 10, .inl (fun _ => 0))), (a6, .inr (6, [.int 1, .int 0, .int 0, .ref a7, .ref z17, .ref z18])), (a7, .inl (y 0, 10, .inl (fun _ => 0)))]) hF (c191_X4_countAble l a1 a2 a6 a7 z12 z13 z14 z15 z16 z17 z18 a3) gv_RX10_205 2 (by decide +kernel) rfl ⟨(Nat.le_of_ble_eq_true rfl), (Nat.le_of_ble_eq_true rfl)⟩ hl.1 rfl (Nat.le_of_ble_eq_true rfl) dX10_begin_32 ⟨(Nat.le_of_ble_eq_true rfl), (Nat.le_of_ble_eq_true rfl)⟩ hP hD hS (pA hA hS) (fun _ h => h) [1, 2, 6, 7] [] [0, 1, 2, 3, 4, 5, 6, 7] rfl rfl rfl rfl rfl (by decide) 6 (ci := 6) rfl rfl rfl (fun u_4 H locs hP hD hS => ?_)
  have hP : va_P D vwCl [(a0, .inr (12, [.ref a1, .ref z0, .ref z1, .ref z2, .ref a3, .ref a6, .ref z3, .ref z4, .ref z5, .ref z6, .ref z7, .ref z8, .ref z9, .ref z10, .ref z11])), (a1, .inr (5, [.ref a2, .ref z12, .ref z13])), (a2, .inr (4, [.int 0, .ref z14, .ref z15, .ref z16])), (a3, .inr (7, [.ref a4, .ref a5])), (a4, .inl (y 0, 10, .inl (fun _ => (-1)))), (a5, .inl (y 0, 10, .inl (fun _ => 0))), (a6, .inr (6, [.int 1, .int 0, .int 0, .ref a7, .ref z17, .ref z18])), (a7, .inl (y 0, 10, .inl (fun _ => 0)))] H := hP
  have hD : va_D A [(a0, .inr (12, [.ref a1, .ref z0, .ref z1, .ref z2, .ref a3, .ref a6, .ref z3, .ref z4, .ref z5, .ref z6, .ref z7, .ref z8, .ref z9, .ref z10, .ref z11])), (a1, .inr (5, [.ref a2, .ref z12, .ref z13])), (a2, .inr (4, [.int 0, .ref z14, .ref z15, .ref z16])), (a3, .inr (7, [.ref a4, .ref a5])), (a4, .inl (y 0, 10, .inl (fun _ => (-1)))), (a5, .inl (y 0, 10, .inl (fun _ => 0))), (a6, .inr (6, [.int 1, .int 0, .int 0, .ref a7, .ref z17, .ref z18])), (a7, .inl (y 0, 10, .inl (fun _ => 0)))] := hD
  refine W.widen (k := 0) (n := 0) (Nat.le_of_ble_eq_true rfl) (Nat.le_of_ble_eq_true rfl) ?_
  refine W.eq (g2 := F0 m 35 ls [.int 0]) rfl ?_
  exact e_i hF hr (Nat.le_of_ble_eq_true rfl) (Nat.le_of_ble_eq_true rfl) hS (qg_end hS (fun _ => 0) rfl [0, 1, 2, 3, 4, 5, 6, 7] hP rfl (hD.sub [0, 1, 2, 3, 4, 5, 6, 7] rfl rfl)) dX10_begin_35

set_option maxHeartbeats 4000000 in
set_option maxRecDepth 100000 in
theorem c189_L_begin (l : Launch) (a0 : Nat) (a1 : Nat) (a2 : Nat) (a3 : Nat) (a4 : Nat) (a5 : Nat) (a6 : Nat) (a7 : Nat) (a8 : Nat) (z0 : Nat) (z1 : Nat) (z2 : Nat) (z3 : Nat) (z4 : Nat) (z5 : Nat) (z6 : Nat) (z7 : Nat) (z8 : Nat) (z9 : Nat) (z10 : Nat) (z11 : Nat) (z12 : Nat) (z13 : Nat) (z14 : Nat) (z15 : Nat) (z16 : Nat) (z17 : Nat) (z18 : Nat) : CT l (.codeWith yL_begin cL_begin 4 (some .int) [(0, 9, 12, 13)]) yL_begin { frames := 4, cells := 0, slots := 0, locals := 89 } [.ref a0, .int 112, .ref a8] (fun y => [(a0, .inr (12, [.ref a1, .ref z0, .ref z1, .ref z2, .ref a3, .ref a6, .ref z3, .ref z4, .ref z5, .ref z6, .ref z7, .ref z8, .ref z9, .ref z10, .ref z11])), (a1, .inr (5, [.ref a2, .ref z12, .ref z13])), (a2, .inr (4, [.int 0, .ref z14, .ref z15, .ref z16])), (a3, .inr (7, [.ref a4, .ref a5])), (a4, .inl (y 0, 10, .inl (fun _ => (-1)))), (a5, .inl (y 0, 10, .inl (fun _ => 0))), (a6, .inr (6, [.int 0, .int 0, .int 0, .ref a7, .ref z17, .ref z18])), (a7, .inl (y 0, 10, .inl (fun _ => 0))), (a8, .inl (y 2, 1, .inr (.inl (fun _ => 0))))]) (fun y => [(a0, .inr (12, [.ref a1, .ref z0, .ref z1, .ref z2, .ref a3, .ref a6, .ref z3, .ref z4, .ref z5, .ref z6, .ref z7, .ref z8, .ref z9, .ref z10, .ref z11])), (a1, .inr (5, [.ref a2, .ref z12, .ref z13])), (a2, .inr (4, [.int 0, .ref z14, .ref z15, .ref z16])), (a3, .inr (7, [.ref a4, .ref a5])), (a4, .inl (y 0, 10, .inl (fun _ => (-1)))), (a5, .inl (y 0, 10, .inl (fun _ => 0))), (a6, .inr (6, [.int 0, .int 0, .int 0, .ref a7, .ref z17, .ref z18])), (a7, .inl (y 0, 10, .inl (fun _ => 0))), (a8, .inl (y 2, 1, .inr (.inl (fun _ => 0))))]) (fun u => some (.int 0)) (fun y u => [(a0, .inr (12, [.ref a1, .ref z0, .ref z1, .ref z2, .ref a3, .ref a6, .ref z3, .ref z4, .ref z5, .ref z6, .ref z7, .ref z8, .ref z9, .ref z10, .ref z11])), (a1, .inr (5, [.ref a2, .ref z12, .ref z13])), (a2, .inr (4, [.int 0, .ref z14, .ref z15, .ref z16])), (a3, .inr (7, [.ref a4, .ref a5])), (a4, .inl (y 0, 10, .inl (fun _ => (-1)))), (a5, .inl (y 0, 10, .inl (fun _ => 0))), (a6, .inr (6, [.int 1, .int 0, .int 0, .ref a7, .ref z17, .ref z18])), (a7, .inl (y 0, 10, .inl (fun _ => 0))), (a8, .inl (y 2, 1, .inr (.inl (fun _ => 0))))]) := by
  refine mkH (by decide) (Nat.le_of_ble_eq_true rfl) ?_
  intro p e s m args below meth c D y A ls hF htab hr hAe hP hD hS hl
  have hF : FX p e s m args meth c cL_begin 4 RL "begin" D y A := hF
  obtain ⟨⟨hx, hb, hml, hown, hts⟩, hev, heh, hA, hlk, hnm⟩ := id hF
  have hK := hev.1
  have hP : va_P D vwCl [(a0, .inr (12, [.ref a1, .ref z0, .ref z1, .ref z2, .ref a3, .ref a6, .ref z3, .ref z4, .ref z5, .ref z6, .ref z7, .ref z8, .ref z9, .ref z10, .ref z11])), (a1, .inr (5, [.ref a2, .ref z12, .ref z13])), (a2, .inr (4, [.int 0, .ref z14, .ref z15, .ref z16])), (a3, .inr (7, [.ref a4, .ref a5])), (a4, .inl (y 0, 10, .inl (fun _ => (-1)))), (a5, .inl (y 0, 10, .inl (fun _ => 0))), (a6, .inr (6, [.int 0, .int 0, .int 0, .ref a7, .ref z17, .ref z18])), (a7, .inl (y 0, 10, .inl (fun _ => 0))), (a8, .inl (y 2, 1, .inr (.inl (fun _ => 0))))] s.heap := hP
  have hD : va_D A [(a0, .inr (12, [.ref a1, .ref z0, .ref z1, .ref z2, .ref a3, .ref a6, .ref z3, .ref z4, .ref z5, .ref z6, .ref z7, .ref z8, .ref z9, .ref z10, .ref z11])), (a1, .inr (5, [.ref a2, .ref z12, .ref z13])), (a2, .inr (4, [.int 0, .ref z14, .ref z15, .ref z16])), (a3, .inr (7, [.ref a4, .ref a5])), (a4, .inl (y 0, 10, .inl (fun _ => (-1)))), (a5, .inl (y 0, 10, .inl (fun _ => 0))), (a6, .inr (6, [.int 0, .int 0, .int 0, .ref a7, .ref z17, .ref z18])), (a7, .inl (y 0, 10, .inl (fun _ => 0))), (a8, .inl (y 2, 1, .inr (.inl (fun _ => 0))))] := by rw [← hAe]; exact hD.self
  have hl : lv_has ls 4 [(0, .ref a0), (1, .int 112), (2, .ref a8)] := hl
  refine lv_aload_n hx hb dL_begin_0 rfl (lv_at hl 2 rfl) ?_
  refine lv_iconst (v := 0) hx hb dL_begin_1 (by decide) ?_
  refine lv_aload_n hx hb dL_begin_2 rfl (lv_at hl 0 rfl) ?_
  refine lv_iload_n hx hb dL_begin_3 rfl (lv_at hl 1 rfl) ?_
  refine cV (l := l) (yM := yX10_begin) (C := RX10) (As := [.int 112]) (rest := [.int 0, .ref a8]) (wr := [(a8, .inl (y 2, 1, .inr (.inl (fun _ => 0))))]) hF (c189_X10_begin l a0 a1 a2 a3 a4 a5 a6 a7 z0 z1 z2 z3 z4 z5 z6 z7 z8 z9 z10 z11 z12 z13 z14 z15 z16 z17 z18) gv_RL_55 1 (by decide +kernel) rfl ⟨(Nat.le_of_ble_eq_true rfl), (Nat.le_of_ble_eq_true rfl)⟩ hl.1 rfl (Nat.le_of_ble_eq_true rfl) dL_begin_4 ⟨(Nat.le_of_ble_eq_true rfl), (Nat.le_of_ble_eq_true rfl)⟩ hP hD hS (va_free (wc := [(a0, .inr (12, [.ref a1, .ref z0, .ref z1, .ref z2, .ref a3, .ref a6, .ref z3, .ref z4, .ref z5, .ref z6, .ref z7, .ref z8, .ref z9, .ref z10, .ref z11])), (a1, .inr (5, [.ref a2, .ref z12, .ref z13])), (a2, .inr (4, [.int 0, .ref z14, .ref z15, .ref z16])), (a3, .inr (7, [.ref a4, .ref a5])), (a4, .inl (y 0, 10, .inl (fun _ => (-1)))), (a5, .inl (y 0, 10, .inl (fun _ => 0))), (a6, .inr (6, [.int 0, .int 0, .int 0, .ref a7, .ref z17, .ref z18])), (a7, .inl (y 0, 10, .inl (fun _ => 0)))]) hD hS hA [0, 1, 2, 3, 4, 5, 6, 7] rfl) (fun _ h => h) [0, 1, 2, 3, 4, 5, 6, 7] [0, 1, 2, 3, 4, 5, 6, 7] [8] rfl rfl rfl rfl rfl (by decide) 0 (ci := 12) rfl rfl rfl (fun u_1 H locs hP hD hS => ?_)
  have hP : va_P D vwCl [(a8, .inl (y 2, 1, .inr (.inl (fun _ => 0)))), (a0, .inr (12, [.ref a1, .ref z0, .ref z1, .ref z2, .ref a3, .ref a6, .ref z3, .ref z4, .ref z5, .ref z6, .ref z7, .ref z8, .ref z9, .ref z10, .ref z11])), (a1, .inr (5, [.ref a2, .ref z12, .ref z13])), (a2, .inr (4, [.int 0, .ref z14, .ref z15, .ref z16])), (a3, .inr (7, [.ref a4, .ref a5])), (a4, .inl (y 0, 10, .inl (fun _ => (-1)))), (a5, .inl (y 0, 10, .inl (fun _ => 0))), (a6, .inr (6, [.int 1, .int 0, .int 0, .ref a7, .ref z17, .ref z18])), (a7, .inl (y 0, 10, .inl (fun _ => 0)))] H := hP
  have hD : va_D A [(a8, .inl (y 2, 1, .inr (.inl (fun _ => 0)))), (a0, .inr (12, [.ref a1, .ref z0, .ref z1, .ref z2, .ref a3, .ref a6, .ref z3, .ref z4, .ref z5, .ref z6, .ref z7, .ref z8, .ref z9, .ref z10, .ref z11])), (a1, .inr (5, [.ref a2, .ref z12, .ref z13])), (a2, .inr (4, [.int 0, .ref z14, .ref z15, .ref z16])), (a3, .inr (7, [.ref a4, .ref a5])), (a4, .inl (y 0, 10, .inl (fun _ => (-1)))), (a5, .inl (y 0, 10, .inl (fun _ => 0))), (a6, .inr (6, [.int 1, .int 0, .int 0, .ref a7, .ref z17, .ref z18])), (a7, .inl (y 0, 10, .inl (fun _ => 0)))] := hD
  refine W.widen (k := 0) (n := 0) (Nat.le_of_ble_eq_true rfl) (Nat.le_of_ble_eq_true rfl) ?_
  refine W.eq (g2 := F0 m 7 ls [.int 0, .int 0, .ref a8]) rfl ?_
  refine lv_i2l (v := 0) hx hb dL_begin_7 (by decide) ?_
  refine va_last hx hb hK hP hD hS 0 2 rfl rfl (vp_in_nI (n := 0) (by decide) (by decide)) dL_begin_8 (fun H locs hP hD hS => ?_)
  obtain ⟨hP, hD⟩ := same_l (g := (fun _ => 0)) hP hD 0 rfl (fun j _ => up_l rfl)
  have hP : va_P D vwCl [(a8, .inl (y 2, 1, .inr (.inl (fun _ => 0)))), (a0, .inr (12, [.ref a1, .ref z0, .ref z1, .ref z2, .ref a3, .ref a6, .ref z3, .ref z4, .ref z5, .ref z6, .ref z7, .ref z8, .ref z9, .ref z10, .ref z11])), (a1, .inr (5, [.ref a2, .ref z12, .ref z13])), (a2, .inr (4, [.int 0, .ref z14, .ref z15, .ref z16])), (a3, .inr (7, [.ref a4, .ref a5])), (a4, .inl (y 0, 10, .inl (fun _ => (-1)))), (a5, .inl (y 0, 10, .inl (fun _ => 0))), (a6, .inr (6, [.int 1, .int 0, .int 0, .ref a7, .ref z17, .ref z18])), (a7, .inl (y 0, 10, .inl (fun _ => 0)))] H := hP
  have hD : va_D A [(a8, .inl (y 2, 1, .inr (.inl (fun _ => 0)))), (a0, .inr (12, [.ref a1, .ref z0, .ref z1, .ref z2, .ref a3, .ref a6, .ref z3, .ref z4, .ref z5, .ref z6, .ref z7, .ref z8, .ref z9, .ref z10, .ref z11])), (a1, .inr (5, [.ref a2, .ref z12, .ref z13])), (a2, .inr (4, [.int 0, .ref z14, .ref z15, .ref z16])), (a3, .inr (7, [.ref a4, .ref a5])), (a4, .inl (y 0, 10, .inl (fun _ => (-1)))), (a5, .inl (y 0, 10, .inl (fun _ => 0))), (a6, .inr (6, [.int 1, .int 0, .int 0, .ref a7, .ref z17, .ref z18])), (a7, .inl (y 0, 10, .inl (fun _ => 0)))] := hD
  refine lv_goto (tgt := 15) hx hb dL_begin_9 (by decide) ?_
  refine lv_iconst (v := 0) hx hb dL_begin_15 (by decide) ?_
  exact e_i hF hr (Nat.le_of_ble_eq_true rfl) (Nat.le_of_ble_eq_true rfl) hS (qg_end hS (fun _ => 0) rfl [1, 2, 3, 4, 5, 6, 7, 8, 0] hP rfl (hD.sub [1, 2, 3, 4, 5, 6, 7, 8, 0] rfl rfl)) dL_begin_16

set_option maxHeartbeats 4000000 in
set_option maxRecDepth 100000 in
theorem c197_X11_in (l : Launch) : CT l (.code yX11_in cX11_in 3 (some .boolean)) yX11_in { frames := 0, cells := 0, slots := 0, locals := 0 } [.int 0, .int 0, .int 1] (fun y => []) (fun _ => []) (fun u => some (.int 1)) (fun y u => []) := by
  refine mkM (by decide) (Nat.le_of_ble_eq_true rfl) ?_
  intro p e s m args below meth c D y A ls hF hr hAe hP hD hS hl
  have hF : FX p e s m args meth c cX11_in 3 RX11 "in" D y A := hF
  obtain ⟨⟨hx, hb, hml, hown, hts⟩, hev, heh, hA, hlk, hnm⟩ := id hF
  have hK := hev.1
  have hP : va_P D vwCl [] s.heap := hP
  have hD : va_D A [] := by rw [← hAe]; exact hD.self
  have hl : lv_has ls 3 [(0, .int 0), (1, .int 0), (2, .int 1)] := hl
  refine lv_iload_n hx hb dX11_in_0 rfl (lv_at hl 0 rfl) ?_
  refine lv_iload_n hx hb dX11_in_1 rfl (lv_at hl 1 rfl) ?_
  refine lv_icmp_lt (tgt := 14) hx hb dX11_in_2 (by decide) (fun c => absurd c (by decide)) (fun _ => ?_)
  refine lv_iload_n hx hb dX11_in_5 rfl (lv_at hl 0 rfl) ?_
  refine lv_iload_n hx hb dX11_in_6 rfl (lv_at hl 2 rfl) ?_
  refine lv_icmp_gt (tgt := 14) hx hb dX11_in_7 (by decide) (fun c => absurd c (by decide)) (fun _ => ?_)
  refine lv_iconst (v := 1) hx hb dX11_in_10 (by decide) ?_
  refine lv_goto (tgt := 15) hx hb dX11_in_11 (by decide) ?_
  exact e_z hF hr (by decide) (Nat.le_of_ble_eq_true rfl) (Nat.le_of_ble_eq_true rfl) hS (qg_end hS (fun _ => 0) rfl [] hP rfl d_nil) dX11_in_15

set_option maxHeartbeats 4000000 in
set_option maxRecDepth 100000 in
theorem c198_X11_begins (l : Launch) (a0 : Nat) (z0 : Nat) (z1 : Nat) (z2 : Nat) (z3 : Nat) (z4 : Nat) (z5 : Nat) (z6 : Nat) (z7 : Nat) (z8 : Nat) (z9 : Nat) (z10 : Nat) (z11 : Nat) (z12 : Nat) (z13 : Nat) : CT l (.code yX11_begins cX11_begins 2 none) yX11_begins { frames := 1, cells := 2, slots := 20, locals := 21 } [.ref a0, .int 112] (fun y => [(a0, .inr (13, [.ref z0, .ref z1, .ref z2, .ref z3, .ref z4, .ref z5, .int 45, .ref z6, .ref z7, .ref z8, .int 0, .ref z9, .ref z10, .int 0, .int 0, .int 0, .int 0, .ref z11, .int 0, .null, .ref z12, .ref z13]))]) (fun y => [(a0, .inr (13, [.ref z0, .ref z1, .ref z2, .ref z3, .ref z4, .ref z5, .int 45, .ref z6, .ref z7, .ref z8, .int 0, .ref z9, .ref z10, .int 0, .int 0, .int 0, .int 0, .ref z11, .int 0, .null, .ref z12, .ref z13]))]) (fun u => none) (fun y u => [(a0, .inr (13, [.ref z0, .ref z1, .ref z2, .ref z3, .ref z4, .ref (u 0), .int 112, .ref (u 1), .ref z7, .ref z8, .int 0, .ref z9, .ref z10, .int 0, .int 0, .int 0, .int 0, .ref z11, .int 0, .null, .ref z12, .ref z13])), ((u 0), .inl (y 0, 10, .inl (fun _ => (-1)))), ((u 1), .inl (y 0, 10, .inl (fun _ => 0)))]) := by
  refine mkM (by decide) (Nat.le_of_ble_eq_true rfl) ?_
  intro p e s m args below meth c D y A ls hF hr hAe hP hD hS hl
  have hF : FX p e s m args meth c cX11_begins 2 RX11 "begins" D y A := hF
  obtain ⟨⟨hx, hb, hml, hown, hts⟩, hev, heh, hA, hlk, hnm⟩ := id hF
  have hK := hev.1
  have hP : va_P D vwCl [(a0, .inr (13, [.ref z0, .ref z1, .ref z2, .ref z3, .ref z4, .ref z5, .int 45, .ref z6, .ref z7, .ref z8, .int 0, .ref z9, .ref z10, .int 0, .int 0, .int 0, .int 0, .ref z11, .int 0, .null, .ref z12, .ref z13]))] s.heap := hP
  have hD : va_D A [(a0, .inr (13, [.ref z0, .ref z1, .ref z2, .ref z3, .ref z4, .ref z5, .int 45, .ref z6, .ref z7, .ref z8, .int 0, .ref z9, .ref z10, .int 0, .int 0, .int 0, .int 0, .ref z11, .int 0, .null, .ref z12, .ref z13]))] := by rw [← hAe]; exact hD.self
  have hl : lv_has ls 2 [(0, .ref a0), (1, .int 112)] := hl
  refine lv_aload_n hx hb dX11_begins_0 rfl (lv_at hl 0 rfl) ?_
  refine cS (l := l) (yM := yX11_alone) (As := []) (rest := [.ref a0]) (wr := [(a0, .inr (13, [.ref z0, .ref z1, .ref z2, .ref z3, .ref z4, .ref z5, .int 45, .ref z6, .ref z7, .ref z8, .int 0, .ref z9, .ref z10, .int 0, .int 0, .int 0, .int 0, .ref z11, .int 0, .null, .ref z12, .ref z13]))]) hF (c12_X11_alone l) gs_RX11_27 0 (by decide +kernel) rfl ⟨(Nat.le_of_ble_eq_true rfl), (Nat.le_of_ble_eq_true rfl)⟩ hl.1 rfl (Nat.le_of_ble_eq_true rfl) dX11_begins_1 ⟨(Nat.le_of_ble_eq_true rfl), (Nat.le_of_ble_eq_true rfl)⟩ hP hD hS (pA hA hS) (fun _ h => h) [] [] [0] rfl rfl rfl rfl rfl (by decide) (fun u_1 H locs hP hD hS => ?_)
  have hP : va_P D vwCl [(a0, .inr (13, [.ref z0, .ref z1, .ref z2, .ref z3, .ref z4, .ref z5, .int 45, .ref z6, .ref z7, .ref z8, .int 0, .ref z9, .ref z10, .int 0, .int 0, .int 0, .int 0, .ref z11, .int 0, .null, .ref z12, .ref z13])), ((u_1 0), .inl (y 0, 10, .inl (fun _ => (-1))))] H := hP
  have hD : va_D A [(a0, .inr (13, [.ref z0, .ref z1, .ref z2, .ref z3, .ref z4, .ref z5, .int 45, .ref z6, .ref z7, .ref z8, .int 0, .ref z9, .ref z10, .int 0, .int 0, .int 0, .int 0, .ref z11, .int 0, .null, .ref z12, .ref z13])), ((u_1 0), .inl (y 0, 10, .inl (fun _ => (-1))))] := hD
  refine W.widen (k := 1) (n := 10) (Nat.le_of_ble_eq_true rfl) (Nat.le_of_ble_eq_true rfl) ?_
  refine W.eq (g2 := F0 m 4 ls [.ref (u_1 0), .ref a0]) rfl ?_
  refine va_put (D := D) (ci := 13) (v := .ref (u_1 0)) (ty := .array .int) (C := RX11) (T := TX11) (N := 22) hx hb hts inX11 tyX11 tyX11_ok nmX11 hown hK hP hD hS 0 rfl rfl 5 (by decide) (hts _ wd_125) (fun _ h9 => h9) rfl (by decide +kernel) rfl rfl (Nat.le_of_ble_eq_true rfl) dX11_begins_4 (fun H locs hP hD hS => ?_)
  have hP : va_P D vwCl [(a0, .inr (13, [.ref z0, .ref z1, .ref z2, .ref z3, .ref z4, .ref (u_1 0), .int 45, .ref z6, .ref z7, .ref z8, .int 0, .ref z9, .ref z10, .int 0, .int 0, .int 0, .int 0, .ref z11, .int 0, .null, .ref z12, .ref z13])), ((u_1 0), .inl (y 0, 10, .inl (fun _ => (-1))))] H := hP
  have hD : va_D A [(a0, .inr (13, [.ref z0, .ref z1, .ref z2, .ref z3, .ref z4, .ref (u_1 0), .int 45, .ref z6, .ref z7, .ref z8, .int 0, .ref z9, .ref z10, .int 0, .int 0, .int 0, .int 0, .ref z11, .int 0, .null, .ref z12, .ref z13])), ((u_1 0), .inl (y 0, 10, .inl (fun _ => (-1))))] := hD
  refine lv_aload_n hx hb dX11_begins_7 rfl (lv_at hl 0 rfl) ?_
  refine lv_bipush (v := 10) hx hb dX11_begins_8 (by decide) ?_
  refine na_int (N := 10) hF (hts _ wd_12) hP hD hS (by decide) (by decide) (by decide) (Nat.le_of_ble_eq_true rfl) (Nat.le_of_ble_eq_true rfl) dX11_begins_10 (fun q_2 H hP hD hS => ?_)
  have hP : va_P D vwCl [(a0, .inr (13, [.ref z0, .ref z1, .ref z2, .ref z3, .ref z4, .ref (u_1 0), .int 45, .ref z6, .ref z7, .ref z8, .int 0, .ref z9, .ref z10, .int 0, .int 0, .int 0, .int 0, .ref z11, .int 0, .null, .ref z12, .ref z13])), ((u_1 0), .inl (y 0, 10, .inl (fun _ => (-1)))), (q_2, .inl (y 0, 10, .inl (fun _ => 0)))] H := hP
  have hD : va_D A [(a0, .inr (13, [.ref z0, .ref z1, .ref z2, .ref z3, .ref z4, .ref (u_1 0), .int 45, .ref z6, .ref z7, .ref z8, .int 0, .ref z9, .ref z10, .int 0, .int 0, .int 0, .int 0, .ref z11, .int 0, .null, .ref z12, .ref z13])), ((u_1 0), .inl (y 0, 10, .inl (fun _ => (-1)))), (q_2, .inl (y 0, 10, .inl (fun _ => 0)))] := hD
  refine W.widen (k := 2) (n := 20) (Nat.le_of_ble_eq_true rfl) (Nat.le_of_ble_eq_true rfl) ?_
  refine va_put (D := D) (ci := 13) (v := .ref q_2) (ty := .array .int) (C := RX11) (T := TX11) (N := 22) hx hb hts inX11 tyX11 tyX11_ok nmX11 hown hK hP hD hS 0 rfl rfl 7 (by decide) (hts _ wd_127) (fun _ h9 => h9) rfl (by decide +kernel) rfl rfl (Nat.le_of_ble_eq_true rfl) dX11_begins_12 (fun H locs hP hD hS => ?_)
  have hP : va_P D vwCl [(a0, .inr (13, [.ref z0, .ref z1, .ref z2, .ref z3, .ref z4, .ref (u_1 0), .int 45, .ref q_2, .ref z7, .ref z8, .int 0, .ref z9, .ref z10, .int 0, .int 0, .int 0, .int 0, .ref z11, .int 0, .null, .ref z12, .ref z13])), ((u_1 0), .inl (y 0, 10, .inl (fun _ => (-1)))), (q_2, .inl (y 0, 10, .inl (fun _ => 0)))] H := hP
  have hD : va_D A [(a0, .inr (13, [.ref z0, .ref z1, .ref z2, .ref z3, .ref z4, .ref (u_1 0), .int 45, .ref q_2, .ref z7, .ref z8, .int 0, .ref z9, .ref z10, .int 0, .int 0, .int 0, .int 0, .ref z11, .int 0, .null, .ref z12, .ref z13])), ((u_1 0), .inl (y 0, 10, .inl (fun _ => (-1)))), (q_2, .inl (y 0, 10, .inl (fun _ => 0)))] := hD
  refine lv_aload_n hx hb dX11_begins_15 rfl (lv_at hl 0 rfl) ?_
  refine lv_iconst (v := 0) hx hb dX11_begins_16 (by decide) ?_
  refine va_put (D := D) (ci := 13) (v := .int 0) (ty := .int) (C := RX11) (T := TX11) (N := 22) hx hb hts inX11 tyX11 tyX11_ok nmX11 hown hK hP hD hS 0 rfl rfl 10 (by decide) (hts _ wd_427) (fun _ h9 => h9) rfl (by decide +kernel) rfl rfl (Nat.le_of_ble_eq_true rfl) dX11_begins_17 (fun H locs hP hD hS => ?_)
  have hP : va_P D vwCl [(a0, .inr (13, [.ref z0, .ref z1, .ref z2, .ref z3, .ref z4, .ref (u_1 0), .int 45, .ref q_2, .ref z7, .ref z8, .int 0, .ref z9, .ref z10, .int 0, .int 0, .int 0, .int 0, .ref z11, .int 0, .null, .ref z12, .ref z13])), ((u_1 0), .inl (y 0, 10, .inl (fun _ => (-1)))), (q_2, .inl (y 0, 10, .inl (fun _ => 0)))] H := hP
  have hD : va_D A [(a0, .inr (13, [.ref z0, .ref z1, .ref z2, .ref z3, .ref z4, .ref (u_1 0), .int 45, .ref q_2, .ref z7, .ref z8, .int 0, .ref z9, .ref z10, .int 0, .int 0, .int 0, .int 0, .ref z11, .int 0, .null, .ref z12, .ref z13])), ((u_1 0), .inl (y 0, 10, .inl (fun _ => (-1)))), (q_2, .inl (y 0, 10, .inl (fun _ => 0)))] := hD
  refine lv_aload_n hx hb dX11_begins_20 rfl (lv_at hl 0 rfl) ?_
  refine lv_iload_n hx hb dX11_begins_21 rfl (lv_at hl 1 rfl) ?_
  refine va_put (D := D) (ci := 13) (v := .int 112) (ty := .char) (C := RX11) (T := TX11) (N := 22) hx hb hts inX11 tyX11 tyX11_ok nmX11 hown hK hP hD hS 0 rfl rfl 6 (by decide) (hts _ wd_126) (fun _ h9 => h9) rfl (by decide +kernel) (by decide) (by decide) (Nat.le_of_ble_eq_true rfl) dX11_begins_22 (fun H locs hP hD hS => ?_)
  have hP : va_P D vwCl [(a0, .inr (13, [.ref z0, .ref z1, .ref z2, .ref z3, .ref z4, .ref (u_1 0), .int 112, .ref q_2, .ref z7, .ref z8, .int 0, .ref z9, .ref z10, .int 0, .int 0, .int 0, .int 0, .ref z11, .int 0, .null, .ref z12, .ref z13])), ((u_1 0), .inl (y 0, 10, .inl (fun _ => (-1)))), (q_2, .inl (y 0, 10, .inl (fun _ => 0)))] H := hP
  have hD : va_D A [(a0, .inr (13, [.ref z0, .ref z1, .ref z2, .ref z3, .ref z4, .ref (u_1 0), .int 112, .ref q_2, .ref z7, .ref z8, .int 0, .ref z9, .ref z10, .int 0, .int 0, .int 0, .int 0, .ref z11, .int 0, .null, .ref z12, .ref z13])), ((u_1 0), .inl (y 0, 10, .inl (fun _ => (-1)))), (q_2, .inl (y 0, 10, .inl (fun _ => 0)))] := hD
  exact e_v hF hr (Nat.le_of_ble_eq_true rfl) (Nat.le_of_ble_eq_true rfl) hS (qg_end hS (adl [(u_1 0), q_2]) rfl [0, 1, 2] hP rfl (hD.sub [0, 1, 2] rfl rfl)) dX11_begins_25

set_option maxHeartbeats 4000000 in
set_option maxRecDepth 100000 in
theorem c199_X11_openNow (l : Launch) (a0 : Nat) (a1 : Nat) (z0 : Nat) (z1 : Nat) (z2 : Nat) (z3 : Nat) (z4 : Nat) (z5 : Nat) (z6 : Nat) (z7 : Nat) (z8 : Nat) (z9 : Nat) (z10 : Nat) (z11 : Nat) (z12 : Nat) : CT l (.code yX11_openNow cX11_openNow 4 (some .int)) yX11_openNow { frames := 0, cells := 0, slots := 0, locals := 0 } [.ref a0] (fun y => [(a0, .inr (13, [.ref a1, .ref z0, .ref z1, .ref z2, .ref z3, .ref z4, .int 112, .ref z5, .ref z6, .ref z7, .int 0, .ref z8, .ref z9, .int 0, .int 0, .int 0, .int 0, .ref z10, .int 0, .null, .ref z11, .ref z12])), (a1, .inl (y 0, 3, .inl (fun _ => 0)))]) (fun _ => []) (fun u => some (.int 0)) (fun y u => []) := by
  refine mkM (by decide) (Nat.le_of_ble_eq_true rfl) ?_
  intro p e s m args below meth c D y A ls hF hr hAe hP hD hS hl
  have hF : FX p e s m args meth c cX11_openNow 4 RX11 "openNow" D y A := hF
  obtain ⟨⟨hx, hb, hml, hown, hts⟩, hev, heh, hA, hlk, hnm⟩ := id hF
  have hK := hev.1
  have hP : va_P D vwCl [(a0, .inr (13, [.ref a1, .ref z0, .ref z1, .ref z2, .ref z3, .ref z4, .int 112, .ref z5, .ref z6, .ref z7, .int 0, .ref z8, .ref z9, .int 0, .int 0, .int 0, .int 0, .ref z10, .int 0, .null, .ref z11, .ref z12])), (a1, .inl (y 0, 3, .inl (fun _ => 0)))] s.heap := hP
  have hD : va_D (fun _ => True) [(a0, .inr (13, [.ref a1, .ref z0, .ref z1, .ref z2, .ref z3, .ref z4, .int 112, .ref z5, .ref z6, .ref z7, .int 0, .ref z8, .ref z9, .int 0, .int 0, .int 0, .int 0, .ref z10, .int 0, .null, .ref z11, .ref z12])), (a1, .inl (y 0, 3, .inl (fun _ => 0)))] := hD
  have hl : lv_has ls 4 [(0, .ref a0)] := hl
  refine lv_iconst (v := 0) hx hb dX11_openNow_0 (by decide) ?_
  refine lv_istore_n (lv' := [(1, .int 0), (0, .ref a0)]) hx hb dX11_openNow_1 rfl hl (by decide) rfl (fun ls hl => ?_)
  refine lv_aload_n hx hb dX11_openNow_2 rfl (lv_at hl 1 rfl) ?_
  refine va_get (D := D) (ci := 13) (v := .int 112) (C := RX11) (T := TX11) (N := 22) hx hb hts inX11 hown hK hP 0 rfl rfl 6 (by decide) (hts _ wd_126) (fun _ h9 => h9) rfl dX11_openNow_3 ?_
  refine lv_bipush (v := 112) hx hb dX11_openNow_6 (by decide) ?_
  refine lv_icmp_ne (tgt := 15) hx hb dX11_openNow_8 (by decide) (fun c => absurd (by decide) c) (fun _ => ?_)
  refine lv_iconst (v := 1) hx hb dX11_openNow_11 (by decide) ?_
  refine lv_goto (tgt := 16) hx hb dX11_openNow_12 (by decide) ?_
  refine lv_istore_n (lv' := [(2, .int 1), (1, .int 0), (0, .ref a0)]) hx hb dX11_openNow_16 rfl hl (by decide) rfl (fun ls hl => ?_)
  refine lv_iconst (v := 0) hx hb dX11_openNow_17 (by decide) ?_
  refine lv_istore_n (lv' := [(3, .int 0), (2, .int 1), (1, .int 0), (0, .ref a0)]) hx hb dX11_openNow_18 rfl hl (by decide) rfl (fun ls hl => ?_)
  refine lv_iload_n hx hb dX11_openNow_19 rfl (lv_at hl 0 rfl) ?_
  refine lv_aload_n hx hb dX11_openNow_20 rfl (lv_at hl 3 rfl) ?_
  refine va_get (D := D) (ci := 13) (v := .ref a1) (C := RX11) (T := TX11) (N := 22) hx hb hts inX11 hown hK hP 0 rfl rfl 0 (by decide) (hts _ wd_115) (fun _ h9 => h9) rfl dX11_openNow_21 ?_
  refine lv_iload_n hx hb dX11_openNow_24 rfl (lv_at hl 1 rfl) ?_
  refine lv_if_eq (tgt := 32) hx hb dX11_openNow_25 (by decide) (fun c => absurd c (by decide)) (fun _ => ?_)
  refine lv_iconst (v := 0) hx hb dX11_openNow_28 (by decide) ?_
  refine lv_goto (tgt := 33) hx hb dX11_openNow_29 (by decide) ?_
  refine va_iald hx hb hK hP 1 0 rfl rfl (vp_in_nI (n := 0) (by decide) (by decide)) dX11_openNow_33 ?_
  refine tp_i (v := 0) rfl ?_
  refine lv_icmp_ge (tgt := 69) hx hb dX11_openNow_34 (by decide) (fun _ => ?_) (fun c => absurd (by decide) c)
  refine lv_iload_n hx hb dX11_openNow_69 rfl (lv_at hl 2 rfl) ?_
  exact e_i hF hr (Nat.le_of_ble_eq_true rfl) (Nat.le_of_ble_eq_true rfl) hS (qg_end hS (fun _ => 0) rfl [] hP rfl d_nil) dX11_openNow_70

set_option maxHeartbeats 4000000 in
set_option maxRecDepth 100000 in
theorem c197_X11_begin (l : Launch) (a0 : Nat) (a1 : Nat) (z0 : Nat) (z1 : Nat) (z2 : Nat) (z3 : Nat) (z4 : Nat) (z5 : Nat) (z6 : Nat) (z7 : Nat) (z8 : Nat) (z9 : Nat) (z10 : Nat) (z11 : Nat) (z12 : Nat) : CT l (.code yX11_begin cX11_begin 2 (some .int)) yX11_begin { frames := 5, cells := 2, slots := 20, locals := 111 } [.ref a0, .int 112] (fun y => [(a0, .inr (13, [.ref a1, .ref z0, .ref z1, .ref z2, .ref z3, .ref z4, .int 45, .ref z5, .ref z6, .ref z7, .int 0, .ref z8, .ref z9, .int 0, .int 0, .int 0, .int 0, .ref z10, .int 0, .null, .ref z11, .ref z12])), (a1, .inl (y 0, 3, .inl (fun _ => 0)))]) (fun y => [(a0, .inr (13, [.ref a1, .ref z0, .ref z1, .ref z2, .ref z3, .ref z4, .int 45, .ref z5, .ref z6, .ref z7, .int 0, .ref z8, .ref z9, .int 0, .int 0, .int 0, .int 0, .ref z10, .int 0, .null, .ref z11, .ref z12])), (a1, .inl (y 0, 3, .inl (fun _ => 0)))]) (fun u => some (.int 0)) (fun y u => [(a0, .inr (13, [.ref a1, .ref z0, .ref z1, .ref z2, .ref z3, .ref (u 0), .int 112, .ref (u 1), .ref z6, .ref z7, .int 0, .ref z8, .ref z9, .int 0, .int 0, .int 0, .int 0, .ref z10, .int 0, .null, .ref z11, .ref z12])), (a1, .inl (y 0, 3, .inl (fun _ => 0))), ((u 0), .inl (y 0, 10, .inl (fun _ => (-1)))), ((u 1), .inl (y 0, 10, .inl (fun _ => 0)))]) := by
  refine mkM (by decide) (Nat.le_of_ble_eq_true rfl) ?_
  intro p e s m args below meth c D y A ls hF hr hAe hP hD hS hl
  have hF : FX p e s m args meth c cX11_begin 2 RX11 "begin" D y A := hF
  obtain ⟨⟨hx, hb, hml, hown, hts⟩, hev, heh, hA, hlk, hnm⟩ := id hF
  have hK := hev.1
  have hP : va_P D vwCl [(a0, .inr (13, [.ref a1, .ref z0, .ref z1, .ref z2, .ref z3, .ref z4, .int 45, .ref z5, .ref z6, .ref z7, .int 0, .ref z8, .ref z9, .int 0, .int 0, .int 0, .int 0, .ref z10, .int 0, .null, .ref z11, .ref z12])), (a1, .inl (y 0, 3, .inl (fun _ => 0)))] s.heap := hP
  have hD : va_D A [(a0, .inr (13, [.ref a1, .ref z0, .ref z1, .ref z2, .ref z3, .ref z4, .int 45, .ref z5, .ref z6, .ref z7, .int 0, .ref z8, .ref z9, .int 0, .int 0, .int 0, .int 0, .ref z10, .int 0, .null, .ref z11, .ref z12])), (a1, .inl (y 0, 3, .inl (fun _ => 0)))] := by rw [← hAe]; exact hD.self
  have hl : lv_has ls 2 [(0, .ref a0), (1, .int 112)] := hl
  refine lv_aload_n hx hb dX11_begin_0 rfl (lv_at hl 0 rfl) ?_
  refine lv_iload_n hx hb dX11_begin_1 rfl (lv_at hl 1 rfl) ?_
  refine cS (l := l) (yM := yX11_sideOf) (As := [.int 112]) (rest := [.ref a0]) (wr := [(a0, .inr (13, [.ref a1, .ref z0, .ref z1, .ref z2, .ref z3, .ref z4, .int 45, .ref z5, .ref z6, .ref z7, .int 0, .ref z8, .ref z9, .int 0, .int 0, .int 0, .int 0, .ref z10, .int 0, .null, .ref z11, .ref z12])), (a1, .inl (y 0, 3, .inl (fun _ => 0)))]) hF (c23_X11_sideOf l) gs_RX11_124 1 (by decide +kernel) rfl ⟨(Nat.le_of_ble_eq_true rfl), (Nat.le_of_ble_eq_true rfl)⟩ hl.1 rfl (Nat.le_of_ble_eq_true rfl) dX11_begin_2 ⟨(Nat.le_of_ble_eq_true rfl), (Nat.le_of_ble_eq_true rfl)⟩ hP hD hS (pA hA hS) (fun _ h => h) [] [] [0, 1] rfl rfl rfl rfl rfl (by decide) (fun u_1 H locs hP hD hS => ?_)
  have hP : va_P D vwCl [(a0, .inr (13, [.ref a1, .ref z0, .ref z1, .ref z2, .ref z3, .ref z4, .int 45, .ref z5, .ref z6, .ref z7, .int 0, .ref z8, .ref z9, .int 0, .int 0, .int 0, .int 0, .ref z10, .int 0, .null, .ref z11, .ref z12])), (a1, .inl (y 0, 3, .inl (fun _ => 0)))] H := hP
  have hD : va_D A [(a0, .inr (13, [.ref a1, .ref z0, .ref z1, .ref z2, .ref z3, .ref z4, .int 45, .ref z5, .ref z6, .ref z7, .int 0, .ref z8, .ref z9, .int 0, .int 0, .int 0, .int 0, .ref z10, .int 0, .null, .ref z11, .ref z12])), (a1, .inl (y 0, 3, .inl (fun _ => 0)))] := hD
  refine W.widen (k := 0) (n := 0) (Nat.le_of_ble_eq_true rfl) (Nat.le_of_ble_eq_true rfl) ?_
  refine W.eq (g2 := F0 m 5 ls [.int 0, .ref a0]) rfl ?_
  refine lv_iconst (v := 0) hx hb dX11_begin_5 (by decide) ?_
  refine lv_iconst (v := 1) hx hb dX11_begin_6 (by decide) ?_
  refine cS (l := l) (yM := yX11_in) (As := [.int 0, .int 0, .int 1]) (rest := [.ref a0]) (wr := [(a0, .inr (13, [.ref a1, .ref z0, .ref z1, .ref z2, .ref z3, .ref z4, .int 45, .ref z5, .ref z6, .ref z7, .int 0, .ref z8, .ref z9, .int 0, .int 0, .int 0, .int 0, .ref z10, .int 0, .null, .ref z11, .ref z12])), (a1, .inl (y 0, 3, .inl (fun _ => 0)))]) hF (c197_X11_in l) gs_RX11_78 3 (by decide +kernel) rfl ⟨(Nat.le_of_ble_eq_true rfl), (Nat.le_of_ble_eq_true rfl)⟩ hl.1 rfl (Nat.le_of_ble_eq_true rfl) dX11_begin_7 ⟨(Nat.le_of_ble_eq_true rfl), (Nat.le_of_ble_eq_true rfl)⟩ hP hD hS (pA hA hS) (fun _ h => h) [] [] [0, 1] rfl rfl rfl rfl rfl (by decide) (fun u_2 H locs hP hD hS => ?_)
  have hP : va_P D vwCl [(a0, .inr (13, [.ref a1, .ref z0, .ref z1, .ref z2, .ref z3, .ref z4, .int 45, .ref z5, .ref z6, .ref z7, .int 0, .ref z8, .ref z9, .int 0, .int 0, .int 0, .int 0, .ref z10, .int 0, .null, .ref z11, .ref z12])), (a1, .inl (y 0, 3, .inl (fun _ => 0)))] H := hP
  have hD : va_D A [(a0, .inr (13, [.ref a1, .ref z0, .ref z1, .ref z2, .ref z3, .ref z4, .int 45, .ref z5, .ref z6, .ref z7, .int 0, .ref z8, .ref z9, .int 0, .int 0, .int 0, .int 0, .ref z10, .int 0, .null, .ref z11, .ref z12])), (a1, .inl (y 0, 3, .inl (fun _ => 0)))] := hD
  refine W.widen (k := 0) (n := 0) (Nat.le_of_ble_eq_true rfl) (Nat.le_of_ble_eq_true rfl) ?_
  refine W.eq (g2 := F0 m 10 ls [.int 1, .ref a0]) rfl ?_
  refine lv_if_ne (tgt := 17) hx hb dX11_begin_10 (by decide) (fun _ => ?_) (fun c => absurd c (by decide))
  refine lv_iconst (v := 0) hx hb dX11_begin_17 (by decide) ?_
  refine lv_iconst (v := 0) hx hb dX11_begin_18 (by decide) ?_
  refine lv_iconst (v := 0) hx hb dX11_begin_19 (by decide) ?_
  refine cV (l := l) (yM := yX11_fails) (C := RX11) (As := [.int 0, .int 0, .int 0]) (rest := []) (wr := [(a1, .inl (y 0, 3, .inl (fun _ => 0)))]) hF (c32_X11_fails l a0 a1 z0 z1 z2 z3 z4 z5 z6 z7 z8 z9 z10 z11 z12) gv_RX11_128 3 (by decide +kernel) rfl ⟨(Nat.le_of_ble_eq_true rfl), (Nat.le_of_ble_eq_true rfl)⟩ hl.1 rfl (Nat.le_of_ble_eq_true rfl) dX11_begin_20 ⟨(Nat.le_of_ble_eq_true rfl), (Nat.le_of_ble_eq_true rfl)⟩ hP hD hS (va_free (wc := [(a0, .inr (13, [.ref a1, .ref z0, .ref z1, .ref z2, .ref z3, .ref z4, .int 45, .ref z5, .ref z6, .ref z7, .int 0, .ref z8, .ref z9, .int 0, .int 0, .int 0, .int 0, .ref z10, .int 0, .null, .ref z11, .ref z12]))]) hD hS hA [0] rfl) (fun _ h => h) [0] [0] [1] rfl rfl rfl rfl rfl (by decide) 0 (ci := 13) rfl rfl rfl (fun u_3 H locs hP hD hS => ?_)
  have hP : va_P D vwCl [(a1, .inl (y 0, 3, .inl (fun _ => 0))), (a0, .inr (13, [.ref a1, .ref z0, .ref z1, .ref z2, .ref z3, .ref z4, .int 45, .ref z5, .ref z6, .ref z7, .int 0, .ref z8, .ref z9, .int 0, .int 0, .int 0, .int 0, .ref z10, .int 0, .null, .ref z11, .ref z12]))] H := hP
  have hD : va_D A [(a1, .inl (y 0, 3, .inl (fun _ => 0))), (a0, .inr (13, [.ref a1, .ref z0, .ref z1, .ref z2, .ref z3, .ref z4, .int 45, .ref z5, .ref z6, .ref z7, .int 0, .ref z8, .ref z9, .int 0, .int 0, .int 0, .int 0, .ref z10, .int 0, .null, .ref z11, .ref z12]))] := hD
  refine W.widen (k := 0) (n := 0) (Nat.le_of_ble_eq_true rfl) (Nat.le_of_ble_eq_true rfl) ?_
  refine W.eq (g2 := F0 m 23 ls [.int 0]) rfl ?_
  refine lv_if_eq (tgt := 28) hx hb dX11_begin_23 (by decide) (fun _ => ?_) (fun c => absurd (by decide) c)
  refine lv_aload_n hx hb dX11_begin_28 rfl (lv_at hl 0 rfl) ?_
  refine lv_iload_n hx hb dX11_begin_29 rfl (lv_at hl 1 rfl) ?_
  refine cV (l := l) (yM := yX11_begins) (C := RX11) (As := [.int 112]) (rest := []) (wr := [(a1, .inl (y 0, 3, .inl (fun _ => 0)))]) hF (c198_X11_begins l a0 a1 z0 z1 z2 z3 z4 z5 z6 z7 z8 z9 z10 z11 z12) gv_RX11_164 1 (by decide +kernel) rfl ⟨(Nat.le_of_ble_eq_true rfl), (Nat.le_of_ble_eq_true rfl)⟩ hl.1 rfl (Nat.le_of_ble_eq_true rfl) dX11_begin_30 ⟨(Nat.le_of_ble_eq_true rfl), (Nat.le_of_ble_eq_true rfl)⟩ hP hD hS (va_free (wc := [(a0, .inr (13, [.ref a1, .ref z0, .ref z1, .ref z2, .ref z3, .ref z4, .int 45, .ref z5, .ref z6, .ref z7, .int 0, .ref z8, .ref z9, .int 0, .int 0, .int 0, .int 0, .ref z10, .int 0, .null, .ref z11, .ref z12]))]) hD hS hA [1] rfl) (fun _ h => h) [1] [1] [0] rfl rfl rfl rfl rfl (by decide) 1 (ci := 13) rfl rfl rfl (fun u_4 H locs hP hD hS => ?_)
  have hP : va_P D vwCl [(a1, .inl (y 0, 3, .inl (fun _ => 0))), (a0, .inr (13, [.ref a1, .ref z0, .ref z1, .ref z2, .ref z3, .ref (u_4 0), .int 112, .ref (u_4 1), .ref z6, .ref z7, .int 0, .ref z8, .ref z9, .int 0, .int 0, .int 0, .int 0, .ref z10, .int 0, .null, .ref z11, .ref z12])), ((u_4 0), .inl (y 0, 10, .inl (fun _ => (-1)))), ((u_4 1), .inl (y 0, 10, .inl (fun _ => 0)))] H := hP
  have hD : va_D A [(a1, .inl (y 0, 3, .inl (fun _ => 0))), (a0, .inr (13, [.ref a1, .ref z0, .ref z1, .ref z2, .ref z3, .ref (u_4 0), .int 112, .ref (u_4 1), .ref z6, .ref z7, .int 0, .ref z8, .ref z9, .int 0, .int 0, .int 0, .int 0, .ref z10, .int 0, .null, .ref z11, .ref z12])), ((u_4 0), .inl (y 0, 10, .inl (fun _ => (-1)))), ((u_4 1), .inl (y 0, 10, .inl (fun _ => 0)))] := hD
  refine W.widen (k := 2) (n := 20) (Nat.le_of_ble_eq_true rfl) (Nat.le_of_ble_eq_true rfl) ?_
  refine W.eq (g2 := F0 m 33 ls []) rfl ?_
  refine lv_aload_n hx hb dX11_begin_33 rfl (lv_at hl 0 rfl) ?_
  refine cV (l := l) (yM := yX11_openNow) (C := RX11) (As := []) (rest := []) (wr := [(a1, .inl (y 0, 3, .inl (fun _ => 0))), (a0, .inr (13, [.ref a1, .ref z0, .ref z1, .ref z2, .ref z3, .ref (u_4 0), .int 112, .ref (u_4 1), .ref z6, .ref z7, .int 0, .ref z8, .ref z9, .int 0, .int 0, .int 0, .int 0, .ref z10, .int 0, .null, .ref z11, .ref z12])), ((u_4 0), .inl (y 0, 10, .inl (fun _ => (-1)))), ((u_4 1), .inl (y 0, 10, .inl (fun _ => 0)))]) hF (c199_X11_openNow l a0 a1 z0 z1 z2 z3 (u_4 0) (u_4 1) z6 z7 z8 z9 z10 z11 z12) gv_RX11_168 0 (by decide +kernel) rfl ⟨(Nat.le_of_ble_eq_true rfl), (Nat.le_of_ble_eq_true rfl)⟩ hl.1 rfl (Nat.le_of_ble_eq_true rfl) dX11_begin_34 ⟨(Nat.le_of_ble_eq_true rfl), (Nat.le_of_ble_eq_true rfl)⟩ hP hD hS (pA hA hS) (fun _ h => h) [1, 0] [] [0, 1, 2, 3] rfl rfl rfl rfl rfl (by decide) 1 (ci := 13) rfl rfl rfl (fun u_5 H locs hP hD hS => ?_)
  have hP : va_P D vwCl [(a1, .inl (y 0, 3, .inl (fun _ => 0))), (a0, .inr (13, [.ref a1, .ref z0, .ref z1, .ref z2, .ref z3, .ref (u_4 0), .int 112, .ref (u_4 1), .ref z6, .ref z7, .int 0, .ref z8, .ref z9, .int 0, .int 0, .int 0, .int 0, .ref z10, .int 0, .null, .ref z11, .ref z12])), ((u_4 0), .inl (y 0, 10, .inl (fun _ => (-1)))), ((u_4 1), .inl (y 0, 10, .inl (fun _ => 0)))] H := hP
  have hD : va_D A [(a1, .inl (y 0, 3, .inl (fun _ => 0))), (a0, .inr (13, [.ref a1, .ref z0, .ref z1, .ref z2, .ref z3, .ref (u_4 0), .int 112, .ref (u_4 1), .ref z6, .ref z7, .int 0, .ref z8, .ref z9, .int 0, .int 0, .int 0, .int 0, .ref z10, .int 0, .null, .ref z11, .ref z12])), ((u_4 0), .inl (y 0, 10, .inl (fun _ => (-1)))), ((u_4 1), .inl (y 0, 10, .inl (fun _ => 0)))] := hD
  refine W.widen (k := 2) (n := 20) (Nat.le_of_ble_eq_true rfl) (Nat.le_of_ble_eq_true rfl) ?_
  refine W.eq (g2 := F0 m 37 ls [.int 0]) rfl ?_
  exact e_i hF hr (Nat.le_of_ble_eq_true rfl) (Nat.le_of_ble_eq_true rfl) hS (qg_end hS (adl [(u_4 0), (u_4 1)]) rfl [1, 0, 2, 3] hP rfl (hD.sub [1, 0, 2, 3] rfl rfl)) dX11_begin_37

set_option maxHeartbeats 4000000 in
set_option maxRecDepth 100000 in
theorem c201_X11_thrown (l : Launch) (a0 : Nat) (z0 : Nat) (z1 : Nat) (z2 : Nat) (z3 : Nat) (z4 : Nat) (z5 : Nat) (z6 : Nat) (z7 : Nat) (z8 : Nat) (z9 : Nat) (z10 : Nat) (z11 : Nat) (z12 : Nat) (z13 : Nat) : CT l (.code yX11_thrown cX11_thrown 1 (some .int)) yX11_thrown { frames := 0, cells := 0, slots := 0, locals := 0 } [.ref a0] (fun y => [(a0, .inr (13, [.ref z0, .ref z1, .ref z2, .ref z3, .ref z4, .ref z5, .int 112, .ref z6, .ref z7, .ref z8, .int 0, .ref z9, .ref z10, .int 0, .int 0, .int 0, .int 0, .ref z11, .int 0, .null, .ref z12, .ref z13]))]) (fun _ => []) (fun u => some (.int 0)) (fun y u => []) := by
  refine mkM (by decide) (Nat.le_of_ble_eq_true rfl) ?_
  intro p e s m args below meth c D y A ls hF hr hAe hP hD hS hl
  have hF : FX p e s m args meth c cX11_thrown 1 RX11 "thrown" D y A := hF
  obtain ⟨⟨hx, hb, hml, hown, hts⟩, hev, heh, hA, hlk, hnm⟩ := id hF
  have hK := hev.1
  have hP : va_P D vwCl [(a0, .inr (13, [.ref z0, .ref z1, .ref z2, .ref z3, .ref z4, .ref z5, .int 112, .ref z6, .ref z7, .ref z8, .int 0, .ref z9, .ref z10, .int 0, .int 0, .int 0, .int 0, .ref z11, .int 0, .null, .ref z12, .ref z13]))] s.heap := hP
  have hD : va_D (fun _ => True) [(a0, .inr (13, [.ref z0, .ref z1, .ref z2, .ref z3, .ref z4, .ref z5, .int 112, .ref z6, .ref z7, .ref z8, .int 0, .ref z9, .ref z10, .int 0, .int 0, .int 0, .int 0, .ref z11, .int 0, .null, .ref z12, .ref z13]))] := hD
  have hl : lv_has ls 1 [(0, .ref a0)] := hl
  refine lv_aload_n hx hb dX11_thrown_0 rfl (lv_at hl 0 rfl) ?_
  refine va_get (D := D) (ci := 13) (v := .int 0) (C := RX11) (T := TX11) (N := 22) hx hb hts inX11 hown hK hP 0 rfl rfl 15 (by decide) (hts _ wd_216) (fun _ h9 => h9) rfl dX11_thrown_1 ?_
  exact e_i hF hr (Nat.le_of_ble_eq_true rfl) (Nat.le_of_ble_eq_true rfl) hS (qg_end hS (fun _ => 0) rfl [] hP rfl d_nil) dX11_thrown_4

set_option maxHeartbeats 4000000 in
set_option maxRecDepth 100000 in
theorem c202_X10_needOfferSide (l : Launch) (z0 : Nat) : CT l (.code yX10_needOfferSide cX10_needOfferSide 2 none) yX10_needOfferSide { frames := 0, cells := 0, slots := 0, locals := 0 } [.ref z0, .int 104] (fun y => []) (fun _ => []) (fun u => none) (fun y u => []) := by
  refine mkM (by decide) (Nat.le_of_ble_eq_true rfl) ?_
  intro p e s m args below meth c D y A ls hF hr hAe hP hD hS hl
  have hF : FX p e s m args meth c cX10_needOfferSide 2 RX10 "needOfferSide" D y A := hF
  obtain ⟨⟨hx, hb, hml, hown, hts⟩, hev, heh, hA, hlk, hnm⟩ := id hF
  have hK := hev.1
  have hP : va_P D vwCl [] s.heap := hP
  have hD : va_D A [] := by rw [← hAe]; exact hD.self
  have hl : lv_has ls 2 [(0, .ref z0), (1, .int 104)] := hl
  refine lv_iload_n hx hb dX10_needOfferSide_0 rfl (lv_at hl 1 rfl) ?_
  refine lv_bipush (v := 112) hx hb dX10_needOfferSide_1 (by decide) ?_
  refine lv_icmp_eq (tgt := 23) hx hb dX10_needOfferSide_3 (by decide) (fun c => absurd c (by decide)) (fun _ => ?_)
  refine lv_iload_n hx hb dX10_needOfferSide_6 rfl (lv_at hl 1 rfl) ?_
  refine lv_bipush (v := 104) hx hb dX10_needOfferSide_7 (by decide) ?_
  refine lv_icmp_eq (tgt := 23) hx hb dX10_needOfferSide_9 (by decide) (fun _ => ?_) (fun c => absurd (by decide) c)
  exact e_v hF hr (Nat.le_of_ble_eq_true rfl) (Nat.le_of_ble_eq_true rfl) hS (qg_end hS (fun _ => 0) rfl [] hP rfl d_nil) dX10_needOfferSide_23

set_option maxHeartbeats 4000000 in
set_option maxRecDepth 100000 in
theorem c203_X4_start (l : Launch) (a0 : Nat) (a1 : Nat) (z0 : Nat) (z1 : Nat) : CT l (.code yX4_start cX4_start 2 none) yX4_start { frames := 1, cells := 0, slots := 0, locals := 23 } [.ref a0, .int 104] (fun y => [(a0, .inr (6, [.int 0, .int 0, .int 0, .ref a1, .ref z0, .ref z1])), (a1, .inl (y 0, 10, .inl (fun _ => 0)))]) (fun y => [(a0, .inr (6, [.int 0, .int 0, .int 0, .ref a1, .ref z0, .ref z1])), (a1, .inl (y 0, 10, .inl (fun _ => 0)))]) (fun u => none) (fun y u => [(a0, .inr (6, [.int 1, .int 1, .int 0, .ref a1, .ref z0, .ref z1])), (a1, .inl (y 0, 10, .inl (fun _ => 0)))]) := by
  refine mkM (by decide) (Nat.le_of_ble_eq_true rfl) ?_
  intro p e s m args below meth c D y A ls hF hr hAe hP hD hS hl
  have hF : FX p e s m args meth c cX4_start 2 RX4 "start" D y A := hF
  obtain ⟨⟨hx, hb, hml, hown, hts⟩, hev, heh, hA, hlk, hnm⟩ := id hF
  have hK := hev.1
  have hP : va_P D vwCl [(a0, .inr (6, [.int 0, .int 0, .int 0, .ref a1, .ref z0, .ref z1])), (a1, .inl (y 0, 10, .inl (fun _ => 0)))] s.heap := hP
  have hD : va_D A [(a0, .inr (6, [.int 0, .int 0, .int 0, .ref a1, .ref z0, .ref z1])), (a1, .inl (y 0, 10, .inl (fun _ => 0)))] := by rw [← hAe]; exact hD.self
  have hl : lv_has ls 2 [(0, .ref a0), (1, .int 104)] := hl
  refine lv_aload_n hx hb dX4_start_0 rfl (lv_at hl 0 rfl) ?_
  refine lv_iconst (v := 1) hx hb dX4_start_1 (by decide) ?_
  refine va_put (D := D) (ci := 6) (v := .int 1) (ty := .boolean) (C := RX4) (T := TX4) (N := 6) hx hb hts inX4 tyX4 tyX4_ok nmX4 hown hK hP hD hS 0 rfl rfl 0 (by decide) (hts _ wd_155) (fun _ h9 => h9) rfl (by decide +kernel) (by decide) (by decide) (Nat.le_of_ble_eq_true rfl) dX4_start_2 (fun H locs hP hD hS => ?_)
  have hP : va_P D vwCl [(a0, .inr (6, [.int 1, .int 0, .int 0, .ref a1, .ref z0, .ref z1])), (a1, .inl (y 0, 10, .inl (fun _ => 0)))] H := hP
  have hD : va_D A [(a0, .inr (6, [.int 1, .int 0, .int 0, .ref a1, .ref z0, .ref z1])), (a1, .inl (y 0, 10, .inl (fun _ => 0)))] := hD
  refine lv_aload_n hx hb dX4_start_5 rfl (lv_at hl 0 rfl) ?_
  refine lv_iload_n hx hb dX4_start_6 rfl (lv_at hl 1 rfl) ?_
  refine lv_bipush (v := 104) hx hb dX4_start_7 (by decide) ?_
  refine lv_icmp_ne (tgt := 16) hx hb dX4_start_9 (by decide) (fun c => absurd (by decide) c) (fun _ => ?_)
  refine lv_iconst (v := 1) hx hb dX4_start_12 (by decide) ?_
  refine lv_goto (tgt := 17) hx hb dX4_start_13 (by decide) ?_
  refine va_put (D := D) (ci := 6) (v := .int 1) (ty := .boolean) (C := RX4) (T := TX4) (N := 6) hx hb hts inX4 tyX4 tyX4_ok nmX4 hown hK hP hD hS 0 rfl rfl 1 (by decide) (hts _ wd_397) (fun _ h9 => h9) rfl (by decide +kernel) (by decide) (by decide) (Nat.le_of_ble_eq_true rfl) dX4_start_17 (fun H locs hP hD hS => ?_)
  have hP : va_P D vwCl [(a0, .inr (6, [.int 1, .int 1, .int 0, .ref a1, .ref z0, .ref z1])), (a1, .inl (y 0, 10, .inl (fun _ => 0)))] H := hP
  have hD : va_D A [(a0, .inr (6, [.int 1, .int 1, .int 0, .ref a1, .ref z0, .ref z1])), (a1, .inl (y 0, 10, .inl (fun _ => 0)))] := hD
  refine lv_aload_n hx hb dX4_start_20 rfl (lv_at hl 0 rfl) ?_
  refine lv_iconst (v := 0) hx hb dX4_start_21 (by decide) ?_
  refine va_put (D := D) (ci := 6) (v := .int 0) (ty := .int) (C := RX4) (T := TX4) (N := 6) hx hb hts inX4 tyX4 tyX4_ok nmX4 hown hK hP hD hS 0 rfl rfl 2 (by decide) (hts _ wd_398) (fun _ h9 => h9) rfl (by decide +kernel) rfl rfl (Nat.le_of_ble_eq_true rfl) dX4_start_22 (fun H locs hP hD hS => ?_)
  have hP : va_P D vwCl [(a0, .inr (6, [.int 1, .int 1, .int 0, .ref a1, .ref z0, .ref z1])), (a1, .inl (y 0, 10, .inl (fun _ => 0)))] H := hP
  have hD : va_D A [(a0, .inr (6, [.int 1, .int 1, .int 0, .ref a1, .ref z0, .ref z1])), (a1, .inl (y 0, 10, .inl (fun _ => 0)))] := hD
  refine lv_aload_n hx hb dX4_start_25 rfl (lv_at hl 0 rfl) ?_
  refine va_get (D := D) (ci := 6) (v := .ref a1) (C := RX4) (T := TX4) (N := 6) hx hb hts inX4 hown hK hP 0 rfl rfl 3 (by decide) (hts _ wd_52) (fun _ h9 => h9) rfl dX4_start_26 ?_
  refine lv_iconst (v := 0) hx hb dX4_start_29 (by decide) ?_
  refine cS (l := l) (yM := yJ7_fill_53178) (As := [.ref a1, .int 0]) (rest := []) (wr := [(a0, .inr (6, [.int 1, .int 1, .int 0, .ref a1, .ref z0, .ref z1]))]) hF (c17_J7_fill_53178 l a1) gs_RX4_33 2 (by decide +kernel) rfl ⟨(Nat.le_of_ble_eq_true rfl), (Nat.le_of_ble_eq_true rfl)⟩ hl.1 rfl (Nat.le_of_ble_eq_true rfl) dX4_start_30 ⟨(Nat.le_of_ble_eq_true rfl), (Nat.le_of_ble_eq_true rfl)⟩ hP hD hS (va_free (wc := [(a1, .inl (y 0, 10, .inl (fun _ => 0)))]) hD hS hA [1] rfl) (fun _ h => h) [1] [1] [0] rfl rfl rfl rfl rfl (by decide) (fun u_1 H locs hP hD hS => ?_)
  have hP : va_P D vwCl [(a0, .inr (6, [.int 1, .int 1, .int 0, .ref a1, .ref z0, .ref z1])), (a1, .inl (y 0, 10, .inl (fun _ => 0)))] H := hP
  have hD : va_D A [(a0, .inr (6, [.int 1, .int 1, .int 0, .ref a1, .ref z0, .ref z1])), (a1, .inl (y 0, 10, .inl (fun _ => 0)))] := hD
  refine W.widen (k := 0) (n := 0) (Nat.le_of_ble_eq_true rfl) (Nat.le_of_ble_eq_true rfl) ?_
  refine W.eq (g2 := F0 m 33 ls []) rfl ?_
  exact e_v hF hr (Nat.le_of_ble_eq_true rfl) (Nat.le_of_ble_eq_true rfl) hS (qg_end hS (fun _ => 0) rfl [0, 1] hP rfl (hD.sub [0, 1] rfl rfl)) dX4_start_33

set_option maxHeartbeats 4000000 in
set_option maxRecDepth 100000 in
theorem c204_X4_offerers (l : Launch) (a0 : Nat) (a1 : Nat) (z0 : Nat) (z1 : Nat) (z2 : Nat) (z3 : Nat) (z4 : Nat) (z5 : Nat) : CT l (.code yX4_offerers cX4_offerers 2 (some (.object "StablepairBureau$Lists"))) yX4_offerers { frames := 0, cells := 0, slots := 0, locals := 0 } [.ref a1, .ref a0] (fun y => [(a0, .inr (5, [.ref z0, .ref z1, .ref z2])), (a1, .inr (6, [.int 1, .int 1, .int 0, .ref z3, .ref z4, .ref z5]))]) (fun _ => []) (fun u => some (.ref z1)) (fun y u => []) := by
  refine mkM (by decide) (Nat.le_of_ble_eq_true rfl) ?_
  intro p e s m args below meth c D y A ls hF hr hAe hP hD hS hl
  have hF : FX p e s m args meth c cX4_offerers 2 RX4 "offerers" D y A := hF
  obtain ⟨⟨hx, hb, hml, hown, hts⟩, hev, heh, hA, hlk, hnm⟩ := id hF
  have hK := hev.1
  have hP : va_P D vwCl [(a0, .inr (5, [.ref z0, .ref z1, .ref z2])), (a1, .inr (6, [.int 1, .int 1, .int 0, .ref z3, .ref z4, .ref z5]))] s.heap := hP
  have hD : va_D (fun _ => True) [(a0, .inr (5, [.ref z0, .ref z1, .ref z2])), (a1, .inr (6, [.int 1, .int 1, .int 0, .ref z3, .ref z4, .ref z5]))] := hD
  have hl : lv_has ls 2 [(0, .ref a1), (1, .ref a0)] := hl
  refine lv_aload_n hx hb dX4_offerers_0 rfl (lv_at hl 0 rfl) ?_
  refine va_get (D := D) (ci := 6) (v := .int 1) (C := RX4) (T := TX4) (N := 6) hx hb hts inX4 hown hK hP 1 rfl rfl 1 (by decide) (hts _ wd_397) (fun _ h9 => h9) rfl dX4_offerers_1 ?_
  refine lv_if_eq (tgt := 14) hx hb dX4_offerers_4 (by decide) (fun c => absurd c (by decide)) (fun _ => ?_)
  refine lv_aload_n hx hb dX4_offerers_7 rfl (lv_at hl 1 rfl) ?_
  refine va_getN (D := D) (ci := 5) (v := .ref z1) (C := RX3) (T := TX3) (N := 3) hx hb hts inX3 hown hK hP 0 rfl rfl 1 (by decide) (va_Nw.use (A := args) rfl (hev.2.1 (RX4, 39, RX3, "houses", "LStablepairBureau$Lists;") (List.mem_of_getElem? (i := 10) rfl))) (fun _ h9 => h9) rfl dX4_offerers_8 ?_
  refine lv_goto (tgt := 18) hx hb dX4_offerers_11 (by decide) ?_
  exact e_a hF hr (Or.inl ⟨_, rfl⟩) (Nat.le_of_ble_eq_true rfl) (Nat.le_of_ble_eq_true rfl) hS (qg_end hS (fun _ => 0) rfl [] hP rfl d_nil) dX4_offerers_18

set_option maxHeartbeats 4000000 in
set_option maxRecDepth 100000 in
theorem c204_X4_canMake (l : Launch) (a0 : Nat) (a1 : Nat) (a2 : Nat) (a3 : Nat) (z0 : Nat) (z1 : Nat) (z2 : Nat) (z3 : Nat) (z4 : Nat) (z5 : Nat) (z6 : Nat) (z7 : Nat) (p0 : Int32) : CT l (.code yX4_canMake cX4_canMake 4 (some .boolean)) yX4_canMake { frames := 1, cells := 0, slots := 0, locals := 21 } [.ref a2, .ref a0, .ref z7, .int p0] (fun y => [(a0, .inr (5, [.ref z0, .ref a1, .ref z1])), (a1, .inr (4, [.int 0, .ref z2, .ref z3, .ref z4])), (a2, .inr (6, [.int 1, .int 1, .int 0, .ref a3, .ref z5, .ref z6])), (a3, .inl (y 0, 10, .inl (fun _ => 0)))]) (fun _ => []) (fun u => some (.int 0)) (fun y u => []) := by
  refine mkM (by decide) (Nat.le_of_ble_eq_true rfl) ?_
  intro p e s m args below meth c D y A ls hF hr hAe hP hD hS hl
  have hF : FX p e s m args meth c cX4_canMake 4 RX4 "canMake" D y A := hF
  obtain ⟨⟨hx, hb, hml, hown, hts⟩, hev, heh, hA, hlk, hnm⟩ := id hF
  have hK := hev.1
  have hP : va_P D vwCl [(a0, .inr (5, [.ref z0, .ref a1, .ref z1])), (a1, .inr (4, [.int 0, .ref z2, .ref z3, .ref z4])), (a2, .inr (6, [.int 1, .int 1, .int 0, .ref a3, .ref z5, .ref z6])), (a3, .inl (y 0, 10, .inl (fun _ => 0)))] s.heap := hP
  have hD : va_D (fun _ => True) [(a0, .inr (5, [.ref z0, .ref a1, .ref z1])), (a1, .inr (4, [.int 0, .ref z2, .ref z3, .ref z4])), (a2, .inr (6, [.int 1, .int 1, .int 0, .ref a3, .ref z5, .ref z6])), (a3, .inl (y 0, 10, .inl (fun _ => 0)))] := hD
  have hl : lv_has ls 4 [(0, .ref a2), (1, .ref a0), (2, .ref z7), (3, .int p0)] := hl
  refine lv_iload_n hx hb dX4_canMake_0 rfl (lv_at hl 3 rfl) ?_
  refine lv_if_lt (tgt := 28) hx hb dX4_canMake_1 (by decide) (fun c_1 => ?_) (fun c_1 => ?_)
  · refine lv_iconst (v := 0) hx hb dX4_canMake_28 (by decide) ?_
    exact e_z hF hr (by decide) (Nat.le_of_ble_eq_true rfl) (Nat.le_of_ble_eq_true rfl) hS (qg_end hS (fun _ => 0) rfl [] hP rfl d_nil) dX4_canMake_29
  · refine lv_iload_n hx hb dX4_canMake_4 rfl (lv_at hl 3 rfl) ?_
    refine lv_bipush (v := 10) hx hb dX4_canMake_5 (by decide) ?_
    refine lv_icmp_ge (tgt := 28) hx hb dX4_canMake_7 (by decide) (fun c_2 => ?_) (fun c_2 => ?_)
    · refine lv_iconst (v := 0) hx hb dX4_canMake_28 (by decide) ?_
      exact e_z hF hr (by decide) (Nat.le_of_ble_eq_true rfl) (Nat.le_of_ble_eq_true rfl) hS (qg_end hS (fun _ => 0) rfl [] hP rfl d_nil) dX4_canMake_29
    · refine lv_aload_n hx hb dX4_canMake_10 rfl (lv_at hl 0 rfl) ?_
      refine va_get (D := D) (ci := 6) (v := .ref a3) (C := RX4) (T := TX4) (N := 6) hx hb hts inX4 hown hK hP 2 rfl rfl 3 (by decide) (hts _ wd_52) (fun _ h9 => h9) rfl dX4_canMake_11 ?_
      refine lv_iload_n hx hb dX4_canMake_14 rfl (lv_at hl 3 rfl) ?_
      refine va_iald hx hb hK hP 3 0 rfl rfl (vin2 (n := 10) c_1 c_2 (by decide)) dX4_canMake_15 ?_
      refine tp_i (v := 0) rfl ?_
      refine lv_aload_n hx hb dX4_canMake_16 rfl (lv_at hl 0 rfl) ?_
      refine lv_aload_n hx hb dX4_canMake_17 rfl (lv_at hl 1 rfl) ?_
      refine cV (l := l) (yM := yX4_offerers) (C := RX4) (As := [.ref a0]) (rest := [.int 0]) (wr := [(a0, .inr (5, [.ref z0, .ref a1, .ref z1])), (a1, .inr (4, [.int 0, .ref z2, .ref z3, .ref z4])), (a2, .inr (6, [.int 1, .int 1, .int 0, .ref a3, .ref z5, .ref z6])), (a3, .inl (y 0, 10, .inl (fun _ => 0)))]) hF (c204_X4_offerers l a0 a2 z0 a1 z1 a3 z5 z6) gv_RX4_48 1 (by decide +kernel) rfl ⟨(Nat.le_of_ble_eq_true rfl), (Nat.le_of_ble_eq_true rfl)⟩ hl.1 rfl (Nat.le_of_ble_eq_true rfl) dX4_canMake_18 ⟨(Nat.le_of_ble_eq_true rfl), (Nat.le_of_ble_eq_true rfl)⟩ hP hD hS (pA hA hS) (fun _ _ => trivial) [0, 2] [] [0, 1, 2, 3] rfl rfl rfl rfl rfl (by decide) 2 (ci := 6) rfl rfl rfl (fun u_3 H locs hP hD hS => ?_)
      have hP : va_P D vwCl [(a0, .inr (5, [.ref z0, .ref a1, .ref z1])), (a1, .inr (4, [.int 0, .ref z2, .ref z3, .ref z4])), (a2, .inr (6, [.int 1, .int 1, .int 0, .ref a3, .ref z5, .ref z6])), (a3, .inl (y 0, 10, .inl (fun _ => 0)))] H := hP
      have hD : va_D (fun _ => True) [(a0, .inr (5, [.ref z0, .ref a1, .ref z1])), (a1, .inr (4, [.int 0, .ref z2, .ref z3, .ref z4])), (a2, .inr (6, [.int 1, .int 1, .int 0, .ref a3, .ref z5, .ref z6])), (a3, .inl (y 0, 10, .inl (fun _ => 0)))] := hD
      refine W.widen (k := 0) (n := 0) (Nat.le_of_ble_eq_true rfl) (Nat.le_of_ble_eq_true rfl) ?_
      refine W.eq (g2 := F0 m 21 ls [.ref a1, .int 0]) rfl ?_
      refine lv_iload_n hx hb dX4_canMake_21 rfl (lv_at hl 3 rfl) ?_
      refine cV (l := l) (yM := yX2_sizeOf) (C := RX2) (As := [.int p0]) (rest := [.int 0]) (wr := [(a0, .inr (5, [.ref z0, .ref a1, .ref z1])), (a1, .inr (4, [.int 0, .ref z2, .ref z3, .ref z4])), (a2, .inr (6, [.int 1, .int 1, .int 0, .ref a3, .ref z5, .ref z6])), (a3, .inl (y 0, 10, .inl (fun _ => 0)))]) hF (c192_X2_sizeOf l a1 z2 z3 z4 p0) gv_RX4_52 1 (by decide +kernel) rfl ⟨(Nat.le_of_ble_eq_true rfl), (Nat.le_of_ble_eq_true rfl)⟩ hl.1 rfl (Nat.le_of_ble_eq_true rfl) dX4_canMake_22 ⟨(Nat.le_of_ble_eq_true rfl), (Nat.le_of_ble_eq_true rfl)⟩ hP hD hS (pA hA hS) (fun _ _ => trivial) [1] [] [0, 1, 2, 3] rfl rfl rfl rfl rfl (by decide) 1 (ci := 4) rfl rfl rfl (fun u_4 H locs hP hD hS => ?_)
      have hP : va_P D vwCl [(a0, .inr (5, [.ref z0, .ref a1, .ref z1])), (a1, .inr (4, [.int 0, .ref z2, .ref z3, .ref z4])), (a2, .inr (6, [.int 1, .int 1, .int 0, .ref a3, .ref z5, .ref z6])), (a3, .inl (y 0, 10, .inl (fun _ => 0)))] H := hP
      have hD : va_D (fun _ => True) [(a0, .inr (5, [.ref z0, .ref a1, .ref z1])), (a1, .inr (4, [.int 0, .ref z2, .ref z3, .ref z4])), (a2, .inr (6, [.int 1, .int 1, .int 0, .ref a3, .ref z5, .ref z6])), (a3, .inl (y 0, 10, .inl (fun _ => 0)))] := hD
      refine W.widen (k := 0) (n := 0) (Nat.le_of_ble_eq_true rfl) (Nat.le_of_ble_eq_true rfl) ?_
      refine W.eq (g2 := F0 m 25 ls [.int 0, .int 0]) rfl ?_
      refine lv_icmp_lt (tgt := 30) hx hb dX4_canMake_25 (by decide) (fun c => absurd c (by decide)) (fun _ => ?_)
      refine lv_iconst (v := 0) hx hb dX4_canMake_28 (by decide) ?_
      exact e_z hF hr (by decide) (Nat.le_of_ble_eq_true rfl) (Nat.le_of_ble_eq_true rfl) hS (qg_end hS (fun _ => 0) rfl [] hP rfl d_nil) dX4_canMake_29

set_option maxHeartbeats 4000000 in
set_option maxRecDepth 100000 in
theorem c204_X4_countAble (l : Launch) (a0 : Nat) (a1 : Nat) (a2 : Nat) (a3 : Nat) (z0 : Nat) (z1 : Nat) (z2 : Nat) (z3 : Nat) (z4 : Nat) (z5 : Nat) (z6 : Nat) (z7 : Nat) : CT l (.code yX4_countAble cX4_countAble 5 (some .int)) yX4_countAble { frames := 2, cells := 0, slots := 0, locals := 44 } [.ref a2, .ref a0, .ref z7] (fun y => [(a0, .inr (5, [.ref z0, .ref a1, .ref z1])), (a1, .inr (4, [.int 0, .ref z2, .ref z3, .ref z4])), (a2, .inr (6, [.int 1, .int 1, .int 0, .ref a3, .ref z5, .ref z6])), (a3, .inl (y 0, 10, .inl (fun _ => 0)))]) (fun _ => []) (fun u => some (.int 0)) (fun y u => []) := by
  refine mkM (by decide) (Nat.le_of_ble_eq_true rfl) ?_
  intro p e s m args below meth c D y A ls hF hr hAe hP hD hS hl
  have hF : FX p e s m args meth c cX4_countAble 5 RX4 "countAble" D y A := hF
  obtain ⟨⟨hx, hb, hml, hown, hts⟩, hev, heh, hA, hlk, hnm⟩ := id hF
  have hK := hev.1
  have hP : va_P D vwCl [(a0, .inr (5, [.ref z0, .ref a1, .ref z1])), (a1, .inr (4, [.int 0, .ref z2, .ref z3, .ref z4])), (a2, .inr (6, [.int 1, .int 1, .int 0, .ref a3, .ref z5, .ref z6])), (a3, .inl (y 0, 10, .inl (fun _ => 0)))] s.heap := hP
  have hD : va_D (fun _ => True) [(a0, .inr (5, [.ref z0, .ref a1, .ref z1])), (a1, .inr (4, [.int 0, .ref z2, .ref z3, .ref z4])), (a2, .inr (6, [.int 1, .int 1, .int 0, .ref a3, .ref z5, .ref z6])), (a3, .inl (y 0, 10, .inl (fun _ => 0)))] := hD
  have hl : lv_has ls 5 [(0, .ref a2), (1, .ref a0), (2, .ref z7)] := hl
  refine lv_iconst (v := 0) hx hb dX4_countAble_0 (by decide) ?_
  refine lv_istore_n (lv' := [(3, .int 0), (0, .ref a2), (1, .ref a0), (2, .ref z7)]) hx hb dX4_countAble_1 rfl hl (by decide) rfl (fun ls hl => ?_)
  refine lv_iconst (v := 0) hx hb dX4_countAble_2 (by decide) ?_
  refine lv_istore (lv' := [(4, .int 0), (3, .int 0), (0, .ref a2), (1, .ref a0), (2, .ref z7)]) hx hb dX4_countAble_3 hl (by decide) rfl (fun ls hl => ?_)
  refine lpF (lo := 0) (N := 10) (by decide) (Wd := fun i => [(a0, .inr (5, [.ref z0, .ref a1, .ref z1])), (a1, .inr (4, [.int 0, .ref z2, .ref z3, .ref z4])), (a2, .inr (6, [.int 1, .int 1, .int 0, .ref a3, .ref z5, .ref z6])), (a3, .inl (y 0, 10, .inl (fun _ => 0)))]) (Lv := fun i => [(4, .int (nI i)), (3, .int 0), (0, .ref a2), (1, .ref a0), (2, .ref z7)]) hP hD hS (lv_sub hl [0, 1, 2, 3, 4] rfl) (fun i hlo_i hi ih_i H locs ls hP hD hS hl => ?_) (fun H locs ls hP hD hS hl => ?_)
  · have hP : va_P D vwCl [(a0, .inr (5, [.ref z0, .ref a1, .ref z1])), (a1, .inr (4, [.int 0, .ref z2, .ref z3, .ref z4])), (a2, .inr (6, [.int 1, .int 1, .int 0, .ref a3, .ref z5, .ref z6])), (a3, .inl (y 0, 10, .inl (fun _ => 0)))] H := hP
    have hD : va_D (fun _ => True) [(a0, .inr (5, [.ref z0, .ref a1, .ref z1])), (a1, .inr (4, [.int 0, .ref z2, .ref z3, .ref z4])), (a2, .inr (6, [.int 1, .int 1, .int 0, .ref a3, .ref z5, .ref z6])), (a3, .inl (y 0, 10, .inl (fun _ => 0)))] := hD
    have hl : lv_has ls 5 [(4, .int (nI i)), (3, .int 0), (0, .ref a2), (1, .ref a0), (2, .ref z7)] := hl
    have hi_1 : (nI i) < (10 : Int32) := nI_lt hi (by decide)
    have hi_0 : ¬ (nI i) < (0 : Int32) := nI_pos (by omega)
    refine lv_iload hx hb dX4_countAble_5 (lv_at hl 0 rfl) ?_
    refine lv_bipush (v := 10) hx hb dX4_countAble_7 (by decide) ?_
    refine lv_icmp_ge (tgt := 32) hx hb dX4_countAble_9 (by decide) (fun c => absurd c (by have e0 : (0 : Int32).toInt = 0 := (by decide); have e1 : (10 : Int32).toInt = 10 := (by decide); have h9 := And.intro hi_1 hi_0; simp only [Int32.lt_iff_toInt_lt, Int32.le_iff_toInt_le, ← Int32.toInt_inj, e0, e1] at h9 ⊢; omega)) (fun _ => ?_)
    refine lv_aload_n hx hb dX4_countAble_12 rfl (lv_at hl 2 rfl) ?_
    refine lv_aload_n hx hb dX4_countAble_13 rfl (lv_at hl 3 rfl) ?_
    refine lv_aload_n hx hb dX4_countAble_14 rfl (lv_at hl 4 rfl) ?_
    refine lv_iload hx hb dX4_countAble_15 (lv_at hl 0 rfl) ?_
    refine cV (l := l) (yM := yX4_canMake) (C := RX4) (As := [.ref a0, .ref z7, .int (nI i)]) (rest := []) (wr := [(a0, .inr (5, [.ref z0, .ref a1, .ref z1])), (a1, .inr (4, [.int 0, .ref z2, .ref z3, .ref z4])), (a2, .inr (6, [.int 1, .int 1, .int 0, .ref a3, .ref z5, .ref z6])), (a3, .inl (y 0, 10, .inl (fun _ => 0)))]) hF (c204_X4_canMake l a0 a1 a2 a3 z0 z1 z2 z3 z4 z5 z6 z7 (nI i)) gv_RX4_67 3 (by decide +kernel) rfl ⟨(Nat.le_of_ble_eq_true rfl), (Nat.le_of_ble_eq_true rfl)⟩ hl.1 rfl (Nat.le_of_ble_eq_true rfl) dX4_countAble_17 ⟨(Nat.le_of_ble_eq_true rfl), (Nat.le_of_ble_eq_true rfl)⟩ hP hD hS (pA hA hS) (fun _ _ => trivial) [0, 1, 2, 3] [] [0, 1, 2, 3] rfl rfl rfl rfl rfl (by decide) 2 (ci := 6) rfl rfl rfl (fun u_1 H locs hP hD hS => ?_)
    have hP : va_P D vwCl [(a0, .inr (5, [.ref z0, .ref a1, .ref z1])), (a1, .inr (4, [.int 0, .ref z2, .ref z3, .ref z4])), (a2, .inr (6, [.int 1, .int 1, .int 0, .ref a3, .ref z5, .ref z6])), (a3, .inl (y 0, 10, .inl (fun _ => 0)))] H := hP
    have hD : va_D (fun _ => True) [(a0, .inr (5, [.ref z0, .ref a1, .ref z1])), (a1, .inr (4, [.int 0, .ref z2, .ref z3, .ref z4])), (a2, .inr (6, [.int 1, .int 1, .int 0, .ref a3, .ref z5, .ref z6])), (a3, .inl (y 0, 10, .inl (fun _ => 0)))] := hD
    refine W.widen (k := 0) (n := 0) (Nat.le_of_ble_eq_true rfl) (Nat.le_of_ble_eq_true rfl) ?_
    refine W.eq (g2 := F0 m 20 ls [.int 0]) rfl ?_
    refine lv_if_eq (tgt := 26) hx hb dX4_countAble_20 (by decide) (fun _ => ?_) (fun c => absurd (by decide) c)
    refine lv_iinc (v := nI (i + 1)) (lv' := [(4, .int (nI (i + 1))), (3, .int 0), (0, .ref a2), (1, .ref a0), (2, .ref z7)]) hx hb dX4_countAble_26 hl (k := 0) rfl (nI_inc i) (by decide) rfl (fun ls hl => ?_)
    refine lv_goto (tgt := 5) hx hb dX4_countAble_29 (by decide) ?_
    exact ih_i _ _ _ hP hD hS (lv_sub hl [0, 1, 2, 3, 4] rfl)
  · have hP : va_P D vwCl [(a0, .inr (5, [.ref z0, .ref a1, .ref z1])), (a1, .inr (4, [.int 0, .ref z2, .ref z3, .ref z4])), (a2, .inr (6, [.int 1, .int 1, .int 0, .ref a3, .ref z5, .ref z6])), (a3, .inl (y 0, 10, .inl (fun _ => 0)))] H := hP
    have hD : va_D (fun _ => True) [(a0, .inr (5, [.ref z0, .ref a1, .ref z1])), (a1, .inr (4, [.int 0, .ref z2, .ref z3, .ref z4])), (a2, .inr (6, [.int 1, .int 1, .int 0, .ref a3, .ref z5, .ref z6])), (a3, .inl (y 0, 10, .inl (fun _ => 0)))] := hD
    have hl : lv_has ls 5 [(4, .int 10), (3, .int 0), (0, .ref a2), (1, .ref a0), (2, .ref z7)] := hl
    refine lv_iload hx hb dX4_countAble_5 (lv_at hl 0 rfl) ?_
    refine lv_bipush (v := 10) hx hb dX4_countAble_7 (by decide) ?_
    refine lv_icmp_ge (tgt := 32) hx hb dX4_countAble_9 (by decide) (fun _ => ?_) (fun c => absurd (by decide) c)
    refine lv_iload_n hx hb dX4_countAble_32 rfl (lv_at hl 1 rfl) ?_
    exact e_i hF hr (Nat.le_of_ble_eq_true rfl) (Nat.le_of_ble_eq_true rfl) hS (qg_end hS (fun _ => 0) rfl [] hP rfl d_nil) dX4_countAble_33

set_option maxHeartbeats 4000000 in
set_option maxRecDepth 100000 in
theorem c202_X10_begin (l : Launch) (a0 : Nat) (a1 : Nat) (a2 : Nat) (a3 : Nat) (a4 : Nat) (a5 : Nat) (a6 : Nat) (a7 : Nat) (z0 : Nat) (z1 : Nat) (z2 : Nat) (z3 : Nat) (z4 : Nat) (z5 : Nat) (z6 : Nat) (z7 : Nat) (z8 : Nat) (z9 : Nat) (z10 : Nat) (z11 : Nat) (z12 : Nat) (z13 : Nat) (z14 : Nat) (z15 : Nat) (z16 : Nat) (z17 : Nat) (z18 : Nat) : CT l (.code yX10_begin cX10_begin 2 (some .int)) yX10_begin { frames := 3, cells := 0, slots := 0, locals := 68 } [.ref a0, .int 104] (fun y => [(a0, .inr (12, [.ref a1, .ref z0, .ref z1, .ref z2, .ref a3, .ref a6, .ref z3, .ref z4, .ref z5, .ref z6, .ref z7, .ref z8, .ref z9, .ref z10, .ref z11])), (a1, .inr (5, [.ref z12, .ref a2, .ref z13])), (a2, .inr (4, [.int 0, .ref z14, .ref z15, .ref z16])), (a3, .inr (7, [.ref a4, .ref a5])), (a4, .inl (y 0, 10, .inl (fun _ => (-1)))), (a5, .inl (y 0, 10, .inl (fun _ => 0))), (a6, .inr (6, [.int 0, .int 0, .int 0, .ref a7, .ref z17, .ref z18])), (a7, .inl (y 0, 10, .inl (fun _ => 0)))]) (fun y => [(a0, .inr (12, [.ref a1, .ref z0, .ref z1, .ref z2, .ref a3, .ref a6, .ref z3, .ref z4, .ref z5, .ref z6, .ref z7, .ref z8, .ref z9, .ref z10, .ref z11])), (a1, .inr (5, [.ref z12, .ref a2, .ref z13])), (a2, .inr (4, [.int 0, .ref z14, .ref z15, .ref z16])), (a3, .inr (7, [.ref a4, .ref a5])), (a4, .inl (y 0, 10, .inl (fun _ => (-1)))), (a5, .inl (y 0, 10, .inl (fun _ => 0))), (a6, .inr (6, [.int 0, .int 0, .int 0, .ref a7, .ref z17, .ref z18])), (a7, .inl (y 0, 10, .inl (fun _ => 0)))]) (fun u => some (.int 0)) (fun y u => [(a0, .inr (12, [.ref a1, .ref z0, .ref z1, .ref z2, .ref a3, .ref a6, .ref z3, .ref z4, .ref z5, .ref z6, .ref z7, .ref z8, .ref z9, .ref z10, .ref z11])), (a1, .inr (5, [.ref z12, .ref a2, .ref z13])), (a2, .inr (4, [.int 0, .ref z14, .ref z15, .ref z16])), (a3, .inr (7, [.ref a4, .ref a5])), (a4, .inl (y 0, 10, .inl (fun _ => (-1)))), (a5, .inl (y 0, 10, .inl (fun _ => 0))), (a6, .inr (6, [.int 1, .int 1, .int 0, .ref a7, .ref z17, .ref z18])), (a7, .inl (y 0, 10, .inl (fun _ => 0)))]) := by
  refine mkM (by decide) (Nat.le_of_ble_eq_true rfl) ?_
  intro p e s m args below meth c D y A ls hF hr hAe hP hD hS hl
  have hF : FX p e s m args meth c cX10_begin 2 RX10 "begin" D y A := hF
  obtain ⟨⟨hx, hb, hml, hown, hts⟩, hev, heh, hA, hlk, hnm⟩ := id hF
  have hK := hev.1
  have hP : va_P D vwCl [(a0, .inr (12, [.ref a1, .ref z0, .ref z1, .ref z2, .ref a3, .ref a6, .ref z3, .ref z4, .ref z5, .ref z6, .ref z7, .ref z8, .ref z9, .ref z10, .ref z11])), (a1, .inr (5, [.ref z12, .ref a2, .ref z13])), (a2, .inr (4, [.int 0, .ref z14, .ref z15, .ref z16])), (a3, .inr (7, [.ref a4, .ref a5])), (a4, .inl (y 0, 10, .inl (fun _ => (-1)))), (a5, .inl (y 0, 10, .inl (fun _ => 0))), (a6, .inr (6, [.int 0, .int 0, .int 0, .ref a7, .ref z17, .ref z18])), (a7, .inl (y 0, 10, .inl (fun _ => 0)))] s.heap := hP
  have hD : va_D A [(a0, .inr (12, [.ref a1, .ref z0, .ref z1, .ref z2, .ref a3, .ref a6, .ref z3, .ref z4, .ref z5, .ref z6, .ref z7, .ref z8, .ref z9, .ref z10, .ref z11])), (a1, .inr (5, [.ref z12, .ref a2, .ref z13])), (a2, .inr (4, [.int 0, .ref z14, .ref z15, .ref z16])), (a3, .inr (7, [.ref a4, .ref a5])), (a4, .inl (y 0, 10, .inl (fun _ => (-1)))), (a5, .inl (y 0, 10, .inl (fun _ => 0))), (a6, .inr (6, [.int 0, .int 0, .int 0, .ref a7, .ref z17, .ref z18])), (a7, .inl (y 0, 10, .inl (fun _ => 0)))] := by rw [← hAe]; exact hD.self
  have hl : lv_has ls 2 [(0, .ref a0), (1, .int 104)] := hl
  refine lv_aload_n hx hb dX10_begin_0 rfl (lv_at hl 0 rfl) ?_
  refine lv_iload_n hx hb dX10_begin_1 rfl (lv_at hl 1 rfl) ?_
  refine cV (l := l) (yM := yX10_needOfferSide) (C := RX10) (As := [.int 104]) (rest := []) (wr := [(a0, .inr (12, [.ref a1, .ref z0, .ref z1, .ref z2, .ref a3, .ref a6, .ref z3, .ref z4, .ref z5, .ref z6, .ref z7, .ref z8, .ref z9, .ref z10, .ref z11])), (a1, .inr (5, [.ref z12, .ref a2, .ref z13])), (a2, .inr (4, [.int 0, .ref z14, .ref z15, .ref z16])), (a3, .inr (7, [.ref a4, .ref a5])), (a4, .inl (y 0, 10, .inl (fun _ => (-1)))), (a5, .inl (y 0, 10, .inl (fun _ => 0))), (a6, .inr (6, [.int 0, .int 0, .int 0, .ref a7, .ref z17, .ref z18])), (a7, .inl (y 0, 10, .inl (fun _ => 0)))]) hF (c202_X10_needOfferSide l a0) gv_RX10_198 1 (by decide +kernel) rfl ⟨(Nat.le_of_ble_eq_true rfl), (Nat.le_of_ble_eq_true rfl)⟩ hl.1 rfl (Nat.le_of_ble_eq_true rfl) dX10_begin_2 ⟨(Nat.le_of_ble_eq_true rfl), (Nat.le_of_ble_eq_true rfl)⟩ hP hD hS (pA hA hS) (fun _ h => h) [] [] [0, 1, 2, 3, 4, 5, 6, 7] rfl rfl rfl rfl rfl (by decide) 0 (ci := 12) rfl rfl rfl (fun u_1 H locs hP hD hS => ?_)
  have hP : va_P D vwCl [(a0, .inr (12, [.ref a1, .ref z0, .ref z1, .ref z2, .ref a3, .ref a6, .ref z3, .ref z4, .ref z5, .ref z6, .ref z7, .ref z8, .ref z9, .ref z10, .ref z11])), (a1, .inr (5, [.ref z12, .ref a2, .ref z13])), (a2, .inr (4, [.int 0, .ref z14, .ref z15, .ref z16])), (a3, .inr (7, [.ref a4, .ref a5])), (a4, .inl (y 0, 10, .inl (fun _ => (-1)))), (a5, .inl (y 0, 10, .inl (fun _ => 0))), (a6, .inr (6, [.int 0, .int 0, .int 0, .ref a7, .ref z17, .ref z18])), (a7, .inl (y 0, 10, .inl (fun _ => 0)))] H := hP
  have hD : va_D A [(a0, .inr (12, [.ref a1, .ref z0, .ref z1, .ref z2, .ref a3, .ref a6, .ref z3, .ref z4, .ref z5, .ref z6, .ref z7, .ref z8, .ref z9, .ref z10, .ref z11])), (a1, .inr (5, [.ref z12, .ref a2, .ref z13])), (a2, .inr (4, [.int 0, .ref z14, .ref z15, .ref z16])), (a3, .inr (7, [.ref a4, .ref a5])), (a4, .inl (y 0, 10, .inl (fun _ => (-1)))), (a5, .inl (y 0, 10, .inl (fun _ => 0))), (a6, .inr (6, [.int 0, .int 0, .int 0, .ref a7, .ref z17, .ref z18])), (a7, .inl (y 0, 10, .inl (fun _ => 0)))] := hD
  refine W.widen (k := 0) (n := 0) (Nat.le_of_ble_eq_true rfl) (Nat.le_of_ble_eq_true rfl) ?_
  refine W.eq (g2 := F0 m 5 ls []) rfl ?_
  refine lv_aload_n hx hb dX10_begin_5 rfl (lv_at hl 0 rfl) ?_
  refine va_get (D := D) (ci := 12) (v := .ref a3) (C := RX10) (T := TX10) (N := 15) hx hb hts inX10 hown hK hP 0 rfl rfl 4 (by decide) (hts _ wd_47) (fun _ h9 => h9) rfl dX10_begin_6 ?_
  refine cV (l := l) (yM := yX5_clear) (C := RX5) (As := []) (rest := []) (wr := [(a0, .inr (12, [.ref a1, .ref z0, .ref z1, .ref z2, .ref a3, .ref a6, .ref z3, .ref z4, .ref z5, .ref z6, .ref z7, .ref z8, .ref z9, .ref z10, .ref z11])), (a1, .inr (5, [.ref z12, .ref a2, .ref z13])), (a2, .inr (4, [.int 0, .ref z14, .ref z15, .ref z16])), (a6, .inr (6, [.int 0, .int 0, .int 0, .ref a7, .ref z17, .ref z18])), (a7, .inl (y 0, 10, .inl (fun _ => 0)))]) hF (c16_X5_clear l a3 a4 a5) gv_RX10_201 0 (by decide +kernel) rfl ⟨(Nat.le_of_ble_eq_true rfl), (Nat.le_of_ble_eq_true rfl)⟩ hl.1 rfl (Nat.le_of_ble_eq_true rfl) dX10_begin_9 ⟨(Nat.le_of_ble_eq_true rfl), (Nat.le_of_ble_eq_true rfl)⟩ hP hD hS (va_free (wc := [(a3, .inr (7, [.ref a4, .ref a5])), (a4, .inl (y 0, 10, .inl (fun _ => (-1)))), (a5, .inl (y 0, 10, .inl (fun _ => 0)))]) hD hS hA [3, 4, 5] rfl) (fun _ h => h) [3, 4, 5] [3, 4, 5] [0, 1, 2, 6, 7] rfl rfl rfl rfl rfl (by decide) 3 (ci := 7) rfl rfl rfl (fun u_2 H locs hP hD hS => ?_)
  have hP : va_P D vwCl [(a0, .inr (12, [.ref a1, .ref z0, .ref z1, .ref z2, .ref a3, .ref a6, .ref z3, .ref z4, .ref z5, .ref z6, .ref z7, .ref z8, .ref z9, .ref z10, .ref z11])), (a1, .inr (5, [.ref z12, .ref a2, .ref z13])), (a2, .inr (4, [.int 0, .ref z14, .ref z15, .ref z16])), (a6, .inr (6, [.int 0, .int 0, .int 0, .ref a7, .ref z17, .ref z18])), (a7, .inl (y 0, 10, .inl (fun _ => 0))), (a3, .inr (7, [.ref a4, .ref a5])), (a4, .inl (y 0, 10, .inl (fun _ => (-1)))), (a5, .inl (y 0, 10, .inl (fun _ => 0)))] H := hP
  have hD : va_D A [(a0, .inr (12, [.ref a1, .ref z0, .ref z1, .ref z2, .ref a3, .ref a6, .ref z3, .ref z4, .ref z5, .ref z6, .ref z7, .ref z8, .ref z9, .ref z10, .ref z11])), (a1, .inr (5, [.ref z12, .ref a2, .ref z13])), (a2, .inr (4, [.int 0, .ref z14, .ref z15, .ref z16])), (a6, .inr (6, [.int 0, .int 0, .int 0, .ref a7, .ref z17, .ref z18])), (a7, .inl (y 0, 10, .inl (fun _ => 0))), (a3, .inr (7, [.ref a4, .ref a5])), (a4, .inl (y 0, 10, .inl (fun _ => (-1)))), (a5, .inl (y 0, 10, .inl (fun _ => 0)))] := hD
  refine W.widen (k := 0) (n := 0) (Nat.le_of_ble_eq_true rfl) (Nat.le_of_ble_eq_true rfl) ?_
  refine W.eq (g2 := F0 m 12 ls []) rfl ?_
  refine lv_aload_n hx hb dX10_begin_12 rfl (lv_at hl 0 rfl) ?_
  refine va_get (D := D) (ci := 12) (v := .ref a6) (C := RX10) (T := TX10) (N := 15) hx hb hts inX10 hown hK hP 0 rfl rfl 5 (by decide) (hts _ wd_57) (fun _ h9 => h9) rfl dX10_begin_13 ?_
  refine lv_iload_n hx hb dX10_begin_16 rfl (lv_at hl 1 rfl) ?_
  refine cV (l := l) (yM := yX4_start) (C := RX4) (As := [.int 104]) (rest := []) (wr := [(a0, .inr (12, [.ref a1, .ref z0, .ref z1, .ref z2, .ref a3, .ref a6, .ref z3, .ref z4, .ref z5, .ref z6, .ref z7, .ref z8, .ref z9, .ref z10, .ref z11])), (a1, .inr (5, [.ref z12, .ref a2, .ref z13])), (a2, .inr (4, [.int 0, .ref z14, .ref z15, .ref z16])), (a3, .inr (7, [.ref a4, .ref a5])), (a4, .inl (y 0, 10, .inl (fun _ => (-1)))), (a5, .inl (y 0, 10, .inl (fun _ => 0)))]) hF (c203_X4_start l a6 a7 z17 z18) gv_RX10_202 1 (by decide +kernel) rfl ⟨(Nat.le_of_ble_eq_true rfl), (Nat.le_of_ble_eq_true rfl)⟩ hl.1 rfl (Nat.le_of_ble_eq_true rfl) dX10_begin_17 ⟨(Nat.le_of_ble_eq_true rfl), (Nat.le_of_ble_eq_true rfl)⟩ hP hD hS (va_free (wc := [(a6, .inr (6, [.int 0, .int 0, .int 0, .ref a7, .ref z17, .ref z18])), (a7, .inl (y 0, 10, .inl (fun _ => 0)))]) hD hS hA [3, 4] rfl) (fun _ h => h) [3, 4] [3, 4] [0, 1, 2, 5, 6, 7] rfl rfl rfl rfl rfl (by decide) 3 (ci := 6) rfl rfl rfl (fun u_3 H locs hP hD hS => ?_)
  have hP : va_P D vwCl [(a0, .inr (12, [.ref a1, .ref z0, .ref z1, .ref z2, .ref a3, .ref a6, .ref z3, .ref z4, .ref z5, .ref z6, .ref z7, .ref z8, .ref z9, .ref z10, .ref z11])), (a1, .inr (5, [.ref z12, .ref a2, .ref z13])), (a2, .inr (4, [.int 0, .ref z14, .ref z15, .ref z16])), (a3, .inr (7, [.ref a4, .ref a5])), (a4, .inl (y 0, 10, .inl (fun _ => (-1)))), (a5, .inl (y 0, 10, .inl (fun _ => 0))), (a6, .inr (6, [.int 1, .int 1, .int 0, .ref a7, .ref z17, .ref z18])), (a7, .inl (y 0, 10, .inl (fun _ => 0)))] H := hP
  have hD : va_D A [(a0, .inr (12, [.ref a1, .ref z0, .ref z1, .ref z2, .ref a3, .ref a6, .ref z3, .ref z4, .ref z5, .ref z6, .ref z7, .ref z8, .ref z9, .ref z10, .ref z11])), (a1, .inr (5, [.ref z12, .ref a2, .ref z13])), (a2, .inr (4, [.int 0, .ref z14, .ref z15, .ref z16])), (a3, .inr (7, [.ref a4, .ref a5])), (a4, .inl (y 0, 10, .inl (fun _ => (-1)))), (a5, .inl (y 0, 10, .inl (fun _ => 0))), (a6, .inr (6, [.int 1, .int 1, .int 0, .ref a7, .ref z17, .ref z18])), (a7, .inl (y 0, 10, .inl (fun _ => 0)))] := hD
  refine W.widen (k := 0) (n := 0) (Nat.le_of_ble_eq_true rfl) (Nat.le_of_ble_eq_true rfl) ?_
  refine W.eq (g2 := F0 m 20 ls []) rfl ?_
  refine lv_aload_n hx hb dX10_begin_20 rfl (lv_at hl 0 rfl) ?_
  refine va_get (D := D) (ci := 12) (v := .ref a6) (C := RX10) (T := TX10) (N := 15) hx hb hts inX10 hown hK hP 0 rfl rfl 5 (by decide) (hts _ wd_57) (fun _ h9 => h9) rfl dX10_begin_21 ?_
  refine lv_aload_n hx hb dX10_begin_24 rfl (lv_at hl 0 rfl) ?_
  refine va_get (D := D) (ci := 12) (v := .ref a1) (C := RX10) (T := TX10) (N := 15) hx hb hts inX10 hown hK hP 0 rfl rfl 0 (by decide) (hts _ wd_24) (fun _ h9 => h9) rfl dX10_begin_25 ?_
  refine lv_aload_n hx hb dX10_begin_28 rfl (lv_at hl 0 rfl) ?_
  refine va_get (D := D) (ci := 12) (v := .ref a3) (C := RX10) (T := TX10) (N := 15) hx hb hts inX10 hown hK hP 0 rfl rfl 4 (by decide) (hts _ wd_47) (fun _ h9 => h9) rfl dX10_begin_29 ?_
  refine cV (l := l) (yM := yX4_countAble) (C := RX4) (As := [.ref a1, .ref a3]) (rest := []) (wr := [(a0, .inr (12, [.ref a1, .ref z0, .ref z1, .ref z2, .ref a3, .ref a6, .ref z3, .ref z4, .ref z5, .ref z6, .ref z7, .ref z8, .ref z9, .ref z10, .ref z11])), (a1, .inr (5, [.ref z12, .ref a2, .ref z13])), (a2, .inr (4, [.int 0, .ref z14, .ref z15, .ref z16])), (a3, .inr (7, [.ref a4, .ref a5])), (a4, .inl (y 0, 10, .inl (fun _ => (-1)))), (a5, .inl (y 0, 10, .inl (fun _ => 0))), (a6, .inr (6, [.int 1, .int 1, .int 0, .ref a7, .ref z17, .ref z18])), (a7, .inl (y 0, 10, .inl (fun _ => 0)))]) hF (c204_X4_countAble l a1 a2 a6 a7 z12 z13 z14 z15 z16 z17 z18 a3) gv_RX10_205 2 (by decide +kernel) rfl ⟨(Nat.le_of_ble_eq_true rfl), (Nat.le_of_ble_eq_true rfl)⟩ hl.1 rfl (Nat.le_of_ble_eq_true rfl) dX10_begin_32 ⟨(Nat.le_of_ble_eq_true rfl), (Nat.le_of_ble_eq_true rfl)⟩ hP hD hS (pA hA hS) (fun _ h => h) [1, 2, 6, 7] [] [0, 1, 2, 3, 4, 5, 6, 7] rfl rfl rfl rfl rfl (by decide) 6 (ci := 6) rfl rfl rfl (fun u_4 H locs hP hD hS => ?_)
  have hP : va_P D vwCl [(a0, .inr (12, [.ref a1, .ref z0, .ref z1, .ref z2, .ref a3, .ref a6, .ref z3, .ref z4, .ref z5, .ref z6, .ref z7, .ref z8, .ref z9, .ref z10, .ref z11])), (a1, .inr (5, [.ref z12, .ref a2, .ref z13])), (a2, .inr (4, [.int 0, .ref z14, .ref z15, .ref z16])), (a3, .inr (7, [.ref a4, .ref a5])), (a4, .inl (y 0, 10, .inl (fun _ => (-1)))), (a5, .inl (y 0, 10, .inl (fun _ => 0))), (a6, .inr (6, [.int 1, .int 1, .int 0, .ref a7, .ref z17, .ref z18])), (a7, .inl (y 0, 10, .inl (fun _ => 0)))] H := hP
  have hD : va_D A [(a0, .inr (12, [.ref a1, .ref z0, .ref z1, .ref z2, .ref a3, .ref a6, .ref z3, .ref z4, .ref z5, .ref z6, .ref z7, .ref z8, .ref z9, .ref z10, .ref z11])), (a1, .inr (5, [.ref z12, .ref a2, .ref z13])), (a2, .inr (4, [.int 0, .ref z14, .ref z15, .ref z16])), (a3, .inr (7, [.ref a4, .ref a5])), (a4, .inl (y 0, 10, .inl (fun _ => (-1)))), (a5, .inl (y 0, 10, .inl (fun _ => 0))), (a6, .inr (6, [.int 1, .int 1, .int 0, .ref a7, .ref z17, .ref z18])), (a7, .inl (y 0, 10, .inl (fun _ => 0)))] := hD
  refine W.widen (k := 0) (n := 0) (Nat.le_of_ble_eq_true rfl) (Nat.le_of_ble_eq_true rfl) ?_
  refine W.eq (g2 := F0 m 35 ls [.int 0]) rfl ?_
  exact e_i hF hr (Nat.le_of_ble_eq_true rfl) (Nat.le_of_ble_eq_true rfl) hS (qg_end hS (fun _ => 0) rfl [0, 1, 2, 3, 4, 5, 6, 7] hP rfl (hD.sub [0, 1, 2, 3, 4, 5, 6, 7] rfl rfl)) dX10_begin_35

set_option maxHeartbeats 4000000 in
set_option maxRecDepth 100000 in
theorem c202_L_begin (l : Launch) (a0 : Nat) (a1 : Nat) (a2 : Nat) (a3 : Nat) (a4 : Nat) (a5 : Nat) (a6 : Nat) (a7 : Nat) (a8 : Nat) (z0 : Nat) (z1 : Nat) (z2 : Nat) (z3 : Nat) (z4 : Nat) (z5 : Nat) (z6 : Nat) (z7 : Nat) (z8 : Nat) (z9 : Nat) (z10 : Nat) (z11 : Nat) (z12 : Nat) (z13 : Nat) (z14 : Nat) (z15 : Nat) (z16 : Nat) (z17 : Nat) (z18 : Nat) : CT l (.codeWith yL_begin cL_begin 4 (some .int) [(0, 9, 12, 13)]) yL_begin { frames := 4, cells := 0, slots := 0, locals := 89 } [.ref a0, .int 104, .ref a8] (fun y => [(a0, .inr (12, [.ref a1, .ref z0, .ref z1, .ref z2, .ref a3, .ref a6, .ref z3, .ref z4, .ref z5, .ref z6, .ref z7, .ref z8, .ref z9, .ref z10, .ref z11])), (a1, .inr (5, [.ref z12, .ref a2, .ref z13])), (a2, .inr (4, [.int 0, .ref z14, .ref z15, .ref z16])), (a3, .inr (7, [.ref a4, .ref a5])), (a4, .inl (y 0, 10, .inl (fun _ => (-1)))), (a5, .inl (y 0, 10, .inl (fun _ => 0))), (a6, .inr (6, [.int 0, .int 0, .int 0, .ref a7, .ref z17, .ref z18])), (a7, .inl (y 0, 10, .inl (fun _ => 0))), (a8, .inl (y 2, 1, .inr (.inl (fun _ => 0))))]) (fun y => [(a0, .inr (12, [.ref a1, .ref z0, .ref z1, .ref z2, .ref a3, .ref a6, .ref z3, .ref z4, .ref z5, .ref z6, .ref z7, .ref z8, .ref z9, .ref z10, .ref z11])), (a1, .inr (5, [.ref z12, .ref a2, .ref z13])), (a2, .inr (4, [.int 0, .ref z14, .ref z15, .ref z16])), (a3, .inr (7, [.ref a4, .ref a5])), (a4, .inl (y 0, 10, .inl (fun _ => (-1)))), (a5, .inl (y 0, 10, .inl (fun _ => 0))), (a6, .inr (6, [.int 0, .int 0, .int 0, .ref a7, .ref z17, .ref z18])), (a7, .inl (y 0, 10, .inl (fun _ => 0))), (a8, .inl (y 2, 1, .inr (.inl (fun _ => 0))))]) (fun u => some (.int 0)) (fun y u => [(a0, .inr (12, [.ref a1, .ref z0, .ref z1, .ref z2, .ref a3, .ref a6, .ref z3, .ref z4, .ref z5, .ref z6, .ref z7, .ref z8, .ref z9, .ref z10, .ref z11])), (a1, .inr (5, [.ref z12, .ref a2, .ref z13])), (a2, .inr (4, [.int 0, .ref z14, .ref z15, .ref z16])), (a3, .inr (7, [.ref a4, .ref a5])), (a4, .inl (y 0, 10, .inl (fun _ => (-1)))), (a5, .inl (y 0, 10, .inl (fun _ => 0))), (a6, .inr (6, [.int 1, .int 1, .int 0, .ref a7, .ref z17, .ref z18])), (a7, .inl (y 0, 10, .inl (fun _ => 0))), (a8, .inl (y 2, 1, .inr (.inl (fun _ => 0))))]) := by
  refine mkH (by decide) (Nat.le_of_ble_eq_true rfl) ?_
  intro p e s m args below meth c D y A ls hF htab hr hAe hP hD hS hl
  have hF : FX p e s m args meth c cL_begin 4 RL "begin" D y A := hF
  obtain ⟨⟨hx, hb, hml, hown, hts⟩, hev, heh, hA, hlk, hnm⟩ := id hF
  have hK := hev.1
  have hP : va_P D vwCl [(a0, .inr (12, [.ref a1, .ref z0, .ref z1, .ref z2, .ref a3, .ref a6, .ref z3, .ref z4, .ref z5, .ref z6, .ref z7, .ref z8, .ref z9, .ref z10, .ref z11])), (a1, .inr (5, [.ref z12, .ref a2, .ref z13])), (a2, .inr (4, [.int 0, .ref z14, .ref z15, .ref z16])), (a3, .inr (7, [.ref a4, .ref a5])), (a4, .inl (y 0, 10, .inl (fun _ => (-1)))), (a5, .inl (y 0, 10, .inl (fun _ => 0))), (a6, .inr (6, [.int 0, .int 0, .int 0, .ref a7, .ref z17, .ref z18])), (a7, .inl (y 0, 10, .inl (fun _ => 0))), (a8, .inl (y 2, 1, .inr (.inl (fun _ => 0))))] s.heap := hP
  have hD : va_D A [(a0, .inr (12, [.ref a1, .ref z0, .ref z1, .ref z2, .ref a3, .ref a6, .ref z3, .ref z4, .ref z5, .ref z6, .ref z7, .ref z8, .ref z9, .ref z10, .ref z11])), (a1, .inr (5, [.ref z12, .ref a2, .ref z13])), (a2, .inr (4, [.int 0, .ref z14, .ref z15, .ref z16])), (a3, .inr (7, [.ref a4, .ref a5])), (a4, .inl (y 0, 10, .inl (fun _ => (-1)))), (a5, .inl (y 0, 10, .inl (fun _ => 0))), (a6, .inr (6, [.int 0, .int 0, .int 0, .ref a7, .ref z17, .ref z18])), (a7, .inl (y 0, 10, .inl (fun _ => 0))), (a8, .inl (y 2, 1, .inr (.inl (fun _ => 0))))] := by rw [← hAe]; exact hD.self
  have hl : lv_has ls 4 [(0, .ref a0), (1, .int 104), (2, .ref a8)] := hl
  refine lv_aload_n hx hb dL_begin_0 rfl (lv_at hl 2 rfl) ?_
  refine lv_iconst (v := 0) hx hb dL_begin_1 (by decide) ?_
  refine lv_aload_n hx hb dL_begin_2 rfl (lv_at hl 0 rfl) ?_
  refine lv_iload_n hx hb dL_begin_3 rfl (lv_at hl 1 rfl) ?_
  refine cV (l := l) (yM := yX10_begin) (C := RX10) (As := [.int 104]) (rest := [.int 0, .ref a8]) (wr := [(a8, .inl (y 2, 1, .inr (.inl (fun _ => 0))))]) hF (c202_X10_begin l a0 a1 a2 a3 a4 a5 a6 a7 z0 z1 z2 z3 z4 z5 z6 z7 z8 z9 z10 z11 z12 z13 z14 z15 z16 z17 z18) gv_RL_55 1 (by decide +kernel) rfl ⟨(Nat.le_of_ble_eq_true rfl), (Nat.le_of_ble_eq_true rfl)⟩ hl.1 rfl (Nat.le_of_ble_eq_true rfl) dL_begin_4 ⟨(Nat.le_of_ble_eq_true rfl), (Nat.le_of_ble_eq_true rfl)⟩ hP hD hS (va_free (wc := [(a0, .inr (12, [.ref a1, .ref z0, .ref z1, .ref z2, .ref a3, .ref a6, .ref z3, .ref z4, .ref z5, .ref z6, .ref z7, .ref z8, .ref z9, .ref z10, .ref z11])), (a1, .inr (5, [.ref z12, .ref a2, .ref z13])), (a2, .inr (4, [.int 0, .ref z14, .ref z15, .ref z16])), (a3, .inr (7, [.ref a4, .ref a5])), (a4, .inl (y 0, 10, .inl (fun _ => (-1)))), (a5, .inl (y 0, 10, .inl (fun _ => 0))), (a6, .inr (6, [.int 0, .int 0, .int 0, .ref a7, .ref z17, .ref z18])), (a7, .inl (y 0, 10, .inl (fun _ => 0)))]) hD hS hA [0, 1, 2, 3, 4, 5, 6, 7] rfl) (fun _ h => h) [0, 1, 2, 3, 4, 5, 6, 7] [0, 1, 2, 3, 4, 5, 6, 7] [8] rfl rfl rfl rfl rfl (by decide) 0 (ci := 12) rfl rfl rfl (fun u_1 H locs hP hD hS => ?_)
  have hP : va_P D vwCl [(a8, .inl (y 2, 1, .inr (.inl (fun _ => 0)))), (a0, .inr (12, [.ref a1, .ref z0, .ref z1, .ref z2, .ref a3, .ref a6, .ref z3, .ref z4, .ref z5, .ref z6, .ref z7, .ref z8, .ref z9, .ref z10, .ref z11])), (a1, .inr (5, [.ref z12, .ref a2, .ref z13])), (a2, .inr (4, [.int 0, .ref z14, .ref z15, .ref z16])), (a3, .inr (7, [.ref a4, .ref a5])), (a4, .inl (y 0, 10, .inl (fun _ => (-1)))), (a5, .inl (y 0, 10, .inl (fun _ => 0))), (a6, .inr (6, [.int 1, .int 1, .int 0, .ref a7, .ref z17, .ref z18])), (a7, .inl (y 0, 10, .inl (fun _ => 0)))] H := hP
  have hD : va_D A [(a8, .inl (y 2, 1, .inr (.inl (fun _ => 0)))), (a0, .inr (12, [.ref a1, .ref z0, .ref z1, .ref z2, .ref a3, .ref a6, .ref z3, .ref z4, .ref z5, .ref z6, .ref z7, .ref z8, .ref z9, .ref z10, .ref z11])), (a1, .inr (5, [.ref z12, .ref a2, .ref z13])), (a2, .inr (4, [.int 0, .ref z14, .ref z15, .ref z16])), (a3, .inr (7, [.ref a4, .ref a5])), (a4, .inl (y 0, 10, .inl (fun _ => (-1)))), (a5, .inl (y 0, 10, .inl (fun _ => 0))), (a6, .inr (6, [.int 1, .int 1, .int 0, .ref a7, .ref z17, .ref z18])), (a7, .inl (y 0, 10, .inl (fun _ => 0)))] := hD
  refine W.widen (k := 0) (n := 0) (Nat.le_of_ble_eq_true rfl) (Nat.le_of_ble_eq_true rfl) ?_
  refine W.eq (g2 := F0 m 7 ls [.int 0, .int 0, .ref a8]) rfl ?_
  refine lv_i2l (v := 0) hx hb dL_begin_7 (by decide) ?_
  refine va_last hx hb hK hP hD hS 0 2 rfl rfl (vp_in_nI (n := 0) (by decide) (by decide)) dL_begin_8 (fun H locs hP hD hS => ?_)
  obtain ⟨hP, hD⟩ := same_l (g := (fun _ => 0)) hP hD 0 rfl (fun j _ => up_l rfl)
  have hP : va_P D vwCl [(a8, .inl (y 2, 1, .inr (.inl (fun _ => 0)))), (a0, .inr (12, [.ref a1, .ref z0, .ref z1, .ref z2, .ref a3, .ref a6, .ref z3, .ref z4, .ref z5, .ref z6, .ref z7, .ref z8, .ref z9, .ref z10, .ref z11])), (a1, .inr (5, [.ref z12, .ref a2, .ref z13])), (a2, .inr (4, [.int 0, .ref z14, .ref z15, .ref z16])), (a3, .inr (7, [.ref a4, .ref a5])), (a4, .inl (y 0, 10, .inl (fun _ => (-1)))), (a5, .inl (y 0, 10, .inl (fun _ => 0))), (a6, .inr (6, [.int 1, .int 1, .int 0, .ref a7, .ref z17, .ref z18])), (a7, .inl (y 0, 10, .inl (fun _ => 0)))] H := hP
  have hD : va_D A [(a8, .inl (y 2, 1, .inr (.inl (fun _ => 0)))), (a0, .inr (12, [.ref a1, .ref z0, .ref z1, .ref z2, .ref a3, .ref a6, .ref z3, .ref z4, .ref z5, .ref z6, .ref z7, .ref z8, .ref z9, .ref z10, .ref z11])), (a1, .inr (5, [.ref z12, .ref a2, .ref z13])), (a2, .inr (4, [.int 0, .ref z14, .ref z15, .ref z16])), (a3, .inr (7, [.ref a4, .ref a5])), (a4, .inl (y 0, 10, .inl (fun _ => (-1)))), (a5, .inl (y 0, 10, .inl (fun _ => 0))), (a6, .inr (6, [.int 1, .int 1, .int 0, .ref a7, .ref z17, .ref z18])), (a7, .inl (y 0, 10, .inl (fun _ => 0)))] := hD
  refine lv_goto (tgt := 15) hx hb dL_begin_9 (by decide) ?_
  refine lv_iconst (v := 0) hx hb dL_begin_15 (by decide) ?_
  exact e_i hF hr (Nat.le_of_ble_eq_true rfl) (Nat.le_of_ble_eq_true rfl) hS (qg_end hS (fun _ => 0) rfl [1, 2, 3, 4, 5, 6, 7, 8, 0] hP rfl (hD.sub [1, 2, 3, 4, 5, 6, 7, 8, 0] rfl rfl)) dL_begin_16

set_option maxHeartbeats 4000000 in
set_option maxRecDepth 100000 in
theorem c209_X11_in (l : Launch) : CT l (.code yX11_in cX11_in 3 (some .boolean)) yX11_in { frames := 0, cells := 0, slots := 0, locals := 0 } [.int 1, .int 0, .int 1] (fun y => []) (fun _ => []) (fun u => some (.int 1)) (fun y u => []) := by
  refine mkM (by decide) (Nat.le_of_ble_eq_true rfl) ?_
  intro p e s m args below meth c D y A ls hF hr hAe hP hD hS hl
  have hF : FX p e s m args meth c cX11_in 3 RX11 "in" D y A := hF
  obtain ⟨⟨hx, hb, hml, hown, hts⟩, hev, heh, hA, hlk, hnm⟩ := id hF
  have hK := hev.1
  have hP : va_P D vwCl [] s.heap := hP
  have hD : va_D A [] := by rw [← hAe]; exact hD.self
  have hl : lv_has ls 3 [(0, .int 1), (1, .int 0), (2, .int 1)] := hl
  refine lv_iload_n hx hb dX11_in_0 rfl (lv_at hl 0 rfl) ?_
  refine lv_iload_n hx hb dX11_in_1 rfl (lv_at hl 1 rfl) ?_
  refine lv_icmp_lt (tgt := 14) hx hb dX11_in_2 (by decide) (fun c => absurd c (by decide)) (fun _ => ?_)
  refine lv_iload_n hx hb dX11_in_5 rfl (lv_at hl 0 rfl) ?_
  refine lv_iload_n hx hb dX11_in_6 rfl (lv_at hl 2 rfl) ?_
  refine lv_icmp_gt (tgt := 14) hx hb dX11_in_7 (by decide) (fun c => absurd c (by decide)) (fun _ => ?_)
  refine lv_iconst (v := 1) hx hb dX11_in_10 (by decide) ?_
  refine lv_goto (tgt := 15) hx hb dX11_in_11 (by decide) ?_
  exact e_z hF hr (by decide) (Nat.le_of_ble_eq_true rfl) (Nat.le_of_ble_eq_true rfl) hS (qg_end hS (fun _ => 0) rfl [] hP rfl d_nil) dX11_in_15

set_option maxHeartbeats 4000000 in
set_option maxRecDepth 100000 in
theorem c210_X11_begins (l : Launch) (a0 : Nat) (z0 : Nat) (z1 : Nat) (z2 : Nat) (z3 : Nat) (z4 : Nat) (z5 : Nat) (z6 : Nat) (z7 : Nat) (z8 : Nat) (z9 : Nat) (z10 : Nat) (z11 : Nat) (z12 : Nat) (z13 : Nat) : CT l (.code yX11_begins cX11_begins 2 none) yX11_begins { frames := 1, cells := 2, slots := 20, locals := 21 } [.ref a0, .int 104] (fun y => [(a0, .inr (13, [.ref z0, .ref z1, .ref z2, .ref z3, .ref z4, .ref z5, .int 45, .ref z6, .ref z7, .ref z8, .int 0, .ref z9, .ref z10, .int 0, .int 0, .int 0, .int 0, .ref z11, .int 0, .null, .ref z12, .ref z13]))]) (fun y => [(a0, .inr (13, [.ref z0, .ref z1, .ref z2, .ref z3, .ref z4, .ref z5, .int 45, .ref z6, .ref z7, .ref z8, .int 0, .ref z9, .ref z10, .int 0, .int 0, .int 0, .int 0, .ref z11, .int 0, .null, .ref z12, .ref z13]))]) (fun u => none) (fun y u => [(a0, .inr (13, [.ref z0, .ref z1, .ref z2, .ref z3, .ref z4, .ref (u 0), .int 104, .ref (u 1), .ref z7, .ref z8, .int 0, .ref z9, .ref z10, .int 0, .int 0, .int 0, .int 0, .ref z11, .int 0, .null, .ref z12, .ref z13])), ((u 0), .inl (y 0, 10, .inl (fun _ => (-1)))), ((u 1), .inl (y 0, 10, .inl (fun _ => 0)))]) := by
  refine mkM (by decide) (Nat.le_of_ble_eq_true rfl) ?_
  intro p e s m args below meth c D y A ls hF hr hAe hP hD hS hl
  have hF : FX p e s m args meth c cX11_begins 2 RX11 "begins" D y A := hF
  obtain ⟨⟨hx, hb, hml, hown, hts⟩, hev, heh, hA, hlk, hnm⟩ := id hF
  have hK := hev.1
  have hP : va_P D vwCl [(a0, .inr (13, [.ref z0, .ref z1, .ref z2, .ref z3, .ref z4, .ref z5, .int 45, .ref z6, .ref z7, .ref z8, .int 0, .ref z9, .ref z10, .int 0, .int 0, .int 0, .int 0, .ref z11, .int 0, .null, .ref z12, .ref z13]))] s.heap := hP
  have hD : va_D A [(a0, .inr (13, [.ref z0, .ref z1, .ref z2, .ref z3, .ref z4, .ref z5, .int 45, .ref z6, .ref z7, .ref z8, .int 0, .ref z9, .ref z10, .int 0, .int 0, .int 0, .int 0, .ref z11, .int 0, .null, .ref z12, .ref z13]))] := by rw [← hAe]; exact hD.self
  have hl : lv_has ls 2 [(0, .ref a0), (1, .int 104)] := hl
  refine lv_aload_n hx hb dX11_begins_0 rfl (lv_at hl 0 rfl) ?_
  refine cS (l := l) (yM := yX11_alone) (As := []) (rest := [.ref a0]) (wr := [(a0, .inr (13, [.ref z0, .ref z1, .ref z2, .ref z3, .ref z4, .ref z5, .int 45, .ref z6, .ref z7, .ref z8, .int 0, .ref z9, .ref z10, .int 0, .int 0, .int 0, .int 0, .ref z11, .int 0, .null, .ref z12, .ref z13]))]) hF (c12_X11_alone l) gs_RX11_27 0 (by decide +kernel) rfl ⟨(Nat.le_of_ble_eq_true rfl), (Nat.le_of_ble_eq_true rfl)⟩ hl.1 rfl (Nat.le_of_ble_eq_true rfl) dX11_begins_1 ⟨(Nat.le_of_ble_eq_true rfl), (Nat.le_of_ble_eq_true rfl)⟩ hP hD hS (pA hA hS) (fun _ h => h) [] [] [0] rfl rfl rfl rfl rfl (by decide) (fun u_1 H locs hP hD hS => ?_)
  have hP : va_P D vwCl [(a0, .inr (13, [.ref z0, .ref z1, .ref z2, .ref z3, .ref z4, .ref z5, .int 45, .ref z6, .ref z7, .ref z8, .int 0, .ref z9, .ref z10, .int 0, .int 0, .int 0, .int 0, .ref z11, .int 0, .null, .ref z12, .ref z13])), ((u_1 0), .inl (y 0, 10, .inl (fun _ => (-1))))] H := hP
  have hD : va_D A [(a0, .inr (13, [.ref z0, .ref z1, .ref z2, .ref z3, .ref z4, .ref z5, .int 45, .ref z6, .ref z7, .ref z8, .int 0, .ref z9, .ref z10, .int 0, .int 0, .int 0, .int 0, .ref z11, .int 0, .null, .ref z12, .ref z13])), ((u_1 0), .inl (y 0, 10, .inl (fun _ => (-1))))] := hD
  refine W.widen (k := 1) (n := 10) (Nat.le_of_ble_eq_true rfl) (Nat.le_of_ble_eq_true rfl) ?_
  refine W.eq (g2 := F0 m 4 ls [.ref (u_1 0), .ref a0]) rfl ?_
  refine va_put (D := D) (ci := 13) (v := .ref (u_1 0)) (ty := .array .int) (C := RX11) (T := TX11) (N := 22) hx hb hts inX11 tyX11 tyX11_ok nmX11 hown hK hP hD hS 0 rfl rfl 5 (by decide) (hts _ wd_125) (fun _ h9 => h9) rfl (by decide +kernel) rfl rfl (Nat.le_of_ble_eq_true rfl) dX11_begins_4 (fun H locs hP hD hS => ?_)
  have hP : va_P D vwCl [(a0, .inr (13, [.ref z0, .ref z1, .ref z2, .ref z3, .ref z4, .ref (u_1 0), .int 45, .ref z6, .ref z7, .ref z8, .int 0, .ref z9, .ref z10, .int 0, .int 0, .int 0, .int 0, .ref z11, .int 0, .null, .ref z12, .ref z13])), ((u_1 0), .inl (y 0, 10, .inl (fun _ => (-1))))] H := hP
  have hD : va_D A [(a0, .inr (13, [.ref z0, .ref z1, .ref z2, .ref z3, .ref z4, .ref (u_1 0), .int 45, .ref z6, .ref z7, .ref z8, .int 0, .ref z9, .ref z10, .int 0, .int 0, .int 0, .int 0, .ref z11, .int 0, .null, .ref z12, .ref z13])), ((u_1 0), .inl (y 0, 10, .inl (fun _ => (-1))))] := hD
  refine lv_aload_n hx hb dX11_begins_7 rfl (lv_at hl 0 rfl) ?_
  refine lv_bipush (v := 10) hx hb dX11_begins_8 (by decide) ?_
  refine na_int (N := 10) hF (hts _ wd_12) hP hD hS (by decide) (by decide) (by decide) (Nat.le_of_ble_eq_true rfl) (Nat.le_of_ble_eq_true rfl) dX11_begins_10 (fun q_2 H hP hD hS => ?_)
  have hP : va_P D vwCl [(a0, .inr (13, [.ref z0, .ref z1, .ref z2, .ref z3, .ref z4, .ref (u_1 0), .int 45, .ref z6, .ref z7, .ref z8, .int 0, .ref z9, .ref z10, .int 0, .int 0, .int 0, .int 0, .ref z11, .int 0, .null, .ref z12, .ref z13])), ((u_1 0), .inl (y 0, 10, .inl (fun _ => (-1)))), (q_2, .inl (y 0, 10, .inl (fun _ => 0)))] H := hP
  have hD : va_D A [(a0, .inr (13, [.ref z0, .ref z1, .ref z2, .ref z3, .ref z4, .ref (u_1 0), .int 45, .ref z6, .ref z7, .ref z8, .int 0, .ref z9, .ref z10, .int 0, .int 0, .int 0, .int 0, .ref z11, .int 0, .null, .ref z12, .ref z13])), ((u_1 0), .inl (y 0, 10, .inl (fun _ => (-1)))), (q_2, .inl (y 0, 10, .inl (fun _ => 0)))] := hD
  refine W.widen (k := 2) (n := 20) (Nat.le_of_ble_eq_true rfl) (Nat.le_of_ble_eq_true rfl) ?_
  refine va_put (D := D) (ci := 13) (v := .ref q_2) (ty := .array .int) (C := RX11) (T := TX11) (N := 22) hx hb hts inX11 tyX11 tyX11_ok nmX11 hown hK hP hD hS 0 rfl rfl 7 (by decide) (hts _ wd_127) (fun _ h9 => h9) rfl (by decide +kernel) rfl rfl (Nat.le_of_ble_eq_true rfl) dX11_begins_12 (fun H locs hP hD hS => ?_)
  have hP : va_P D vwCl [(a0, .inr (13, [.ref z0, .ref z1, .ref z2, .ref z3, .ref z4, .ref (u_1 0), .int 45, .ref q_2, .ref z7, .ref z8, .int 0, .ref z9, .ref z10, .int 0, .int 0, .int 0, .int 0, .ref z11, .int 0, .null, .ref z12, .ref z13])), ((u_1 0), .inl (y 0, 10, .inl (fun _ => (-1)))), (q_2, .inl (y 0, 10, .inl (fun _ => 0)))] H := hP
  have hD : va_D A [(a0, .inr (13, [.ref z0, .ref z1, .ref z2, .ref z3, .ref z4, .ref (u_1 0), .int 45, .ref q_2, .ref z7, .ref z8, .int 0, .ref z9, .ref z10, .int 0, .int 0, .int 0, .int 0, .ref z11, .int 0, .null, .ref z12, .ref z13])), ((u_1 0), .inl (y 0, 10, .inl (fun _ => (-1)))), (q_2, .inl (y 0, 10, .inl (fun _ => 0)))] := hD
  refine lv_aload_n hx hb dX11_begins_15 rfl (lv_at hl 0 rfl) ?_
  refine lv_iconst (v := 0) hx hb dX11_begins_16 (by decide) ?_
  refine va_put (D := D) (ci := 13) (v := .int 0) (ty := .int) (C := RX11) (T := TX11) (N := 22) hx hb hts inX11 tyX11 tyX11_ok nmX11 hown hK hP hD hS 0 rfl rfl 10 (by decide) (hts _ wd_427) (fun _ h9 => h9) rfl (by decide +kernel) rfl rfl (Nat.le_of_ble_eq_true rfl) dX11_begins_17 (fun H locs hP hD hS => ?_)
  have hP : va_P D vwCl [(a0, .inr (13, [.ref z0, .ref z1, .ref z2, .ref z3, .ref z4, .ref (u_1 0), .int 45, .ref q_2, .ref z7, .ref z8, .int 0, .ref z9, .ref z10, .int 0, .int 0, .int 0, .int 0, .ref z11, .int 0, .null, .ref z12, .ref z13])), ((u_1 0), .inl (y 0, 10, .inl (fun _ => (-1)))), (q_2, .inl (y 0, 10, .inl (fun _ => 0)))] H := hP
  have hD : va_D A [(a0, .inr (13, [.ref z0, .ref z1, .ref z2, .ref z3, .ref z4, .ref (u_1 0), .int 45, .ref q_2, .ref z7, .ref z8, .int 0, .ref z9, .ref z10, .int 0, .int 0, .int 0, .int 0, .ref z11, .int 0, .null, .ref z12, .ref z13])), ((u_1 0), .inl (y 0, 10, .inl (fun _ => (-1)))), (q_2, .inl (y 0, 10, .inl (fun _ => 0)))] := hD
  refine lv_aload_n hx hb dX11_begins_20 rfl (lv_at hl 0 rfl) ?_
  refine lv_iload_n hx hb dX11_begins_21 rfl (lv_at hl 1 rfl) ?_
  refine va_put (D := D) (ci := 13) (v := .int 104) (ty := .char) (C := RX11) (T := TX11) (N := 22) hx hb hts inX11 tyX11 tyX11_ok nmX11 hown hK hP hD hS 0 rfl rfl 6 (by decide) (hts _ wd_126) (fun _ h9 => h9) rfl (by decide +kernel) (by decide) (by decide) (Nat.le_of_ble_eq_true rfl) dX11_begins_22 (fun H locs hP hD hS => ?_)
  have hP : va_P D vwCl [(a0, .inr (13, [.ref z0, .ref z1, .ref z2, .ref z3, .ref z4, .ref (u_1 0), .int 104, .ref q_2, .ref z7, .ref z8, .int 0, .ref z9, .ref z10, .int 0, .int 0, .int 0, .int 0, .ref z11, .int 0, .null, .ref z12, .ref z13])), ((u_1 0), .inl (y 0, 10, .inl (fun _ => (-1)))), (q_2, .inl (y 0, 10, .inl (fun _ => 0)))] H := hP
  have hD : va_D A [(a0, .inr (13, [.ref z0, .ref z1, .ref z2, .ref z3, .ref z4, .ref (u_1 0), .int 104, .ref q_2, .ref z7, .ref z8, .int 0, .ref z9, .ref z10, .int 0, .int 0, .int 0, .int 0, .ref z11, .int 0, .null, .ref z12, .ref z13])), ((u_1 0), .inl (y 0, 10, .inl (fun _ => (-1)))), (q_2, .inl (y 0, 10, .inl (fun _ => 0)))] := hD
  exact e_v hF hr (Nat.le_of_ble_eq_true rfl) (Nat.le_of_ble_eq_true rfl) hS (qg_end hS (adl [(u_1 0), q_2]) rfl [0, 1, 2] hP rfl (hD.sub [0, 1, 2] rfl rfl)) dX11_begins_25

set_option maxHeartbeats 4000000 in
set_option maxRecDepth 100000 in
theorem c211_X11_openNow (l : Launch) (a0 : Nat) (a1 : Nat) (z0 : Nat) (z1 : Nat) (z2 : Nat) (z3 : Nat) (z4 : Nat) (z5 : Nat) (z6 : Nat) (z7 : Nat) (z8 : Nat) (z9 : Nat) (z10 : Nat) (z11 : Nat) (z12 : Nat) : CT l (.code yX11_openNow cX11_openNow 4 (some .int)) yX11_openNow { frames := 0, cells := 0, slots := 0, locals := 0 } [.ref a0] (fun y => [(a0, .inr (13, [.ref a1, .ref z0, .ref z1, .ref z2, .ref z3, .ref z4, .int 104, .ref z5, .ref z6, .ref z7, .int 0, .ref z8, .ref z9, .int 0, .int 0, .int 0, .int 0, .ref z10, .int 0, .null, .ref z11, .ref z12])), (a1, .inl (y 0, 3, .inl (fun _ => 0)))]) (fun _ => []) (fun u => some (.int 0)) (fun y u => []) := by
  refine mkM (by decide) (Nat.le_of_ble_eq_true rfl) ?_
  intro p e s m args below meth c D y A ls hF hr hAe hP hD hS hl
  have hF : FX p e s m args meth c cX11_openNow 4 RX11 "openNow" D y A := hF
  obtain ⟨⟨hx, hb, hml, hown, hts⟩, hev, heh, hA, hlk, hnm⟩ := id hF
  have hK := hev.1
  have hP : va_P D vwCl [(a0, .inr (13, [.ref a1, .ref z0, .ref z1, .ref z2, .ref z3, .ref z4, .int 104, .ref z5, .ref z6, .ref z7, .int 0, .ref z8, .ref z9, .int 0, .int 0, .int 0, .int 0, .ref z10, .int 0, .null, .ref z11, .ref z12])), (a1, .inl (y 0, 3, .inl (fun _ => 0)))] s.heap := hP
  have hD : va_D (fun _ => True) [(a0, .inr (13, [.ref a1, .ref z0, .ref z1, .ref z2, .ref z3, .ref z4, .int 104, .ref z5, .ref z6, .ref z7, .int 0, .ref z8, .ref z9, .int 0, .int 0, .int 0, .int 0, .ref z10, .int 0, .null, .ref z11, .ref z12])), (a1, .inl (y 0, 3, .inl (fun _ => 0)))] := hD
  have hl : lv_has ls 4 [(0, .ref a0)] := hl
  refine lv_iconst (v := 0) hx hb dX11_openNow_0 (by decide) ?_
  refine lv_istore_n (lv' := [(1, .int 0), (0, .ref a0)]) hx hb dX11_openNow_1 rfl hl (by decide) rfl (fun ls hl => ?_)
  refine lv_aload_n hx hb dX11_openNow_2 rfl (lv_at hl 1 rfl) ?_
  refine va_get (D := D) (ci := 13) (v := .int 104) (C := RX11) (T := TX11) (N := 22) hx hb hts inX11 hown hK hP 0 rfl rfl 6 (by decide) (hts _ wd_126) (fun _ h9 => h9) rfl dX11_openNow_3 ?_
  refine lv_bipush (v := 112) hx hb dX11_openNow_6 (by decide) ?_
  refine lv_icmp_ne (tgt := 15) hx hb dX11_openNow_8 (by decide) (fun _ => ?_) (fun c => absurd c (by decide))
  refine lv_iconst (v := 0) hx hb dX11_openNow_15 (by decide) ?_
  refine lv_istore_n (lv' := [(2, .int 0), (1, .int 0), (0, .ref a0)]) hx hb dX11_openNow_16 rfl hl (by decide) rfl (fun ls hl => ?_)
  refine lv_iconst (v := 0) hx hb dX11_openNow_17 (by decide) ?_
  refine lv_istore_n (lv' := [(3, .int 0), (2, .int 0), (1, .int 0), (0, .ref a0)]) hx hb dX11_openNow_18 rfl hl (by decide) rfl (fun ls hl => ?_)
  refine lv_iload_n hx hb dX11_openNow_19 rfl (lv_at hl 0 rfl) ?_
  refine lv_aload_n hx hb dX11_openNow_20 rfl (lv_at hl 3 rfl) ?_
  refine va_get (D := D) (ci := 13) (v := .ref a1) (C := RX11) (T := TX11) (N := 22) hx hb hts inX11 hown hK hP 0 rfl rfl 0 (by decide) (hts _ wd_115) (fun _ h9 => h9) rfl dX11_openNow_21 ?_
  refine lv_iload_n hx hb dX11_openNow_24 rfl (lv_at hl 1 rfl) ?_
  refine lv_if_eq (tgt := 32) hx hb dX11_openNow_25 (by decide) (fun _ => ?_) (fun c => absurd (by decide) c)
  refine lv_iconst (v := 1) hx hb dX11_openNow_32 (by decide) ?_
  refine va_iald hx hb hK hP 1 0 rfl rfl (vp_in_nI (n := 1) (by decide) (by decide)) dX11_openNow_33 ?_
  refine tp_i (v := 0) rfl ?_
  refine lv_icmp_ge (tgt := 69) hx hb dX11_openNow_34 (by decide) (fun _ => ?_) (fun c => absurd (by decide) c)
  refine lv_iload_n hx hb dX11_openNow_69 rfl (lv_at hl 2 rfl) ?_
  exact e_i hF hr (Nat.le_of_ble_eq_true rfl) (Nat.le_of_ble_eq_true rfl) hS (qg_end hS (fun _ => 0) rfl [] hP rfl d_nil) dX11_openNow_70

set_option maxHeartbeats 4000000 in
set_option maxRecDepth 100000 in
theorem c209_X11_begin (l : Launch) (a0 : Nat) (a1 : Nat) (z0 : Nat) (z1 : Nat) (z2 : Nat) (z3 : Nat) (z4 : Nat) (z5 : Nat) (z6 : Nat) (z7 : Nat) (z8 : Nat) (z9 : Nat) (z10 : Nat) (z11 : Nat) (z12 : Nat) : CT l (.code yX11_begin cX11_begin 2 (some .int)) yX11_begin { frames := 5, cells := 2, slots := 20, locals := 111 } [.ref a0, .int 104] (fun y => [(a0, .inr (13, [.ref a1, .ref z0, .ref z1, .ref z2, .ref z3, .ref z4, .int 45, .ref z5, .ref z6, .ref z7, .int 0, .ref z8, .ref z9, .int 0, .int 0, .int 0, .int 0, .ref z10, .int 0, .null, .ref z11, .ref z12])), (a1, .inl (y 0, 3, .inl (fun _ => 0)))]) (fun y => [(a0, .inr (13, [.ref a1, .ref z0, .ref z1, .ref z2, .ref z3, .ref z4, .int 45, .ref z5, .ref z6, .ref z7, .int 0, .ref z8, .ref z9, .int 0, .int 0, .int 0, .int 0, .ref z10, .int 0, .null, .ref z11, .ref z12])), (a1, .inl (y 0, 3, .inl (fun _ => 0)))]) (fun u => some (.int 0)) (fun y u => [(a0, .inr (13, [.ref a1, .ref z0, .ref z1, .ref z2, .ref z3, .ref (u 0), .int 104, .ref (u 1), .ref z6, .ref z7, .int 0, .ref z8, .ref z9, .int 0, .int 0, .int 0, .int 0, .ref z10, .int 0, .null, .ref z11, .ref z12])), (a1, .inl (y 0, 3, .inl (fun _ => 0))), ((u 0), .inl (y 0, 10, .inl (fun _ => (-1)))), ((u 1), .inl (y 0, 10, .inl (fun _ => 0)))]) := by
  refine mkM (by decide) (Nat.le_of_ble_eq_true rfl) ?_
  intro p e s m args below meth c D y A ls hF hr hAe hP hD hS hl
  have hF : FX p e s m args meth c cX11_begin 2 RX11 "begin" D y A := hF
  obtain ⟨⟨hx, hb, hml, hown, hts⟩, hev, heh, hA, hlk, hnm⟩ := id hF
  have hK := hev.1
  have hP : va_P D vwCl [(a0, .inr (13, [.ref a1, .ref z0, .ref z1, .ref z2, .ref z3, .ref z4, .int 45, .ref z5, .ref z6, .ref z7, .int 0, .ref z8, .ref z9, .int 0, .int 0, .int 0, .int 0, .ref z10, .int 0, .null, .ref z11, .ref z12])), (a1, .inl (y 0, 3, .inl (fun _ => 0)))] s.heap := hP
  have hD : va_D A [(a0, .inr (13, [.ref a1, .ref z0, .ref z1, .ref z2, .ref z3, .ref z4, .int 45, .ref z5, .ref z6, .ref z7, .int 0, .ref z8, .ref z9, .int 0, .int 0, .int 0, .int 0, .ref z10, .int 0, .null, .ref z11, .ref z12])), (a1, .inl (y 0, 3, .inl (fun _ => 0)))] := by rw [← hAe]; exact hD.self
  have hl : lv_has ls 2 [(0, .ref a0), (1, .int 104)] := hl
  refine lv_aload_n hx hb dX11_begin_0 rfl (lv_at hl 0 rfl) ?_
  refine lv_iload_n hx hb dX11_begin_1 rfl (lv_at hl 1 rfl) ?_
  refine cS (l := l) (yM := yX11_sideOf) (As := [.int 104]) (rest := [.ref a0]) (wr := [(a0, .inr (13, [.ref a1, .ref z0, .ref z1, .ref z2, .ref z3, .ref z4, .int 45, .ref z5, .ref z6, .ref z7, .int 0, .ref z8, .ref z9, .int 0, .int 0, .int 0, .int 0, .ref z10, .int 0, .null, .ref z11, .ref z12])), (a1, .inl (y 0, 3, .inl (fun _ => 0)))]) hF (c39_X11_sideOf l) gs_RX11_124 1 (by decide +kernel) rfl ⟨(Nat.le_of_ble_eq_true rfl), (Nat.le_of_ble_eq_true rfl)⟩ hl.1 rfl (Nat.le_of_ble_eq_true rfl) dX11_begin_2 ⟨(Nat.le_of_ble_eq_true rfl), (Nat.le_of_ble_eq_true rfl)⟩ hP hD hS (pA hA hS) (fun _ h => h) [] [] [0, 1] rfl rfl rfl rfl rfl (by decide) (fun u_1 H locs hP hD hS => ?_)
  have hP : va_P D vwCl [(a0, .inr (13, [.ref a1, .ref z0, .ref z1, .ref z2, .ref z3, .ref z4, .int 45, .ref z5, .ref z6, .ref z7, .int 0, .ref z8, .ref z9, .int 0, .int 0, .int 0, .int 0, .ref z10, .int 0, .null, .ref z11, .ref z12])), (a1, .inl (y 0, 3, .inl (fun _ => 0)))] H := hP
  have hD : va_D A [(a0, .inr (13, [.ref a1, .ref z0, .ref z1, .ref z2, .ref z3, .ref z4, .int 45, .ref z5, .ref z6, .ref z7, .int 0, .ref z8, .ref z9, .int 0, .int 0, .int 0, .int 0, .ref z10, .int 0, .null, .ref z11, .ref z12])), (a1, .inl (y 0, 3, .inl (fun _ => 0)))] := hD
  refine W.widen (k := 0) (n := 0) (Nat.le_of_ble_eq_true rfl) (Nat.le_of_ble_eq_true rfl) ?_
  refine W.eq (g2 := F0 m 5 ls [.int 1, .ref a0]) rfl ?_
  refine lv_iconst (v := 0) hx hb dX11_begin_5 (by decide) ?_
  refine lv_iconst (v := 1) hx hb dX11_begin_6 (by decide) ?_
  refine cS (l := l) (yM := yX11_in) (As := [.int 1, .int 0, .int 1]) (rest := [.ref a0]) (wr := [(a0, .inr (13, [.ref a1, .ref z0, .ref z1, .ref z2, .ref z3, .ref z4, .int 45, .ref z5, .ref z6, .ref z7, .int 0, .ref z8, .ref z9, .int 0, .int 0, .int 0, .int 0, .ref z10, .int 0, .null, .ref z11, .ref z12])), (a1, .inl (y 0, 3, .inl (fun _ => 0)))]) hF (c209_X11_in l) gs_RX11_78 3 (by decide +kernel) rfl ⟨(Nat.le_of_ble_eq_true rfl), (Nat.le_of_ble_eq_true rfl)⟩ hl.1 rfl (Nat.le_of_ble_eq_true rfl) dX11_begin_7 ⟨(Nat.le_of_ble_eq_true rfl), (Nat.le_of_ble_eq_true rfl)⟩ hP hD hS (pA hA hS) (fun _ h => h) [] [] [0, 1] rfl rfl rfl rfl rfl (by decide) (fun u_2 H locs hP hD hS => ?_)
  have hP : va_P D vwCl [(a0, .inr (13, [.ref a1, .ref z0, .ref z1, .ref z2, .ref z3, .ref z4, .int 45, .ref z5, .ref z6, .ref z7, .int 0, .ref z8, .ref z9, .int 0, .int 0, .int 0, .int 0, .ref z10, .int 0, .null, .ref z11, .ref z12])), (a1, .inl (y 0, 3, .inl (fun _ => 0)))] H := hP
  have hD : va_D A [(a0, .inr (13, [.ref a1, .ref z0, .ref z1, .ref z2, .ref z3, .ref z4, .int 45, .ref z5, .ref z6, .ref z7, .int 0, .ref z8, .ref z9, .int 0, .int 0, .int 0, .int 0, .ref z10, .int 0, .null, .ref z11, .ref z12])), (a1, .inl (y 0, 3, .inl (fun _ => 0)))] := hD
  refine W.widen (k := 0) (n := 0) (Nat.le_of_ble_eq_true rfl) (Nat.le_of_ble_eq_true rfl) ?_
  refine W.eq (g2 := F0 m 10 ls [.int 1, .ref a0]) rfl ?_
  refine lv_if_ne (tgt := 17) hx hb dX11_begin_10 (by decide) (fun _ => ?_) (fun c => absurd c (by decide))
  refine lv_iconst (v := 0) hx hb dX11_begin_17 (by decide) ?_
  refine lv_iconst (v := 0) hx hb dX11_begin_18 (by decide) ?_
  refine lv_iconst (v := 0) hx hb dX11_begin_19 (by decide) ?_
  refine cV (l := l) (yM := yX11_fails) (C := RX11) (As := [.int 0, .int 0, .int 0]) (rest := []) (wr := [(a1, .inl (y 0, 3, .inl (fun _ => 0)))]) hF (c32_X11_fails l a0 a1 z0 z1 z2 z3 z4 z5 z6 z7 z8 z9 z10 z11 z12) gv_RX11_128 3 (by decide +kernel) rfl ⟨(Nat.le_of_ble_eq_true rfl), (Nat.le_of_ble_eq_true rfl)⟩ hl.1 rfl (Nat.le_of_ble_eq_true rfl) dX11_begin_20 ⟨(Nat.le_of_ble_eq_true rfl), (Nat.le_of_ble_eq_true rfl)⟩ hP hD hS (va_free (wc := [(a0, .inr (13, [.ref a1, .ref z0, .ref z1, .ref z2, .ref z3, .ref z4, .int 45, .ref z5, .ref z6, .ref z7, .int 0, .ref z8, .ref z9, .int 0, .int 0, .int 0, .int 0, .ref z10, .int 0, .null, .ref z11, .ref z12]))]) hD hS hA [0] rfl) (fun _ h => h) [0] [0] [1] rfl rfl rfl rfl rfl (by decide) 0 (ci := 13) rfl rfl rfl (fun u_3 H locs hP hD hS => ?_)
  have hP : va_P D vwCl [(a1, .inl (y 0, 3, .inl (fun _ => 0))), (a0, .inr (13, [.ref a1, .ref z0, .ref z1, .ref z2, .ref z3, .ref z4, .int 45, .ref z5, .ref z6, .ref z7, .int 0, .ref z8, .ref z9, .int 0, .int 0, .int 0, .int 0, .ref z10, .int 0, .null, .ref z11, .ref z12]))] H := hP
  have hD : va_D A [(a1, .inl (y 0, 3, .inl (fun _ => 0))), (a0, .inr (13, [.ref a1, .ref z0, .ref z1, .ref z2, .ref z3, .ref z4, .int 45, .ref z5, .ref z6, .ref z7, .int 0, .ref z8, .ref z9, .int 0, .int 0, .int 0, .int 0, .ref z10, .int 0, .null, .ref z11, .ref z12]))] := hD
  refine W.widen (k := 0) (n := 0) (Nat.le_of_ble_eq_true rfl) (Nat.le_of_ble_eq_true rfl) ?_
  refine W.eq (g2 := F0 m 23 ls [.int 0]) rfl ?_
  refine lv_if_eq (tgt := 28) hx hb dX11_begin_23 (by decide) (fun _ => ?_) (fun c => absurd (by decide) c)
  refine lv_aload_n hx hb dX11_begin_28 rfl (lv_at hl 0 rfl) ?_
  refine lv_iload_n hx hb dX11_begin_29 rfl (lv_at hl 1 rfl) ?_
  refine cV (l := l) (yM := yX11_begins) (C := RX11) (As := [.int 104]) (rest := []) (wr := [(a1, .inl (y 0, 3, .inl (fun _ => 0)))]) hF (c210_X11_begins l a0 a1 z0 z1 z2 z3 z4 z5 z6 z7 z8 z9 z10 z11 z12) gv_RX11_164 1 (by decide +kernel) rfl ⟨(Nat.le_of_ble_eq_true rfl), (Nat.le_of_ble_eq_true rfl)⟩ hl.1 rfl (Nat.le_of_ble_eq_true rfl) dX11_begin_30 ⟨(Nat.le_of_ble_eq_true rfl), (Nat.le_of_ble_eq_true rfl)⟩ hP hD hS (va_free (wc := [(a0, .inr (13, [.ref a1, .ref z0, .ref z1, .ref z2, .ref z3, .ref z4, .int 45, .ref z5, .ref z6, .ref z7, .int 0, .ref z8, .ref z9, .int 0, .int 0, .int 0, .int 0, .ref z10, .int 0, .null, .ref z11, .ref z12]))]) hD hS hA [1] rfl) (fun _ h => h) [1] [1] [0] rfl rfl rfl rfl rfl (by decide) 1 (ci := 13) rfl rfl rfl (fun u_4 H locs hP hD hS => ?_)
  have hP : va_P D vwCl [(a1, .inl (y 0, 3, .inl (fun _ => 0))), (a0, .inr (13, [.ref a1, .ref z0, .ref z1, .ref z2, .ref z3, .ref (u_4 0), .int 104, .ref (u_4 1), .ref z6, .ref z7, .int 0, .ref z8, .ref z9, .int 0, .int 0, .int 0, .int 0, .ref z10, .int 0, .null, .ref z11, .ref z12])), ((u_4 0), .inl (y 0, 10, .inl (fun _ => (-1)))), ((u_4 1), .inl (y 0, 10, .inl (fun _ => 0)))] H := hP
  have hD : va_D A [(a1, .inl (y 0, 3, .inl (fun _ => 0))), (a0, .inr (13, [.ref a1, .ref z0, .ref z1, .ref z2, .ref z3, .ref (u_4 0), .int 104, .ref (u_4 1), .ref z6, .ref z7, .int 0, .ref z8, .ref z9, .int 0, .int 0, .int 0, .int 0, .ref z10, .int 0, .null, .ref z11, .ref z12])), ((u_4 0), .inl (y 0, 10, .inl (fun _ => (-1)))), ((u_4 1), .inl (y 0, 10, .inl (fun _ => 0)))] := hD
  refine W.widen (k := 2) (n := 20) (Nat.le_of_ble_eq_true rfl) (Nat.le_of_ble_eq_true rfl) ?_
  refine W.eq (g2 := F0 m 33 ls []) rfl ?_
  refine lv_aload_n hx hb dX11_begin_33 rfl (lv_at hl 0 rfl) ?_
  refine cV (l := l) (yM := yX11_openNow) (C := RX11) (As := []) (rest := []) (wr := [(a1, .inl (y 0, 3, .inl (fun _ => 0))), (a0, .inr (13, [.ref a1, .ref z0, .ref z1, .ref z2, .ref z3, .ref (u_4 0), .int 104, .ref (u_4 1), .ref z6, .ref z7, .int 0, .ref z8, .ref z9, .int 0, .int 0, .int 0, .int 0, .ref z10, .int 0, .null, .ref z11, .ref z12])), ((u_4 0), .inl (y 0, 10, .inl (fun _ => (-1)))), ((u_4 1), .inl (y 0, 10, .inl (fun _ => 0)))]) hF (c211_X11_openNow l a0 a1 z0 z1 z2 z3 (u_4 0) (u_4 1) z6 z7 z8 z9 z10 z11 z12) gv_RX11_168 0 (by decide +kernel) rfl ⟨(Nat.le_of_ble_eq_true rfl), (Nat.le_of_ble_eq_true rfl)⟩ hl.1 rfl (Nat.le_of_ble_eq_true rfl) dX11_begin_34 ⟨(Nat.le_of_ble_eq_true rfl), (Nat.le_of_ble_eq_true rfl)⟩ hP hD hS (pA hA hS) (fun _ h => h) [1, 0] [] [0, 1, 2, 3] rfl rfl rfl rfl rfl (by decide) 1 (ci := 13) rfl rfl rfl (fun u_5 H locs hP hD hS => ?_)
  have hP : va_P D vwCl [(a1, .inl (y 0, 3, .inl (fun _ => 0))), (a0, .inr (13, [.ref a1, .ref z0, .ref z1, .ref z2, .ref z3, .ref (u_4 0), .int 104, .ref (u_4 1), .ref z6, .ref z7, .int 0, .ref z8, .ref z9, .int 0, .int 0, .int 0, .int 0, .ref z10, .int 0, .null, .ref z11, .ref z12])), ((u_4 0), .inl (y 0, 10, .inl (fun _ => (-1)))), ((u_4 1), .inl (y 0, 10, .inl (fun _ => 0)))] H := hP
  have hD : va_D A [(a1, .inl (y 0, 3, .inl (fun _ => 0))), (a0, .inr (13, [.ref a1, .ref z0, .ref z1, .ref z2, .ref z3, .ref (u_4 0), .int 104, .ref (u_4 1), .ref z6, .ref z7, .int 0, .ref z8, .ref z9, .int 0, .int 0, .int 0, .int 0, .ref z10, .int 0, .null, .ref z11, .ref z12])), ((u_4 0), .inl (y 0, 10, .inl (fun _ => (-1)))), ((u_4 1), .inl (y 0, 10, .inl (fun _ => 0)))] := hD
  refine W.widen (k := 2) (n := 20) (Nat.le_of_ble_eq_true rfl) (Nat.le_of_ble_eq_true rfl) ?_
  refine W.eq (g2 := F0 m 37 ls [.int 0]) rfl ?_
  exact e_i hF hr (Nat.le_of_ble_eq_true rfl) (Nat.le_of_ble_eq_true rfl) hS (qg_end hS (adl [(u_4 0), (u_4 1)]) rfl [1, 0, 2, 3] hP rfl (hD.sub [1, 0, 2, 3] rfl rfl)) dX11_begin_37

set_option maxHeartbeats 4000000 in
set_option maxRecDepth 100000 in
theorem c213_X11_thrown (l : Launch) (a0 : Nat) (z0 : Nat) (z1 : Nat) (z2 : Nat) (z3 : Nat) (z4 : Nat) (z5 : Nat) (z6 : Nat) (z7 : Nat) (z8 : Nat) (z9 : Nat) (z10 : Nat) (z11 : Nat) (z12 : Nat) (z13 : Nat) : CT l (.code yX11_thrown cX11_thrown 1 (some .int)) yX11_thrown { frames := 0, cells := 0, slots := 0, locals := 0 } [.ref a0] (fun y => [(a0, .inr (13, [.ref z0, .ref z1, .ref z2, .ref z3, .ref z4, .ref z5, .int 104, .ref z6, .ref z7, .ref z8, .int 0, .ref z9, .ref z10, .int 0, .int 0, .int 0, .int 0, .ref z11, .int 0, .null, .ref z12, .ref z13]))]) (fun _ => []) (fun u => some (.int 0)) (fun y u => []) := by
  refine mkM (by decide) (Nat.le_of_ble_eq_true rfl) ?_
  intro p e s m args below meth c D y A ls hF hr hAe hP hD hS hl
  have hF : FX p e s m args meth c cX11_thrown 1 RX11 "thrown" D y A := hF
  obtain ⟨⟨hx, hb, hml, hown, hts⟩, hev, heh, hA, hlk, hnm⟩ := id hF
  have hK := hev.1
  have hP : va_P D vwCl [(a0, .inr (13, [.ref z0, .ref z1, .ref z2, .ref z3, .ref z4, .ref z5, .int 104, .ref z6, .ref z7, .ref z8, .int 0, .ref z9, .ref z10, .int 0, .int 0, .int 0, .int 0, .ref z11, .int 0, .null, .ref z12, .ref z13]))] s.heap := hP
  have hD : va_D (fun _ => True) [(a0, .inr (13, [.ref z0, .ref z1, .ref z2, .ref z3, .ref z4, .ref z5, .int 104, .ref z6, .ref z7, .ref z8, .int 0, .ref z9, .ref z10, .int 0, .int 0, .int 0, .int 0, .ref z11, .int 0, .null, .ref z12, .ref z13]))] := hD
  have hl : lv_has ls 1 [(0, .ref a0)] := hl
  refine lv_aload_n hx hb dX11_thrown_0 rfl (lv_at hl 0 rfl) ?_
  refine va_get (D := D) (ci := 13) (v := .int 0) (C := RX11) (T := TX11) (N := 22) hx hb hts inX11 hown hK hP 0 rfl rfl 15 (by decide) (hts _ wd_216) (fun _ h9 => h9) rfl dX11_thrown_1 ?_
  exact e_i hF hr (Nat.le_of_ble_eq_true rfl) (Nat.le_of_ble_eq_true rfl) hS (qg_end hS (fun _ => 0) rfl [] hP rfl d_nil) dX11_thrown_4

set_option maxHeartbeats 4000000 in
set_option maxRecDepth 100000 in
theorem c214_X10_needOfferSide (l : Launch) (hlt : l.stackTraces = false) (z0 : Nat) (p0 : Int32) (f0 : ¬ p0 = 112) (f1 : ¬ p0 = 104) : CX l (.code yX10_needOfferSide cX10_needOfferSide 2 none) yX10_needOfferSide { frames := 6, cells := 1, slots := 6, locals := 90 } [.ref z0, .int p0] (fun y => []) (fun _ => []) "java/lang/IllegalArgumentException" := by
  refine mkX (by decide) (Nat.le_of_ble_eq_true rfl) ?_
  intro p e s m args below meth c D y A ls hF htb hAe hP hD hS hl
  have hF : FX p e s m args meth c cX10_needOfferSide 2 RX10 "needOfferSide" D y A := hF
  obtain ⟨⟨hx, hb, hml, hown, hts⟩, hev, heh, hA, hlk, hnm⟩ := id hF
  have hK := hev.1
  have hP : va_P D vwCl [] s.heap := hP
  have hD : va_D A [] := by rw [← hAe]; exact hD.self
  have hl : lv_has ls 2 [(0, .ref z0), (1, .int p0)] := hl
  refine lv_iload_n hx hb dX10_needOfferSide_0 rfl (lv_at hl 1 rfl) ?_
  refine lv_bipush (v := 112) hx hb dX10_needOfferSide_1 (by decide) ?_
  refine lv_icmp_eq (tgt := 23) hx hb dX10_needOfferSide_3 (by decide) (fun c => absurd c f0) (fun _ => ?_)
  refine lv_iload_n hx hb dX10_needOfferSide_6 rfl (lv_at hl 1 rfl) ?_
  refine lv_bipush (v := 104) hx hb dX10_needOfferSide_7 (by decide) ?_
  refine lv_icmp_eq (tgt := 23) hx hb dX10_needOfferSide_9 (by decide) (fun c => absurd c f1) (fun _ => ?_)
  exact th_W (text := "sides are 'p' and 'h' here") hF htb hlt (by decide) wd_233 wd_234 (List.mem_of_getElem? (i := 11) rfl) exg2 exf2 exo2 hS hl.1 (Nat.le_of_ble_eq_true rfl) ⟨(Nat.le_of_ble_eq_true rfl), (Nat.le_of_ble_eq_true rfl)⟩ ⟨(Nat.le_of_ble_eq_true rfl), (Nat.le_of_ble_eq_true rfl)⟩ ⟨(Nat.le_of_ble_eq_true rfl), (Nat.le_of_ble_eq_true rfl)⟩ dX10_needOfferSide_12 dX10_needOfferSide_15 dX10_needOfferSide_16 dX10_needOfferSide_19 dX10_needOfferSide_22

set_option maxHeartbeats 4000000 in
set_option maxRecDepth 100000 in
theorem c214_X10_begin (l : Launch) (hlt : l.stackTraces = false) (a0 : Nat) (z0 : Nat) (z1 : Nat) (z2 : Nat) (z3 : Nat) (z4 : Nat) (z5 : Nat) (z6 : Nat) (z7 : Nat) (z8 : Nat) (z9 : Nat) (z10 : Nat) (z11 : Nat) (z12 : Nat) (z13 : Nat) (z14 : Nat) (p0 : Int32) (f0 : ¬ p0 = 112) (f1 : ¬ p0 = 104) : CX l (.code yX10_begin cX10_begin 2 (some .int)) yX10_begin { frames := 7, cells := 1, slots := 6, locals := 111 } [.ref a0, .int p0] (fun y => [(a0, .inr (12, [.ref z0, .ref z1, .ref z2, .ref z3, .ref z4, .ref z5, .ref z6, .ref z7, .ref z8, .ref z9, .ref z10, .ref z11, .ref z12, .ref z13, .ref z14]))]) (fun _ => []) "java/lang/IllegalArgumentException" := by
  refine mkX (by decide) (Nat.le_of_ble_eq_true rfl) ?_
  intro p e s m args below meth c D y A ls hF htb hAe hP hD hS hl
  have hF : FX p e s m args meth c cX10_begin 2 RX10 "begin" D y A := hF
  obtain ⟨⟨hx, hb, hml, hown, hts⟩, hev, heh, hA, hlk, hnm⟩ := id hF
  have hK := hev.1
  have hP : va_P D vwCl [(a0, .inr (12, [.ref z0, .ref z1, .ref z2, .ref z3, .ref z4, .ref z5, .ref z6, .ref z7, .ref z8, .ref z9, .ref z10, .ref z11, .ref z12, .ref z13, .ref z14]))] s.heap := hP
  have hD : va_D (fun _ => True) [(a0, .inr (12, [.ref z0, .ref z1, .ref z2, .ref z3, .ref z4, .ref z5, .ref z6, .ref z7, .ref z8, .ref z9, .ref z10, .ref z11, .ref z12, .ref z13, .ref z14]))] := hD
  have hl : lv_has ls 2 [(0, .ref a0), (1, .int p0)] := hl
  refine lv_aload_n hx hb dX10_begin_0 rfl (lv_at hl 0 rfl) ?_
  refine lv_iload_n hx hb dX10_begin_1 rfl (lv_at hl 1 rfl) ?_
  exact xV (l := l) (yM := yX10_needOfferSide) (C := RX10) (As := [.int p0]) (rest := []) hF htb (c214_X10_needOfferSide l hlt a0 p0 f0 f1) gv_RX10_198 1 (by decide +kernel) rfl ⟨(Nat.le_of_ble_eq_true rfl), (Nat.le_of_ble_eq_true rfl)⟩ hl.1 rfl (Nat.le_of_ble_eq_true rfl) dX10_begin_2 ⟨(Nat.le_of_ble_eq_true rfl), (Nat.le_of_ble_eq_true rfl)⟩ hP hD hS (pA hA hS) [] rfl rfl 0 (ci := 12) rfl rfl rfl ⟨(Nat.le_of_ble_eq_true rfl), (Nat.le_of_ble_eq_true rfl)⟩

set_option maxHeartbeats 4000000 in
set_option maxRecDepth 100000 in
theorem c214_L_begin (l : Launch) (hlt : l.stackTraces = false) (a0 : Nat) (z0 : Nat) (z1 : Nat) (z2 : Nat) (z3 : Nat) (z4 : Nat) (z5 : Nat) (z6 : Nat) (z7 : Nat) (z8 : Nat) (z9 : Nat) (z10 : Nat) (z11 : Nat) (z12 : Nat) (z13 : Nat) (z14 : Nat) (p0 : Int32) (z15 : Nat) (f0 : ¬ p0 = 112) (f1 : ¬ p0 = 104) : CT l (.codeWith yL_begin cL_begin 4 (some .int) [(0, 9, 12, 13)]) yL_begin { frames := 8, cells := 1, slots := 6, locals := 132 } [.ref a0, .int p0, .ref z15] (fun y => [(a0, .inr (12, [.ref z0, .ref z1, .ref z2, .ref z3, .ref z4, .ref z5, .ref z6, .ref z7, .ref z8, .ref z9, .ref z10, .ref z11, .ref z12, .ref z13, .ref z14]))]) (fun _ => []) (fun u => some (.int 1)) (fun y u => []) := by
  refine mkH (by decide) (Nat.le_of_ble_eq_true rfl) ?_
  intro p e s m args below meth c D y A ls hF htab hr hAe hP hD hS hl
  have hF : FX p e s m args meth c cL_begin 4 RL "begin" D y A := hF
  obtain ⟨⟨hx, hb, hml, hown, hts⟩, hev, heh, hA, hlk, hnm⟩ := id hF
  have hK := hev.1
  have hP : va_P D vwCl [(a0, .inr (12, [.ref z0, .ref z1, .ref z2, .ref z3, .ref z4, .ref z5, .ref z6, .ref z7, .ref z8, .ref z9, .ref z10, .ref z11, .ref z12, .ref z13, .ref z14]))] s.heap := hP
  have hD : va_D (fun _ => True) [(a0, .inr (12, [.ref z0, .ref z1, .ref z2, .ref z3, .ref z4, .ref z5, .ref z6, .ref z7, .ref z8, .ref z9, .ref z10, .ref z11, .ref z12, .ref z13, .ref z14]))] := hD
  have hl : lv_has ls 4 [(0, .ref a0), (1, .int p0), (2, .ref z15)] := hl
  refine lv_aload_n hx hb dL_begin_0 rfl (lv_at hl 2 rfl) ?_
  refine lv_iconst (v := 0) hx hb dL_begin_1 (by decide) ?_
  refine lv_aload_n hx hb dL_begin_2 rfl (lv_at hl 0 rfl) ?_
  refine lv_iload_n hx hb dL_begin_3 rfl (lv_at hl 1 rfl) ?_
  refine hV (wr := [(a0, .inr (12, [.ref z0, .ref z1, .ref z2, .ref z3, .ref z4, .ref z5, .ref z6, .ref z7, .ref z8, .ref z9, .ref z10, .ref z11, .ref z12, .ref z13, .ref z14]))]) (name := "java/lang/IllegalArgumentException") (E0 := "java/lang/IllegalArgumentException") (l := l) (yM := yX10_begin) (C := RX10) (As := [.int p0]) (rest := [.int 0, .ref z15]) hF (c214_X10_begin l hlt a0 z0 z1 z2 z3 z4 z5 z6 z7 z8 z9 z10 z11 z12 z13 z14 p0 f0 f1) gv_RL_55 1 (by decide +kernel) rfl ⟨(Nat.le_of_ble_eq_true rfl), (Nat.le_of_ble_eq_true rfl)⟩ hl.1 rfl (Nat.le_of_ble_eq_true rfl) dL_begin_4 ⟨(Nat.le_of_ble_eq_true rfl), (Nat.le_of_ble_eq_true rfl)⟩ hP hD hS (pA hA hS) (fun _ _ => trivial) [0] [] [0] rfl rfl rfl rfl rfl (by decide) 0 (ci := 12) rfl rfl rfl [] ⟨0, 9, 12, 13⟩ [] htab (fun z hz => nomatch hz) (by decide) (by decide) wd_235 (by decide) (fun q9 H locs hP hD hS => ?_)
  have hP : va_P D vwCl [(a0, .inr (12, [.ref z0, .ref z1, .ref z2, .ref z3, .ref z4, .ref z5, .ref z6, .ref z7, .ref z8, .ref z9, .ref z10, .ref z11, .ref z12, .ref z13, .ref z14]))] H := hP
  have hD : va_D (fun _ => True) [(a0, .inr (12, [.ref z0, .ref z1, .ref z2, .ref z3, .ref z4, .ref z5, .ref z6, .ref z7, .ref z8, .ref z9, .ref z10, .ref z11, .ref z12, .ref z13, .ref z14]))] := hD
  refine W.widen (k := 1) (n := 6) (Nat.le_of_ble_eq_true rfl) (Nat.le_of_ble_eq_true rfl) ?_
  refine W.eq (g2 := F0 m 12 ls [.ref q9]) rfl ?_
  refine lv_astore_n (lv' := [(3, .ref q9), (0, .ref a0), (1, .int p0), (2, .ref z15)]) hx hb dL_begin_12 rfl hl (by decide) rfl (fun ls hl => ?_)
  refine lv_iconst (v := 1) hx hb dL_begin_13 (by decide) ?_
  exact e_i hF hr (Nat.le_of_ble_eq_true rfl) (Nat.le_of_ble_eq_true rfl) hS (qg_end hS (fun _ => 0) rfl [] hP rfl d_nil) dL_begin_14

