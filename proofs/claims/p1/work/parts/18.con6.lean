set_option maxHeartbeats 4000000 in
set_option maxRecDepth 100000 in
theorem c360_L_fairest (l : Launch) (hlt : l.stackTraces = false) (a0 : Nat) (z0 : Nat) (z1 : Nat) (z2 : Nat) (z3 : Nat) (z4 : Nat) (z5 : Nat) (z6 : Nat) (z7 : Nat) (z8 : Nat) (z9 : Nat) (z10 : Nat) (z11 : Nat) (z12 : Nat) (z13 : Nat) (z14 : Nat) (p0 : Int32) (z15 : Nat) (f0 : ¬ p0 = 115) (f1 : ¬ p0 = 119) : CT l (.codeWith yL_fairest cL_fairest 4 (some .int) [(0, 9, 12, 13), (0, 9, 15, 61)]) yL_fairest { frames := 7, cells := 1, slots := 6, locals := 115 } [.ref a0, .int p0, .ref z15] (fun y => [(a0, .inr (12, [.ref z0, .ref z1, .ref z2, .ref z3, .ref z4, .ref z5, .ref z6, .ref z7, .ref z8, .ref z9, .ref z10, .ref z11, .ref z12, .ref z13, .ref z14]))]) (fun _ => []) (fun u => some (.int 1)) (fun y u => []) := by
  refine mkH (by decide) (Nat.le_of_ble_eq_true rfl) ?_
  intro p e s m args below meth c D y A ls hF htab hr hAe hP hD hS hl
  have hF : FX p e s m args meth c cL_fairest 4 RL "fairest" D y A := hF
  obtain ⟨⟨hx, hb, hml, hown, hts⟩, hev, heh, hA, hlk, hnm⟩ := id hF
  have hK := hev.1
  have hP : va_P D vwCl [(a0, .inr (12, [.ref z0, .ref z1, .ref z2, .ref z3, .ref z4, .ref z5, .ref z6, .ref z7, .ref z8, .ref z9, .ref z10, .ref z11, .ref z12, .ref z13, .ref z14]))] s.heap := hP
  have hD : va_D (fun _ => True) [(a0, .inr (12, [.ref z0, .ref z1, .ref z2, .ref z3, .ref z4, .ref z5, .ref z6, .ref z7, .ref z8, .ref z9, .ref z10, .ref z11, .ref z12, .ref z13, .ref z14]))] := hD
  have hl : lv_has ls 4 [(0, .ref a0), (1, .int p0), (2, .ref z15)] := hl
  refine lv_aload_n hx hb dL_fairest_0 rfl (lv_at hl 2 rfl) ?_
  refine lv_iconst (v := 0) hx hb dL_fairest_1 (by decide) ?_
  refine lv_aload_n hx hb dL_fairest_2 rfl (lv_at hl 0 rfl) ?_
  refine lv_iload_n hx hb dL_fairest_3 rfl (lv_at hl 1 rfl) ?_
  refine hV (wr := [(a0, .inr (12, [.ref z0, .ref z1, .ref z2, .ref z3, .ref z4, .ref z5, .ref z6, .ref z7, .ref z8, .ref z9, .ref z10, .ref z11, .ref z12, .ref z13, .ref z14]))]) (name := "java/lang/IllegalArgumentException") (E0 := "java/lang/IllegalArgumentException") (l := l) (yM := yX10_fairest) (C := RX10) (As := [.int p0]) (rest := [.int 0, .ref z15]) hF (c360_X10_fairest l hlt a0 p0 f0 f1) gv_RL_119 1 (by decide +kernel) rfl ⟨(Nat.le_of_ble_eq_true rfl), (Nat.le_of_ble_eq_true rfl)⟩ hl.1 rfl (Nat.le_of_ble_eq_true rfl) dL_fairest_4 ⟨(Nat.le_of_ble_eq_true rfl), (Nat.le_of_ble_eq_true rfl)⟩ hP hD hS (pA hA hS) (fun _ _ => trivial) [] [] [0] rfl rfl rfl rfl rfl (by decide) 0 (ci := 12) rfl rfl rfl [] ⟨0, 9, 12, 13⟩ [⟨0, 9, 15, 61⟩] htab (fun z hz => nomatch hz) (by decide) (by decide) wd_235 (by decide) (fun q9 H locs hP hD hS => ?_)
  have hP : va_P D vwCl [(a0, .inr (12, [.ref z0, .ref z1, .ref z2, .ref z3, .ref z4, .ref z5, .ref z6, .ref z7, .ref z8, .ref z9, .ref z10, .ref z11, .ref z12, .ref z13, .ref z14]))] H := hP
  have hD : va_D (fun _ => True) [(a0, .inr (12, [.ref z0, .ref z1, .ref z2, .ref z3, .ref z4, .ref z5, .ref z6, .ref z7, .ref z8, .ref z9, .ref z10, .ref z11, .ref z12, .ref z13, .ref z14]))] := hD
  refine W.widen (k := 1) (n := 6) (Nat.le_of_ble_eq_true rfl) (Nat.le_of_ble_eq_true rfl) ?_
  refine W.eq (g2 := F0 m 12 ls [.ref q9]) rfl ?_
  refine lv_astore_n (lv' := [(3, .ref q9), (0, .ref a0), (1, .int p0), (2, .ref z15)]) hx hb dL_fairest_12 rfl hl (by decide) rfl (fun ls hl => ?_)
  refine lv_iconst (v := 1) hx hb dL_fairest_13 (by decide) ?_
  exact e_i hF hr (Nat.le_of_ble_eq_true rfl) (Nat.le_of_ble_eq_true rfl) hS (qg_end hS (fun _ => 0) rfl [] hP rfl d_nil) dL_fairest_14

set_option maxHeartbeats 4000000 in
set_option maxRecDepth 100000 in
theorem c362_X11_fairest (l : Launch) (a0 : Nat) (z0 : Nat) (z1 : Nat) (z2 : Nat) (z3 : Nat) (z4 : Nat) (z5 : Nat) (z6 : Nat) (z7 : Nat) (z8 : Nat) (z9 : Nat) (z10 : Nat) (z11 : Nat) (z12 : Nat) (z13 : Nat) (p0 : Int32) (f0 : ¬ p0 = 115) (f1 : ¬ p0 = 119) : CT l (.code yX11_fairest cX11_fairest 6 (some .int)) yX11_fairest { frames := 1, cells := 0, slots := 0, locals := 23 } [.ref a0, .int p0] (fun y => [(a0, .inr (13, [.ref z0, .ref z1, .ref z2, .ref z3, .ref z4, .ref z5, .int 45, .ref z6, .ref z7, .ref z8, .int 0, .ref z9, .ref z10, .int 0, .int 0, .int 0, .int 0, .ref z11, .int 0, .null, .ref z12, .ref z13]))]) (fun y => [(a0, .inr (13, [.ref z0, .ref z1, .ref z2, .ref z3, .ref z4, .ref z5, .int 45, .ref z6, .ref z7, .ref z8, .int 0, .ref z9, .ref z10, .int 0, .int 0, .int 0, .int 0, .ref z11, .int 0, .null, .ref z12, .ref z13]))]) (fun u => some (.int 0)) (fun y u => [(a0, .inr (13, [.ref z0, .ref z1, .ref z2, .ref z3, .ref z4, .ref z5, .int 45, .ref z6, .ref z7, .ref z8, .int 0, .ref z9, .ref z10, .int 0, .int 0, .int 1, .int 0, .ref z11, .int 0, .null, .ref z12, .ref z13]))]) := by
  refine mkM (by decide) (Nat.le_of_ble_eq_true rfl) ?_
  intro p e s m args below meth c D y A ls hF hr hAe hP hD hS hl
  have hF : FX p e s m args meth c cX11_fairest 6 RX11 "fairest" D y A := hF
  obtain ⟨⟨hx, hb, hml, hown, hts⟩, hev, heh, hA, hlk, hnm⟩ := id hF
  have hK := hev.1
  have hP : va_P D vwCl [(a0, .inr (13, [.ref z0, .ref z1, .ref z2, .ref z3, .ref z4, .ref z5, .int 45, .ref z6, .ref z7, .ref z8, .int 0, .ref z9, .ref z10, .int 0, .int 0, .int 0, .int 0, .ref z11, .int 0, .null, .ref z12, .ref z13]))] s.heap := hP
  have hD : va_D A [(a0, .inr (13, [.ref z0, .ref z1, .ref z2, .ref z3, .ref z4, .ref z5, .int 45, .ref z6, .ref z7, .ref z8, .int 0, .ref z9, .ref z10, .int 0, .int 0, .int 0, .int 0, .ref z11, .int 0, .null, .ref z12, .ref z13]))] := by rw [← hAe]; exact hD.self
  have hl : lv_has ls 6 [(0, .ref a0), (1, .int p0)] := hl
  refine lv_iload_n hx hb dX11_fairest_0 rfl (lv_at hl 1 rfl) ?_
  refine lv_bipush (v := 115) hx hb dX11_fairest_1 (by decide) ?_
  refine lv_icmp_eq (tgt := 12) hx hb dX11_fairest_3 (by decide) (fun c => absurd c f0) (fun _ => ?_)
  refine lv_iload_n hx hb dX11_fairest_6 rfl (lv_at hl 1 rfl) ?_
  refine lv_bipush (v := 119) hx hb dX11_fairest_7 (by decide) ?_
  refine lv_icmp_ne (tgt := 16) hx hb dX11_fairest_9 (by decide) (fun _ => ?_) (fun c => absurd c f1)
  refine lv_iconst (v := 0) hx hb dX11_fairest_16 (by decide) ?_
  refine lv_istore_n (lv' := [(2, .int 0), (0, .ref a0), (1, .int p0)]) hx hb dX11_fairest_17 rfl hl (by decide) rfl (fun ls hl => ?_)
  refine lv_aload_n hx hb dX11_fairest_18 rfl (lv_at hl 1 rfl) ?_
  refine lv_iload_n hx hb dX11_fairest_19 rfl (lv_at hl 0 rfl) ?_
  refine lv_if_ne (tgt := 27) hx hb dX11_fairest_20 (by decide) (fun c => absurd (by decide) c) (fun _ => ?_)
  refine lv_iconst (v := 1) hx hb dX11_fairest_23 (by decide) ?_
  refine lv_goto (tgt := 28) hx hb dX11_fairest_24 (by decide) ?_
  refine lv_iload_n hx hb dX11_fairest_28 rfl (lv_at hl 0 rfl) ?_
  refine lv_if_eq (tgt := 43) hx hb dX11_fairest_29 (by decide) (fun _ => ?_) (fun c => absurd (by decide) c)
  refine lv_iconst (v := 0) hx hb dX11_fairest_43 (by decide) ?_
  refine lv_iconst (v := 0) hx hb dX11_fairest_44 (by decide) ?_
  refine cV (l := l) (yM := yX11_fails) (C := RX11) (As := [.int 1, .int 0, .int 0]) (rest := []) (wr := []) hF (c67_X11_fails l a0 z0 z1 z2 z3 z4 z5 z6 z7 z8 z9 z10 z11 z12 z13) gv_RX11_128 3 (by decide +kernel) rfl ⟨(Nat.le_of_ble_eq_true rfl), (Nat.le_of_ble_eq_true rfl)⟩ hl.1 rfl (Nat.le_of_ble_eq_true rfl) dX11_fairest_45 ⟨(Nat.le_of_ble_eq_true rfl), (Nat.le_of_ble_eq_true rfl)⟩ hP hD hS (va_free (wc := [(a0, .inr (13, [.ref z0, .ref z1, .ref z2, .ref z3, .ref z4, .ref z5, .int 45, .ref z6, .ref z7, .ref z8, .int 0, .ref z9, .ref z10, .int 0, .int 0, .int 0, .int 0, .ref z11, .int 0, .null, .ref z12, .ref z13]))]) hD hS hA [0] rfl) (fun _ h => h) [0] [0] [] rfl rfl rfl rfl rfl (by decide) 0 (ci := 13) rfl rfl rfl (fun u_1 H locs hP hD hS => ?_)
  have hP : va_P D vwCl [(a0, .inr (13, [.ref z0, .ref z1, .ref z2, .ref z3, .ref z4, .ref z5, .int 45, .ref z6, .ref z7, .ref z8, .int 0, .ref z9, .ref z10, .int 0, .int 0, .int 1, .int 0, .ref z11, .int 0, .null, .ref z12, .ref z13]))] H := hP
  have hD : va_D A [(a0, .inr (13, [.ref z0, .ref z1, .ref z2, .ref z3, .ref z4, .ref z5, .int 45, .ref z6, .ref z7, .ref z8, .int 0, .ref z9, .ref z10, .int 0, .int 0, .int 1, .int 0, .ref z11, .int 0, .null, .ref z12, .ref z13]))] := hD
  refine W.widen (k := 0) (n := 0) (Nat.le_of_ble_eq_true rfl) (Nat.le_of_ble_eq_true rfl) ?_
  refine W.eq (g2 := F0 m 48 ls [.int 1]) rfl ?_
  refine lv_if_eq (tgt := 53) hx hb dX11_fairest_48 (by decide) (fun c => absurd c (by decide)) (fun _ => ?_)
  refine lv_iconst (v := 0) hx hb dX11_fairest_51 (by decide) ?_
  exact e_i hF hr (Nat.le_of_ble_eq_true rfl) (Nat.le_of_ble_eq_true rfl) hS (qg_end hS (fun _ => 0) rfl [0] hP rfl (hD.sub [0] rfl rfl)) dX11_fairest_52

set_option maxHeartbeats 4000000 in
set_option maxRecDepth 100000 in
theorem c363_X10_needHouseOfOnePlace (l : Launch) (hlt : l.stackTraces = false) (a0 : Nat) (a1 : Nat) (a2 : Nat) (z0 : Nat) (z1 : Nat) (z2 : Nat) (z3 : Nat) (z4 : Nat) (z5 : Nat) (z6 : Nat) (z7 : Nat) (z8 : Nat) (z9 : Nat) (z10 : Nat) (z11 : Nat) (z12 : Nat) (z13 : Nat) (z14 : Nat) (z15 : Nat) (z16 : Nat) (z17 : Nat) (z18 : Nat) (p0 : Int32) : CX l (.code yX10_needHouseOfOnePlace cX10_needHouseOfOnePlace 2 none) yX10_needHouseOfOnePlace { frames := 7, cells := 1, slots := 6, locals := 111 } [.ref a0, .int p0] (fun y => [(a0, .inr (12, [.ref a1, .ref z0, .ref z1, .ref z2, .ref z3, .ref z4, .ref z5, .ref z6, .ref z7, .ref z8, .ref z9, .ref z10, .ref z11, .ref z12, .ref z13])), (a1, .inr (5, [.ref z14, .ref a2, .ref z15])), (a2, .inr (4, [.int 0, .ref z16, .ref z17, .ref z18]))]) (fun _ => []) "java/util/NoSuchElementException" := by
  refine mkX (by decide) (Nat.le_of_ble_eq_true rfl) ?_
  intro p e s m args below meth c D y A ls hF htb hAe hP hD hS hl
  have hF : FX p e s m args meth c cX10_needHouseOfOnePlace 2 RX10 "needHouseOfOnePlace" D y A := hF
  obtain ⟨⟨hx, hb, hml, hown, hts⟩, hev, heh, hA, hlk, hnm⟩ := id hF
  have hK := hev.1
  have hP : va_P D vwCl [(a0, .inr (12, [.ref a1, .ref z0, .ref z1, .ref z2, .ref z3, .ref z4, .ref z5, .ref z6, .ref z7, .ref z8, .ref z9, .ref z10, .ref z11, .ref z12, .ref z13])), (a1, .inr (5, [.ref z14, .ref a2, .ref z15])), (a2, .inr (4, [.int 0, .ref z16, .ref z17, .ref z18]))] s.heap := hP
  have hD : va_D (fun _ => True) [(a0, .inr (12, [.ref a1, .ref z0, .ref z1, .ref z2, .ref z3, .ref z4, .ref z5, .ref z6, .ref z7, .ref z8, .ref z9, .ref z10, .ref z11, .ref z12, .ref z13])), (a1, .inr (5, [.ref z14, .ref a2, .ref z15])), (a2, .inr (4, [.int 0, .ref z16, .ref z17, .ref z18]))] := hD
  have hl : lv_has ls 2 [(0, .ref a0), (1, .int p0)] := hl
  refine lv_aload_n hx hb dX10_needHouseOfOnePlace_0 rfl (lv_at hl 0 rfl) ?_
  refine lv_iload_n hx hb dX10_needHouseOfOnePlace_1 rfl (lv_at hl 1 rfl) ?_
  exact xV (l := l) (yM := yX10_needHouse) (C := RX10) (As := [.int p0]) (rest := []) hF htb (c82_X10_needHouse l hlt a0 a1 a2 z0 z1 z2 z3 z4 z5 z6 z7 z8 z9 z10 z11 z12 z13 z14 z15 z16 z17 z18 p0) gv_RX10_116 1 (by decide +kernel) rfl ⟨(Nat.le_of_ble_eq_true rfl), (Nat.le_of_ble_eq_true rfl)⟩ hl.1 rfl (Nat.le_of_ble_eq_true rfl) dX10_needHouseOfOnePlace_2 ⟨(Nat.le_of_ble_eq_true rfl), (Nat.le_of_ble_eq_true rfl)⟩ hP hD hS (pA hA hS) [0, 1, 2] rfl rfl 0 (ci := 12) rfl rfl rfl ⟨(Nat.le_of_ble_eq_true rfl), (Nat.le_of_ble_eq_true rfl)⟩

set_option maxHeartbeats 4000000 in
set_option maxRecDepth 100000 in
theorem c363_X10_gain (l : Launch) (hlt : l.stackTraces = false) (a0 : Nat) (a1 : Nat) (a2 : Nat) (z0 : Nat) (z1 : Nat) (z2 : Nat) (z3 : Nat) (z4 : Nat) (z5 : Nat) (z6 : Nat) (z7 : Nat) (z8 : Nat) (z9 : Nat) (z10 : Nat) (z11 : Nat) (z12 : Nat) (z13 : Nat) (z14 : Nat) (z15 : Nat) (z16 : Nat) (z17 : Nat) (z18 : Nat) (p0 : Int32) : CX l (.code yX10_gain cX10_gain 4 (some .int)) yX10_gain { frames := 8, cells := 1, slots := 6, locals := 132 } [.ref a0, .int p0] (fun y => [(a0, .inr (12, [.ref a1, .ref z0, .ref z1, .ref z2, .ref z3, .ref z4, .ref z5, .ref z6, .ref z7, .ref z8, .ref z9, .ref z10, .ref z11, .ref z12, .ref z13])), (a1, .inr (5, [.ref z14, .ref a2, .ref z15])), (a2, .inr (4, [.int 0, .ref z16, .ref z17, .ref z18]))]) (fun _ => []) "java/util/NoSuchElementException" := by
  refine mkX (by decide) (Nat.le_of_ble_eq_true rfl) ?_
  intro p e s m args below meth c D y A ls hF htb hAe hP hD hS hl
  have hF : FX p e s m args meth c cX10_gain 4 RX10 "gain" D y A := hF
  obtain ⟨⟨hx, hb, hml, hown, hts⟩, hev, heh, hA, hlk, hnm⟩ := id hF
  have hK := hev.1
  have hP : va_P D vwCl [(a0, .inr (12, [.ref a1, .ref z0, .ref z1, .ref z2, .ref z3, .ref z4, .ref z5, .ref z6, .ref z7, .ref z8, .ref z9, .ref z10, .ref z11, .ref z12, .ref z13])), (a1, .inr (5, [.ref z14, .ref a2, .ref z15])), (a2, .inr (4, [.int 0, .ref z16, .ref z17, .ref z18]))] s.heap := hP
  have hD : va_D (fun _ => True) [(a0, .inr (12, [.ref a1, .ref z0, .ref z1, .ref z2, .ref z3, .ref z4, .ref z5, .ref z6, .ref z7, .ref z8, .ref z9, .ref z10, .ref z11, .ref z12, .ref z13])), (a1, .inr (5, [.ref z14, .ref a2, .ref z15])), (a2, .inr (4, [.int 0, .ref z16, .ref z17, .ref z18]))] := hD
  have hl : lv_has ls 4 [(0, .ref a0), (1, .int p0)] := hl
  refine lv_aload_n hx hb dX10_gain_0 rfl (lv_at hl 0 rfl) ?_
  refine lv_iload_n hx hb dX10_gain_1 rfl (lv_at hl 1 rfl) ?_
  exact xV (l := l) (yM := yX10_needHouseOfOnePlace) (C := RX10) (As := [.int p0]) (rest := []) hF htb (c363_X10_needHouseOfOnePlace l hlt a0 a1 a2 z0 z1 z2 z3 z4 z5 z6 z7 z8 z9 z10 z11 z12 z13 z14 z15 z16 z17 z18 p0) gv_RX10_365 1 (by decide +kernel) rfl ⟨(Nat.le_of_ble_eq_true rfl), (Nat.le_of_ble_eq_true rfl)⟩ hl.1 rfl (Nat.le_of_ble_eq_true rfl) dX10_gain_2 ⟨(Nat.le_of_ble_eq_true rfl), (Nat.le_of_ble_eq_true rfl)⟩ hP hD hS (pA hA hS) [0, 1, 2] rfl rfl 0 (ci := 12) rfl rfl rfl ⟨(Nat.le_of_ble_eq_true rfl), (Nat.le_of_ble_eq_true rfl)⟩

set_option maxHeartbeats 4000000 in
set_option maxRecDepth 100000 in
theorem c363_L_gain (l : Launch) (hlt : l.stackTraces = false) (a0 : Nat) (a1 : Nat) (a2 : Nat) (z0 : Nat) (z1 : Nat) (z2 : Nat) (z3 : Nat) (z4 : Nat) (z5 : Nat) (z6 : Nat) (z7 : Nat) (z8 : Nat) (z9 : Nat) (z10 : Nat) (z11 : Nat) (z12 : Nat) (z13 : Nat) (z14 : Nat) (z15 : Nat) (z16 : Nat) (z17 : Nat) (z18 : Nat) (p0 : Int32) (z19 : Nat) : CT l (.codeWith yL_gain cL_gain 4 (some .int) [(0, 9, 12, 24), (0, 9, 15, 61)]) yL_gain { frames := 9, cells := 1, slots := 6, locals := 155 } [.ref a0, .int p0, .ref z19] (fun y => [(a0, .inr (12, [.ref a1, .ref z0, .ref z1, .ref z2, .ref z3, .ref z4, .ref z5, .ref z6, .ref z7, .ref z8, .ref z9, .ref z10, .ref z11, .ref z12, .ref z13])), (a1, .inr (5, [.ref z14, .ref a2, .ref z15])), (a2, .inr (4, [.int 0, .ref z16, .ref z17, .ref z18]))]) (fun _ => []) (fun u => some (.int 1)) (fun y u => []) := by
  refine mkH (by decide) (Nat.le_of_ble_eq_true rfl) ?_
  intro p e s m args below meth c D y A ls hF htab hr hAe hP hD hS hl
  have hF : FX p e s m args meth c cL_gain 4 RL "gain" D y A := hF
  obtain ⟨⟨hx, hb, hml, hown, hts⟩, hev, heh, hA, hlk, hnm⟩ := id hF
  have hK := hev.1
  have hP : va_P D vwCl [(a0, .inr (12, [.ref a1, .ref z0, .ref z1, .ref z2, .ref z3, .ref z4, .ref z5, .ref z6, .ref z7, .ref z8, .ref z9, .ref z10, .ref z11, .ref z12, .ref z13])), (a1, .inr (5, [.ref z14, .ref a2, .ref z15])), (a2, .inr (4, [.int 0, .ref z16, .ref z17, .ref z18]))] s.heap := hP
  have hD : va_D (fun _ => True) [(a0, .inr (12, [.ref a1, .ref z0, .ref z1, .ref z2, .ref z3, .ref z4, .ref z5, .ref z6, .ref z7, .ref z8, .ref z9, .ref z10, .ref z11, .ref z12, .ref z13])), (a1, .inr (5, [.ref z14, .ref a2, .ref z15])), (a2, .inr (4, [.int 0, .ref z16, .ref z17, .ref z18]))] := hD
  have hl : lv_has ls 4 [(0, .ref a0), (1, .int p0), (2, .ref z19)] := hl
  refine lv_aload_n hx hb dL_gain_0 rfl (lv_at hl 2 rfl) ?_
  refine lv_iconst (v := 0) hx hb dL_gain_1 (by decide) ?_
  refine lv_aload_n hx hb dL_gain_2 rfl (lv_at hl 0 rfl) ?_
  refine lv_iload_n hx hb dL_gain_3 rfl (lv_at hl 1 rfl) ?_
  refine hV (wr := [(a0, .inr (12, [.ref a1, .ref z0, .ref z1, .ref z2, .ref z3, .ref z4, .ref z5, .ref z6, .ref z7, .ref z8, .ref z9, .ref z10, .ref z11, .ref z12, .ref z13])), (a1, .inr (5, [.ref z14, .ref a2, .ref z15])), (a2, .inr (4, [.int 0, .ref z16, .ref z17, .ref z18]))]) (name := "java/util/NoSuchElementException") (E0 := "java/util/NoSuchElementException") (l := l) (yM := yX10_gain) (C := RX10) (As := [.int p0]) (rest := [.int 0, .ref z19]) hF (c363_X10_gain l hlt a0 a1 a2 z0 z1 z2 z3 z4 z5 z6 z7 z8 z9 z10 z11 z12 z13 z14 z15 z16 z17 z18 p0) gv_RL_122 1 (by decide +kernel) rfl ⟨(Nat.le_of_ble_eq_true rfl), (Nat.le_of_ble_eq_true rfl)⟩ hl.1 rfl (Nat.le_of_ble_eq_true rfl) dL_gain_4 ⟨(Nat.le_of_ble_eq_true rfl), (Nat.le_of_ble_eq_true rfl)⟩ hP hD hS (pA hA hS) (fun _ _ => trivial) [0, 1, 2] [] [0, 1, 2] rfl rfl rfl rfl rfl (by decide) 0 (ci := 12) rfl rfl rfl [] ⟨0, 9, 12, 24⟩ [⟨0, 9, 15, 61⟩] htab (fun z hz => nomatch hz) (by decide) (by decide) wd_261 (by decide) (fun q9 H locs hP hD hS => ?_)
  have hP : va_P D vwCl [(a0, .inr (12, [.ref a1, .ref z0, .ref z1, .ref z2, .ref z3, .ref z4, .ref z5, .ref z6, .ref z7, .ref z8, .ref z9, .ref z10, .ref z11, .ref z12, .ref z13])), (a1, .inr (5, [.ref z14, .ref a2, .ref z15])), (a2, .inr (4, [.int 0, .ref z16, .ref z17, .ref z18]))] H := hP
  have hD : va_D (fun _ => True) [(a0, .inr (12, [.ref a1, .ref z0, .ref z1, .ref z2, .ref z3, .ref z4, .ref z5, .ref z6, .ref z7, .ref z8, .ref z9, .ref z10, .ref z11, .ref z12, .ref z13])), (a1, .inr (5, [.ref z14, .ref a2, .ref z15])), (a2, .inr (4, [.int 0, .ref z16, .ref z17, .ref z18]))] := hD
  refine W.widen (k := 1) (n := 6) (Nat.le_of_ble_eq_true rfl) (Nat.le_of_ble_eq_true rfl) ?_
  refine W.eq (g2 := F0 m 12 ls [.ref q9]) rfl ?_
  refine lv_astore_n (lv' := [(3, .ref q9), (0, .ref a0), (1, .int p0), (2, .ref z19)]) hx hb dL_gain_12 rfl hl (by decide) rfl (fun ls hl => ?_)
  refine lv_iconst (v := 1) hx hb dL_gain_13 (by decide) ?_
  exact e_i hF hr (Nat.le_of_ble_eq_true rfl) (Nat.le_of_ble_eq_true rfl) hS (qg_end hS (fun _ => 0) rfl [] hP rfl d_nil) dL_gain_14

set_option maxHeartbeats 4000000 in
set_option maxRecDepth 100000 in
theorem c366_X11_gain (l : Launch) (a0 : Nat) (a1 : Nat) (z0 : Nat) (z1 : Nat) (z2 : Nat) (z3 : Nat) (z4 : Nat) (z5 : Nat) (z6 : Nat) (z7 : Nat) (z8 : Nat) (z9 : Nat) (z10 : Nat) (z11 : Nat) (z12 : Nat) (p0 : Int32) : CT l (.code yX11_gain cX11_gain 3 (some .int)) yX11_gain { frames := 2, cells := 0, slots := 0, locals := 43 } [.ref a0, .int p0] (fun y => [(a0, .inr (13, [.ref a1, .ref z0, .ref z1, .ref z2, .ref z3, .ref z4, .int 45, .ref z5, .ref z6, .ref z7, .int 0, .ref z8, .ref z9, .int 0, .int 0, .int 0, .int 0, .ref z10, .int 0, .null, .ref z11, .ref z12])), (a1, .inl (y 0, 3, .inl (fun _ => 0)))]) (fun y => [(a0, .inr (13, [.ref a1, .ref z0, .ref z1, .ref z2, .ref z3, .ref z4, .int 45, .ref z5, .ref z6, .ref z7, .int 0, .ref z8, .ref z9, .int 0, .int 0, .int 0, .int 0, .ref z10, .int 0, .null, .ref z11, .ref z12])), (a1, .inl (y 0, 3, .inl (fun _ => 0)))]) (fun u => some (.int 0)) (fun y u => [(a0, .inr (13, [.ref a1, .ref z0, .ref z1, .ref z2, .ref z3, .ref z4, .int 45, .ref z5, .ref z6, .ref z7, .int 0, .ref z8, .ref z9, .int 0, .int 0, .int 1, .int 0, .ref z10, .int 0, .null, .ref z11, .ref z12])), (a1, .inl (y 0, 3, .inl (fun _ => 0)))]) := by
  refine mkM (by decide) (Nat.le_of_ble_eq_true rfl) ?_
  intro p e s m args below meth c D y A ls hF hr hAe hP hD hS hl
  have hF : FX p e s m args meth c cX11_gain 3 RX11 "gain" D y A := hF
  obtain ⟨⟨hx, hb, hml, hown, hts⟩, hev, heh, hA, hlk, hnm⟩ := id hF
  have hK := hev.1
  have hP : va_P D vwCl [(a0, .inr (13, [.ref a1, .ref z0, .ref z1, .ref z2, .ref z3, .ref z4, .int 45, .ref z5, .ref z6, .ref z7, .int 0, .ref z8, .ref z9, .int 0, .int 0, .int 0, .int 0, .ref z10, .int 0, .null, .ref z11, .ref z12])), (a1, .inl (y 0, 3, .inl (fun _ => 0)))] s.heap := hP
  have hD : va_D A [(a0, .inr (13, [.ref a1, .ref z0, .ref z1, .ref z2, .ref z3, .ref z4, .int 45, .ref z5, .ref z6, .ref z7, .int 0, .ref z8, .ref z9, .int 0, .int 0, .int 0, .int 0, .ref z10, .int 0, .null, .ref z11, .ref z12])), (a1, .inl (y 0, 3, .inl (fun _ => 0)))] := by rw [← hAe]; exact hD.self
  have hl : lv_has ls 3 [(0, .ref a0), (1, .int p0)] := hl
  refine lv_aload_n hx hb dX11_gain_0 rfl (lv_at hl 0 rfl) ?_
  refine lv_iload_n hx hb dX11_gain_1 rfl (lv_at hl 1 rfl) ?_
  refine cV (l := l) (yM := yX11_isHouse) (C := RX11) (As := [.int p0]) (rest := []) (wr := [(a0, .inr (13, [.ref a1, .ref z0, .ref z1, .ref z2, .ref z3, .ref z4, .int 45, .ref z5, .ref z6, .ref z7, .int 0, .ref z8, .ref z9, .int 0, .int 0, .int 0, .int 0, .ref z10, .int 0, .null, .ref z11, .ref z12])), (a1, .inl (y 0, 3, .inl (fun _ => 0)))]) hF (c86_X11_isHouse l a0 a1 z0 z1 z2 z3 z4 z5 z6 z7 z8 z9 z10 z11 z12 p0) gv_RX11_135 1 (by decide +kernel) rfl ⟨(Nat.le_of_ble_eq_true rfl), (Nat.le_of_ble_eq_true rfl)⟩ hl.1 rfl (Nat.le_of_ble_eq_true rfl) dX11_gain_2 ⟨(Nat.le_of_ble_eq_true rfl), (Nat.le_of_ble_eq_true rfl)⟩ hP hD hS (pA hA hS) (fun _ h => h) [0, 1] [] [0, 1] rfl rfl rfl rfl rfl (by decide) 0 (ci := 13) rfl rfl rfl (fun u_1 H locs hP hD hS => ?_)
  have hP : va_P D vwCl [(a0, .inr (13, [.ref a1, .ref z0, .ref z1, .ref z2, .ref z3, .ref z4, .int 45, .ref z5, .ref z6, .ref z7, .int 0, .ref z8, .ref z9, .int 0, .int 0, .int 0, .int 0, .ref z10, .int 0, .null, .ref z11, .ref z12])), (a1, .inl (y 0, 3, .inl (fun _ => 0)))] H := hP
  have hD : va_D A [(a0, .inr (13, [.ref a1, .ref z0, .ref z1, .ref z2, .ref z3, .ref z4, .int 45, .ref z5, .ref z6, .ref z7, .int 0, .ref z8, .ref z9, .int 0, .int 0, .int 0, .int 0, .ref z10, .int 0, .null, .ref z11, .ref z12])), (a1, .inl (y 0, 3, .inl (fun _ => 0)))] := hD
  refine W.widen (k := 0) (n := 0) (Nat.le_of_ble_eq_true rfl) (Nat.le_of_ble_eq_true rfl) ?_
  refine W.eq (g2 := F0 m 5 ls [.int 0]) rfl ?_
  refine lv_istore_n (lv' := [(2, .int 0), (0, .ref a0), (1, .int p0)]) hx hb dX11_gain_5 rfl hl (by decide) rfl (fun ls hl => ?_)
  refine lv_aload_n hx hb dX11_gain_6 rfl (lv_at hl 1 rfl) ?_
  refine lv_iload_n hx hb dX11_gain_7 rfl (lv_at hl 0 rfl) ?_
  refine lv_if_ne (tgt := 15) hx hb dX11_gain_8 (by decide) (fun c => absurd (by decide) c) (fun _ => ?_)
  refine lv_iconst (v := 1) hx hb dX11_gain_11 (by decide) ?_
  refine lv_goto (tgt := 16) hx hb dX11_gain_12 (by decide) ?_
  refine lv_iload_n hx hb dX11_gain_16 rfl (lv_at hl 0 rfl) ?_
  refine lv_if_eq (tgt := 34) hx hb dX11_gain_17 (by decide) (fun _ => ?_) (fun c => absurd (by decide) c)
  refine lv_iconst (v := 0) hx hb dX11_gain_34 (by decide) ?_
  refine lv_iconst (v := 0) hx hb dX11_gain_35 (by decide) ?_
  refine cV (l := l) (yM := yX11_fails) (C := RX11) (As := [.int 1, .int 0, .int 0]) (rest := []) (wr := [(a1, .inl (y 0, 3, .inl (fun _ => 0)))]) hF (c67_X11_fails l a0 a1 z0 z1 z2 z3 z4 z5 z6 z7 z8 z9 z10 z11 z12) gv_RX11_128 3 (by decide +kernel) rfl ⟨(Nat.le_of_ble_eq_true rfl), (Nat.le_of_ble_eq_true rfl)⟩ hl.1 rfl (Nat.le_of_ble_eq_true rfl) dX11_gain_36 ⟨(Nat.le_of_ble_eq_true rfl), (Nat.le_of_ble_eq_true rfl)⟩ hP hD hS (va_free (wc := [(a0, .inr (13, [.ref a1, .ref z0, .ref z1, .ref z2, .ref z3, .ref z4, .int 45, .ref z5, .ref z6, .ref z7, .int 0, .ref z8, .ref z9, .int 0, .int 0, .int 0, .int 0, .ref z10, .int 0, .null, .ref z11, .ref z12]))]) hD hS hA [0] rfl) (fun _ h => h) [0] [0] [1] rfl rfl rfl rfl rfl (by decide) 0 (ci := 13) rfl rfl rfl (fun u_2 H locs hP hD hS => ?_)
  have hP : va_P D vwCl [(a1, .inl (y 0, 3, .inl (fun _ => 0))), (a0, .inr (13, [.ref a1, .ref z0, .ref z1, .ref z2, .ref z3, .ref z4, .int 45, .ref z5, .ref z6, .ref z7, .int 0, .ref z8, .ref z9, .int 0, .int 0, .int 1, .int 0, .ref z10, .int 0, .null, .ref z11, .ref z12]))] H := hP
  have hD : va_D A [(a1, .inl (y 0, 3, .inl (fun _ => 0))), (a0, .inr (13, [.ref a1, .ref z0, .ref z1, .ref z2, .ref z3, .ref z4, .int 45, .ref z5, .ref z6, .ref z7, .int 0, .ref z8, .ref z9, .int 0, .int 0, .int 1, .int 0, .ref z10, .int 0, .null, .ref z11, .ref z12]))] := hD
  refine W.widen (k := 0) (n := 0) (Nat.le_of_ble_eq_true rfl) (Nat.le_of_ble_eq_true rfl) ?_
  refine W.eq (g2 := F0 m 39 ls [.int 1]) rfl ?_
  refine lv_if_eq (tgt := 46) hx hb dX11_gain_39 (by decide) (fun c => absurd c (by decide)) (fun _ => ?_)
  refine lv_iconst (v := 0) hx hb dX11_gain_42 (by decide) ?_
  refine lv_goto (tgt := 51) hx hb dX11_gain_43 (by decide) ?_
  exact e_i hF hr (Nat.le_of_ble_eq_true rfl) (Nat.le_of_ble_eq_true rfl) hS (qg_end hS (fun _ => 0) rfl [1, 0] hP rfl (hD.sub [1, 0] rfl rfl)) dX11_gain_51

set_option maxHeartbeats 4000000 in
set_option maxRecDepth 100000 in
theorem c367_X10_cutFor (l : Launch) (hlt : l.stackTraces = false) (a0 : Nat) (a1 : Nat) (a2 : Nat) (z0 : Nat) (z1 : Nat) (z2 : Nat) (z3 : Nat) (z4 : Nat) (z5 : Nat) (z6 : Nat) (z7 : Nat) (z8 : Nat) (z9 : Nat) (z10 : Nat) (z11 : Nat) (z12 : Nat) (z13 : Nat) (z14 : Nat) (z15 : Nat) (z16 : Nat) (z17 : Nat) (z18 : Nat) (p0 : Int32) : CX l (.code yX10_cutFor cX10_cutFor 6 (some .int)) yX10_cutFor { frames := 8, cells := 1, slots := 6, locals := 132 } [.ref a0, .int p0] (fun y => [(a0, .inr (12, [.ref a1, .ref z0, .ref z1, .ref z2, .ref z3, .ref z4, .ref z5, .ref z6, .ref z7, .ref z8, .ref z9, .ref z10, .ref z11, .ref z12, .ref z13])), (a1, .inr (5, [.ref z14, .ref a2, .ref z15])), (a2, .inr (4, [.int 0, .ref z16, .ref z17, .ref z18]))]) (fun _ => []) "java/util/NoSuchElementException" := by
  refine mkX (by decide) (Nat.le_of_ble_eq_true rfl) ?_
  intro p e s m args below meth c D y A ls hF htb hAe hP hD hS hl
  have hF : FX p e s m args meth c cX10_cutFor 6 RX10 "cutFor" D y A := hF
  obtain ⟨⟨hx, hb, hml, hown, hts⟩, hev, heh, hA, hlk, hnm⟩ := id hF
  have hK := hev.1
  have hP : va_P D vwCl [(a0, .inr (12, [.ref a1, .ref z0, .ref z1, .ref z2, .ref z3, .ref z4, .ref z5, .ref z6, .ref z7, .ref z8, .ref z9, .ref z10, .ref z11, .ref z12, .ref z13])), (a1, .inr (5, [.ref z14, .ref a2, .ref z15])), (a2, .inr (4, [.int 0, .ref z16, .ref z17, .ref z18]))] s.heap := hP
  have hD : va_D (fun _ => True) [(a0, .inr (12, [.ref a1, .ref z0, .ref z1, .ref z2, .ref z3, .ref z4, .ref z5, .ref z6, .ref z7, .ref z8, .ref z9, .ref z10, .ref z11, .ref z12, .ref z13])), (a1, .inr (5, [.ref z14, .ref a2, .ref z15])), (a2, .inr (4, [.int 0, .ref z16, .ref z17, .ref z18]))] := hD
  have hl : lv_has ls 6 [(0, .ref a0), (1, .int p0)] := hl
  refine lv_aload_n hx hb dX10_cutFor_0 rfl (lv_at hl 0 rfl) ?_
  refine lv_iload_n hx hb dX10_cutFor_1 rfl (lv_at hl 1 rfl) ?_
  exact xV (l := l) (yM := yX10_needHouseOfOnePlace) (C := RX10) (As := [.int p0]) (rest := []) hF htb (c363_X10_needHouseOfOnePlace l hlt a0 a1 a2 z0 z1 z2 z3 z4 z5 z6 z7 z8 z9 z10 z11 z12 z13 z14 z15 z16 z17 z18 p0) gv_RX10_365 1 (by decide +kernel) rfl ⟨(Nat.le_of_ble_eq_true rfl), (Nat.le_of_ble_eq_true rfl)⟩ hl.1 rfl (Nat.le_of_ble_eq_true rfl) dX10_cutFor_2 ⟨(Nat.le_of_ble_eq_true rfl), (Nat.le_of_ble_eq_true rfl)⟩ hP hD hS (pA hA hS) [0, 1, 2] rfl rfl 0 (ci := 12) rfl rfl rfl ⟨(Nat.le_of_ble_eq_true rfl), (Nat.le_of_ble_eq_true rfl)⟩

set_option maxHeartbeats 4000000 in
set_option maxRecDepth 100000 in
theorem c367_L_cutFor (l : Launch) (hlt : l.stackTraces = false) (a0 : Nat) (a1 : Nat) (a2 : Nat) (z0 : Nat) (z1 : Nat) (z2 : Nat) (z3 : Nat) (z4 : Nat) (z5 : Nat) (z6 : Nat) (z7 : Nat) (z8 : Nat) (z9 : Nat) (z10 : Nat) (z11 : Nat) (z12 : Nat) (z13 : Nat) (z14 : Nat) (z15 : Nat) (z16 : Nat) (z17 : Nat) (z18 : Nat) (p0 : Int32) (z19 : Nat) : CT l (.codeWith yL_cutFor cL_cutFor 4 (some .int) [(0, 9, 12, 24), (0, 9, 15, 61)]) yL_cutFor { frames := 9, cells := 1, slots := 6, locals := 157 } [.ref a0, .int p0, .ref z19] (fun y => [(a0, .inr (12, [.ref a1, .ref z0, .ref z1, .ref z2, .ref z3, .ref z4, .ref z5, .ref z6, .ref z7, .ref z8, .ref z9, .ref z10, .ref z11, .ref z12, .ref z13])), (a1, .inr (5, [.ref z14, .ref a2, .ref z15])), (a2, .inr (4, [.int 0, .ref z16, .ref z17, .ref z18]))]) (fun _ => []) (fun u => some (.int 1)) (fun y u => []) := by
  refine mkH (by decide) (Nat.le_of_ble_eq_true rfl) ?_
  intro p e s m args below meth c D y A ls hF htab hr hAe hP hD hS hl
  have hF : FX p e s m args meth c cL_cutFor 4 RL "cutFor" D y A := hF
  obtain ⟨⟨hx, hb, hml, hown, hts⟩, hev, heh, hA, hlk, hnm⟩ := id hF
  have hK := hev.1
  have hP : va_P D vwCl [(a0, .inr (12, [.ref a1, .ref z0, .ref z1, .ref z2, .ref z3, .ref z4, .ref z5, .ref z6, .ref z7, .ref z8, .ref z9, .ref z10, .ref z11, .ref z12, .ref z13])), (a1, .inr (5, [.ref z14, .ref a2, .ref z15])), (a2, .inr (4, [.int 0, .ref z16, .ref z17, .ref z18]))] s.heap := hP
  have hD : va_D (fun _ => True) [(a0, .inr (12, [.ref a1, .ref z0, .ref z1, .ref z2, .ref z3, .ref z4, .ref z5, .ref z6, .ref z7, .ref z8, .ref z9, .ref z10, .ref z11, .ref z12, .ref z13])), (a1, .inr (5, [.ref z14, .ref a2, .ref z15])), (a2, .inr (4, [.int 0, .ref z16, .ref z17, .ref z18]))] := hD
  have hl : lv_has ls 4 [(0, .ref a0), (1, .int p0), (2, .ref z19)] := hl
  refine lv_aload_n hx hb dL_cutFor_0 rfl (lv_at hl 2 rfl) ?_
  refine lv_iconst (v := 0) hx hb dL_cutFor_1 (by decide) ?_
  refine lv_aload_n hx hb dL_cutFor_2 rfl (lv_at hl 0 rfl) ?_
  refine lv_iload_n hx hb dL_cutFor_3 rfl (lv_at hl 1 rfl) ?_
  refine hV (wr := [(a0, .inr (12, [.ref a1, .ref z0, .ref z1, .ref z2, .ref z3, .ref z4, .ref z5, .ref z6, .ref z7, .ref z8, .ref z9, .ref z10, .ref z11, .ref z12, .ref z13])), (a1, .inr (5, [.ref z14, .ref a2, .ref z15])), (a2, .inr (4, [.int 0, .ref z16, .ref z17, .ref z18]))]) (name := "java/util/NoSuchElementException") (E0 := "java/util/NoSuchElementException") (l := l) (yM := yX10_cutFor) (C := RX10) (As := [.int p0]) (rest := [.int 0, .ref z19]) hF (c367_X10_cutFor l hlt a0 a1 a2 z0 z1 z2 z3 z4 z5 z6 z7 z8 z9 z10 z11 z12 z13 z14 z15 z16 z17 z18 p0) gv_RL_125 1 (by decide +kernel) rfl ⟨(Nat.le_of_ble_eq_true rfl), (Nat.le_of_ble_eq_true rfl)⟩ hl.1 rfl (Nat.le_of_ble_eq_true rfl) dL_cutFor_4 ⟨(Nat.le_of_ble_eq_true rfl), (Nat.le_of_ble_eq_true rfl)⟩ hP hD hS (pA hA hS) (fun _ _ => trivial) [0, 1, 2] [] [0, 1, 2] rfl rfl rfl rfl rfl (by decide) 0 (ci := 12) rfl rfl rfl [] ⟨0, 9, 12, 24⟩ [⟨0, 9, 15, 61⟩] htab (fun z hz => nomatch hz) (by decide) (by decide) wd_261 (by decide) (fun q9 H locs hP hD hS => ?_)
  have hP : va_P D vwCl [(a0, .inr (12, [.ref a1, .ref z0, .ref z1, .ref z2, .ref z3, .ref z4, .ref z5, .ref z6, .ref z7, .ref z8, .ref z9, .ref z10, .ref z11, .ref z12, .ref z13])), (a1, .inr (5, [.ref z14, .ref a2, .ref z15])), (a2, .inr (4, [.int 0, .ref z16, .ref z17, .ref z18]))] H := hP
  have hD : va_D (fun _ => True) [(a0, .inr (12, [.ref a1, .ref z0, .ref z1, .ref z2, .ref z3, .ref z4, .ref z5, .ref z6, .ref z7, .ref z8, .ref z9, .ref z10, .ref z11, .ref z12, .ref z13])), (a1, .inr (5, [.ref z14, .ref a2, .ref z15])), (a2, .inr (4, [.int 0, .ref z16, .ref z17, .ref z18]))] := hD
  refine W.widen (k := 1) (n := 6) (Nat.le_of_ble_eq_true rfl) (Nat.le_of_ble_eq_true rfl) ?_
  refine W.eq (g2 := F0 m 12 ls [.ref q9]) rfl ?_
  refine lv_astore_n (lv' := [(3, .ref q9), (0, .ref a0), (1, .int p0), (2, .ref z19)]) hx hb dL_cutFor_12 rfl hl (by decide) rfl (fun ls hl => ?_)
  refine lv_iconst (v := 1) hx hb dL_cutFor_13 (by decide) ?_
  exact e_i hF hr (Nat.le_of_ble_eq_true rfl) (Nat.le_of_ble_eq_true rfl) hS (qg_end hS (fun _ => 0) rfl [] hP rfl d_nil) dL_cutFor_14

set_option maxHeartbeats 4000000 in
set_option maxRecDepth 100000 in
theorem c369_X11_cutFor (l : Launch) (a0 : Nat) (a1 : Nat) (z0 : Nat) (z1 : Nat) (z2 : Nat) (z3 : Nat) (z4 : Nat) (z5 : Nat) (z6 : Nat) (z7 : Nat) (z8 : Nat) (z9 : Nat) (z10 : Nat) (z11 : Nat) (z12 : Nat) (p0 : Int32) : CT l (.code yX11_cutFor cX11_cutFor 5 (some .int)) yX11_cutFor { frames := 2, cells := 0, slots := 0, locals := 43 } [.ref a0, .int p0] (fun y => [(a0, .inr (13, [.ref a1, .ref z0, .ref z1, .ref z2, .ref z3, .ref z4, .int 45, .ref z5, .ref z6, .ref z7, .int 0, .ref z8, .ref z9, .int 0, .int 0, .int 0, .int 0, .ref z10, .int 0, .null, .ref z11, .ref z12])), (a1, .inl (y 0, 3, .inl (fun _ => 0)))]) (fun y => [(a0, .inr (13, [.ref a1, .ref z0, .ref z1, .ref z2, .ref z3, .ref z4, .int 45, .ref z5, .ref z6, .ref z7, .int 0, .ref z8, .ref z9, .int 0, .int 0, .int 0, .int 0, .ref z10, .int 0, .null, .ref z11, .ref z12])), (a1, .inl (y 0, 3, .inl (fun _ => 0)))]) (fun u => some (.int 0)) (fun y u => [(a0, .inr (13, [.ref a1, .ref z0, .ref z1, .ref z2, .ref z3, .ref z4, .int 45, .ref z5, .ref z6, .ref z7, .int 0, .ref z8, .ref z9, .int 0, .int 0, .int 1, .int 0, .ref z10, .int 0, .null, .ref z11, .ref z12])), (a1, .inl (y 0, 3, .inl (fun _ => 0)))]) := by
  refine mkM (by decide) (Nat.le_of_ble_eq_true rfl) ?_
  intro p e s m args below meth c D y A ls hF hr hAe hP hD hS hl
  have hF : FX p e s m args meth c cX11_cutFor 5 RX11 "cutFor" D y A := hF
  obtain ⟨⟨hx, hb, hml, hown, hts⟩, hev, heh, hA, hlk, hnm⟩ := id hF
  have hK := hev.1
  have hP : va_P D vwCl [(a0, .inr (13, [.ref a1, .ref z0, .ref z1, .ref z2, .ref z3, .ref z4, .int 45, .ref z5, .ref z6, .ref z7, .int 0, .ref z8, .ref z9, .int 0, .int 0, .int 0, .int 0, .ref z10, .int 0, .null, .ref z11, .ref z12])), (a1, .inl (y 0, 3, .inl (fun _ => 0)))] s.heap := hP
  have hD : va_D A [(a0, .inr (13, [.ref a1, .ref z0, .ref z1, .ref z2, .ref z3, .ref z4, .int 45, .ref z5, .ref z6, .ref z7, .int 0, .ref z8, .ref z9, .int 0, .int 0, .int 0, .int 0, .ref z10, .int 0, .null, .ref z11, .ref z12])), (a1, .inl (y 0, 3, .inl (fun _ => 0)))] := by rw [← hAe]; exact hD.self
  have hl : lv_has ls 5 [(0, .ref a0), (1, .int p0)] := hl
  refine lv_aload_n hx hb dX11_cutFor_0 rfl (lv_at hl 0 rfl) ?_
  refine lv_iload_n hx hb dX11_cutFor_1 rfl (lv_at hl 1 rfl) ?_
  refine cV (l := l) (yM := yX11_isHouse) (C := RX11) (As := [.int p0]) (rest := []) (wr := [(a0, .inr (13, [.ref a1, .ref z0, .ref z1, .ref z2, .ref z3, .ref z4, .int 45, .ref z5, .ref z6, .ref z7, .int 0, .ref z8, .ref z9, .int 0, .int 0, .int 0, .int 0, .ref z10, .int 0, .null, .ref z11, .ref z12])), (a1, .inl (y 0, 3, .inl (fun _ => 0)))]) hF (c86_X11_isHouse l a0 a1 z0 z1 z2 z3 z4 z5 z6 z7 z8 z9 z10 z11 z12 p0) gv_RX11_135 1 (by decide +kernel) rfl ⟨(Nat.le_of_ble_eq_true rfl), (Nat.le_of_ble_eq_true rfl)⟩ hl.1 rfl (Nat.le_of_ble_eq_true rfl) dX11_cutFor_2 ⟨(Nat.le_of_ble_eq_true rfl), (Nat.le_of_ble_eq_true rfl)⟩ hP hD hS (pA hA hS) (fun _ h => h) [0, 1] [] [0, 1] rfl rfl rfl rfl rfl (by decide) 0 (ci := 13) rfl rfl rfl (fun u_1 H locs hP hD hS => ?_)
  have hP : va_P D vwCl [(a0, .inr (13, [.ref a1, .ref z0, .ref z1, .ref z2, .ref z3, .ref z4, .int 45, .ref z5, .ref z6, .ref z7, .int 0, .ref z8, .ref z9, .int 0, .int 0, .int 0, .int 0, .ref z10, .int 0, .null, .ref z11, .ref z12])), (a1, .inl (y 0, 3, .inl (fun _ => 0)))] H := hP
  have hD : va_D A [(a0, .inr (13, [.ref a1, .ref z0, .ref z1, .ref z2, .ref z3, .ref z4, .int 45, .ref z5, .ref z6, .ref z7, .int 0, .ref z8, .ref z9, .int 0, .int 0, .int 0, .int 0, .ref z10, .int 0, .null, .ref z11, .ref z12])), (a1, .inl (y 0, 3, .inl (fun _ => 0)))] := hD
  refine W.widen (k := 0) (n := 0) (Nat.le_of_ble_eq_true rfl) (Nat.le_of_ble_eq_true rfl) ?_
  refine W.eq (g2 := F0 m 5 ls [.int 0]) rfl ?_
  refine lv_istore_n (lv' := [(2, .int 0), (0, .ref a0), (1, .int p0)]) hx hb dX11_cutFor_5 rfl hl (by decide) rfl (fun ls hl => ?_)
  refine lv_aload_n hx hb dX11_cutFor_6 rfl (lv_at hl 1 rfl) ?_
  refine lv_iload_n hx hb dX11_cutFor_7 rfl (lv_at hl 0 rfl) ?_
  refine lv_if_ne (tgt := 15) hx hb dX11_cutFor_8 (by decide) (fun c => absurd (by decide) c) (fun _ => ?_)
  refine lv_iconst (v := 1) hx hb dX11_cutFor_11 (by decide) ?_
  refine lv_goto (tgt := 16) hx hb dX11_cutFor_12 (by decide) ?_
  refine lv_iload_n hx hb dX11_cutFor_16 rfl (lv_at hl 0 rfl) ?_
  refine lv_if_eq (tgt := 34) hx hb dX11_cutFor_17 (by decide) (fun _ => ?_) (fun c => absurd (by decide) c)
  refine lv_iconst (v := 0) hx hb dX11_cutFor_34 (by decide) ?_
  refine lv_iconst (v := 0) hx hb dX11_cutFor_35 (by decide) ?_
  refine cV (l := l) (yM := yX11_fails) (C := RX11) (As := [.int 1, .int 0, .int 0]) (rest := []) (wr := [(a1, .inl (y 0, 3, .inl (fun _ => 0)))]) hF (c67_X11_fails l a0 a1 z0 z1 z2 z3 z4 z5 z6 z7 z8 z9 z10 z11 z12) gv_RX11_128 3 (by decide +kernel) rfl ⟨(Nat.le_of_ble_eq_true rfl), (Nat.le_of_ble_eq_true rfl)⟩ hl.1 rfl (Nat.le_of_ble_eq_true rfl) dX11_cutFor_36 ⟨(Nat.le_of_ble_eq_true rfl), (Nat.le_of_ble_eq_true rfl)⟩ hP hD hS (va_free (wc := [(a0, .inr (13, [.ref a1, .ref z0, .ref z1, .ref z2, .ref z3, .ref z4, .int 45, .ref z5, .ref z6, .ref z7, .int 0, .ref z8, .ref z9, .int 0, .int 0, .int 0, .int 0, .ref z10, .int 0, .null, .ref z11, .ref z12]))]) hD hS hA [0] rfl) (fun _ h => h) [0] [0] [1] rfl rfl rfl rfl rfl (by decide) 0 (ci := 13) rfl rfl rfl (fun u_2 H locs hP hD hS => ?_)
  have hP : va_P D vwCl [(a1, .inl (y 0, 3, .inl (fun _ => 0))), (a0, .inr (13, [.ref a1, .ref z0, .ref z1, .ref z2, .ref z3, .ref z4, .int 45, .ref z5, .ref z6, .ref z7, .int 0, .ref z8, .ref z9, .int 0, .int 0, .int 1, .int 0, .ref z10, .int 0, .null, .ref z11, .ref z12]))] H := hP
  have hD : va_D A [(a1, .inl (y 0, 3, .inl (fun _ => 0))), (a0, .inr (13, [.ref a1, .ref z0, .ref z1, .ref z2, .ref z3, .ref z4, .int 45, .ref z5, .ref z6, .ref z7, .int 0, .ref z8, .ref z9, .int 0, .int 0, .int 1, .int 0, .ref z10, .int 0, .null, .ref z11, .ref z12]))] := hD
  refine W.widen (k := 0) (n := 0) (Nat.le_of_ble_eq_true rfl) (Nat.le_of_ble_eq_true rfl) ?_
  refine W.eq (g2 := F0 m 39 ls [.int 1]) rfl ?_
  refine lv_if_eq (tgt := 44) hx hb dX11_cutFor_39 (by decide) (fun c => absurd c (by decide)) (fun _ => ?_)
  refine lv_iconst (v := 0) hx hb dX11_cutFor_42 (by decide) ?_
  exact e_i hF hr (Nat.le_of_ble_eq_true rfl) (Nat.le_of_ble_eq_true rfl) hS (qg_end hS (fun _ => 0) rfl [1, 0] hP rfl (hD.sub [1, 0] rfl rfl)) dX11_cutFor_43

set_option maxHeartbeats 4000000 in
set_option maxRecDepth 100000 in
theorem c370_X10_lie (l : Launch) (hlt : l.stackTraces = false) (a0 : Nat) (a1 : Nat) (a2 : Nat) (z0 : Nat) (z1 : Nat) (z2 : Nat) (z3 : Nat) (z4 : Nat) (z5 : Nat) (z6 : Nat) (z7 : Nat) (z8 : Nat) (z9 : Nat) (z10 : Nat) (z11 : Nat) (z12 : Nat) (z13 : Nat) (z14 : Nat) (z15 : Nat) (z16 : Nat) (z17 : Nat) (z18 : Nat) (p0 : Int32) : CX l (.code yX10_lie cX10_lie 5 (some .int)) yX10_lie { frames := 7, cells := 1, slots := 6, locals := 111 } [.ref a0, .int p0] (fun y => [(a0, .inr (12, [.ref a1, .ref z0, .ref z1, .ref z2, .ref z3, .ref z4, .ref z5, .ref z6, .ref z7, .ref z8, .ref z9, .ref z10, .ref z11, .ref z12, .ref z13])), (a1, .inr (5, [.ref a2, .ref z14, .ref z15])), (a2, .inr (4, [.int 0, .ref z16, .ref z17, .ref z18]))]) (fun _ => []) "java/util/NoSuchElementException" := by
  refine mkX (by decide) (Nat.le_of_ble_eq_true rfl) ?_
  intro p e s m args below meth c D y A ls hF htb hAe hP hD hS hl
  have hF : FX p e s m args meth c cX10_lie 5 RX10 "lie" D y A := hF
  obtain ⟨⟨hx, hb, hml, hown, hts⟩, hev, heh, hA, hlk, hnm⟩ := id hF
  have hK := hev.1
  have hP : va_P D vwCl [(a0, .inr (12, [.ref a1, .ref z0, .ref z1, .ref z2, .ref z3, .ref z4, .ref z5, .ref z6, .ref z7, .ref z8, .ref z9, .ref z10, .ref z11, .ref z12, .ref z13])), (a1, .inr (5, [.ref a2, .ref z14, .ref z15])), (a2, .inr (4, [.int 0, .ref z16, .ref z17, .ref z18]))] s.heap := hP
  have hD : va_D (fun _ => True) [(a0, .inr (12, [.ref a1, .ref z0, .ref z1, .ref z2, .ref z3, .ref z4, .ref z5, .ref z6, .ref z7, .ref z8, .ref z9, .ref z10, .ref z11, .ref z12, .ref z13])), (a1, .inr (5, [.ref a2, .ref z14, .ref z15])), (a2, .inr (4, [.int 0, .ref z16, .ref z17, .ref z18]))] := hD
  have hl : lv_has ls 5 [(0, .ref a0), (1, .int p0)] := hl
  refine lv_aload_n hx hb dX10_lie_0 rfl (lv_at hl 0 rfl) ?_
  refine lv_iload_n hx hb dX10_lie_1 rfl (lv_at hl 1 rfl) ?_
  exact xV (l := l) (yM := yX10_needPerson) (C := RX10) (As := [.int p0]) (rest := []) hF htb (c249_X10_needPerson l hlt a0 a1 a2 z0 z1 z2 z3 z4 z5 z6 z7 z8 z9 z10 z11 z12 z13 z14 z15 z16 z17 z18 p0) gv_RX10_254 1 (by decide +kernel) rfl ⟨(Nat.le_of_ble_eq_true rfl), (Nat.le_of_ble_eq_true rfl)⟩ hl.1 rfl (Nat.le_of_ble_eq_true rfl) dX10_lie_2 ⟨(Nat.le_of_ble_eq_true rfl), (Nat.le_of_ble_eq_true rfl)⟩ hP hD hS (pA hA hS) [0, 1, 2] rfl rfl 0 (ci := 12) rfl rfl rfl ⟨(Nat.le_of_ble_eq_true rfl), (Nat.le_of_ble_eq_true rfl)⟩

set_option maxHeartbeats 4000000 in
set_option maxRecDepth 100000 in
theorem c370_L_lie (l : Launch) (hlt : l.stackTraces = false) (a0 : Nat) (a1 : Nat) (a2 : Nat) (z0 : Nat) (z1 : Nat) (z2 : Nat) (z3 : Nat) (z4 : Nat) (z5 : Nat) (z6 : Nat) (z7 : Nat) (z8 : Nat) (z9 : Nat) (z10 : Nat) (z11 : Nat) (z12 : Nat) (z13 : Nat) (z14 : Nat) (z15 : Nat) (z16 : Nat) (z17 : Nat) (z18 : Nat) (p0 : Int32) (z19 : Nat) : CT l (.codeWith yL_lie cL_lie 4 (some .int) [(0, 9, 12, 24)]) yL_lie { frames := 8, cells := 1, slots := 6, locals := 135 } [.ref a0, .int p0, .ref z19] (fun y => [(a0, .inr (12, [.ref a1, .ref z0, .ref z1, .ref z2, .ref z3, .ref z4, .ref z5, .ref z6, .ref z7, .ref z8, .ref z9, .ref z10, .ref z11, .ref z12, .ref z13])), (a1, .inr (5, [.ref a2, .ref z14, .ref z15])), (a2, .inr (4, [.int 0, .ref z16, .ref z17, .ref z18]))]) (fun _ => []) (fun u => some (.int 1)) (fun y u => []) := by
  refine mkH (by decide) (Nat.le_of_ble_eq_true rfl) ?_
  intro p e s m args below meth c D y A ls hF htab hr hAe hP hD hS hl
  have hF : FX p e s m args meth c cL_lie 4 RL "lie" D y A := hF
  obtain ⟨⟨hx, hb, hml, hown, hts⟩, hev, heh, hA, hlk, hnm⟩ := id hF
  have hK := hev.1
  have hP : va_P D vwCl [(a0, .inr (12, [.ref a1, .ref z0, .ref z1, .ref z2, .ref z3, .ref z4, .ref z5, .ref z6, .ref z7, .ref z8, .ref z9, .ref z10, .ref z11, .ref z12, .ref z13])), (a1, .inr (5, [.ref a2, .ref z14, .ref z15])), (a2, .inr (4, [.int 0, .ref z16, .ref z17, .ref z18]))] s.heap := hP
  have hD : va_D (fun _ => True) [(a0, .inr (12, [.ref a1, .ref z0, .ref z1, .ref z2, .ref z3, .ref z4, .ref z5, .ref z6, .ref z7, .ref z8, .ref z9, .ref z10, .ref z11, .ref z12, .ref z13])), (a1, .inr (5, [.ref a2, .ref z14, .ref z15])), (a2, .inr (4, [.int 0, .ref z16, .ref z17, .ref z18]))] := hD
  have hl : lv_has ls 4 [(0, .ref a0), (1, .int p0), (2, .ref z19)] := hl
  refine lv_aload_n hx hb dL_lie_0 rfl (lv_at hl 2 rfl) ?_
  refine lv_iconst (v := 0) hx hb dL_lie_1 (by decide) ?_
  refine lv_aload_n hx hb dL_lie_2 rfl (lv_at hl 0 rfl) ?_
  refine lv_iload_n hx hb dL_lie_3 rfl (lv_at hl 1 rfl) ?_
  refine hV (wr := [(a0, .inr (12, [.ref a1, .ref z0, .ref z1, .ref z2, .ref z3, .ref z4, .ref z5, .ref z6, .ref z7, .ref z8, .ref z9, .ref z10, .ref z11, .ref z12, .ref z13])), (a1, .inr (5, [.ref a2, .ref z14, .ref z15])), (a2, .inr (4, [.int 0, .ref z16, .ref z17, .ref z18]))]) (name := "java/util/NoSuchElementException") (E0 := "java/util/NoSuchElementException") (l := l) (yM := yX10_lie) (C := RX10) (As := [.int p0]) (rest := [.int 0, .ref z19]) hF (c370_X10_lie l hlt a0 a1 a2 z0 z1 z2 z3 z4 z5 z6 z7 z8 z9 z10 z11 z12 z13 z14 z15 z16 z17 z18 p0) gv_RL_128 1 (by decide +kernel) rfl ⟨(Nat.le_of_ble_eq_true rfl), (Nat.le_of_ble_eq_true rfl)⟩ hl.1 rfl (Nat.le_of_ble_eq_true rfl) dL_lie_4 ⟨(Nat.le_of_ble_eq_true rfl), (Nat.le_of_ble_eq_true rfl)⟩ hP hD hS (pA hA hS) (fun _ _ => trivial) [0, 1, 2] [] [0, 1, 2] rfl rfl rfl rfl rfl (by decide) 0 (ci := 12) rfl rfl rfl [] ⟨0, 9, 12, 24⟩ [] htab (fun z hz => nomatch hz) (by decide) (by decide) wd_261 (by decide) (fun q9 H locs hP hD hS => ?_)
  have hP : va_P D vwCl [(a0, .inr (12, [.ref a1, .ref z0, .ref z1, .ref z2, .ref z3, .ref z4, .ref z5, .ref z6, .ref z7, .ref z8, .ref z9, .ref z10, .ref z11, .ref z12, .ref z13])), (a1, .inr (5, [.ref a2, .ref z14, .ref z15])), (a2, .inr (4, [.int 0, .ref z16, .ref z17, .ref z18]))] H := hP
  have hD : va_D (fun _ => True) [(a0, .inr (12, [.ref a1, .ref z0, .ref z1, .ref z2, .ref z3, .ref z4, .ref z5, .ref z6, .ref z7, .ref z8, .ref z9, .ref z10, .ref z11, .ref z12, .ref z13])), (a1, .inr (5, [.ref a2, .ref z14, .ref z15])), (a2, .inr (4, [.int 0, .ref z16, .ref z17, .ref z18]))] := hD
  refine W.widen (k := 1) (n := 6) (Nat.le_of_ble_eq_true rfl) (Nat.le_of_ble_eq_true rfl) ?_
  refine W.eq (g2 := F0 m 12 ls [.ref q9]) rfl ?_
  refine lv_astore_n (lv' := [(3, .ref q9), (0, .ref a0), (1, .int p0), (2, .ref z19)]) hx hb dL_lie_12 rfl hl (by decide) rfl (fun ls hl => ?_)
  refine lv_iconst (v := 1) hx hb dL_lie_13 (by decide) ?_
  exact e_i hF hr (Nat.le_of_ble_eq_true rfl) (Nat.le_of_ble_eq_true rfl) hS (qg_end hS (fun _ => 0) rfl [] hP rfl d_nil) dL_lie_14

set_option maxHeartbeats 4000000 in
set_option maxRecDepth 100000 in
theorem c372_X11_lie (l : Launch) (a0 : Nat) (a1 : Nat) (z0 : Nat) (z1 : Nat) (z2 : Nat) (z3 : Nat) (z4 : Nat) (z5 : Nat) (z6 : Nat) (z7 : Nat) (z8 : Nat) (z9 : Nat) (z10 : Nat) (z11 : Nat) (z12 : Nat) (p0 : Int32) : CT l (.code yX11_lie cX11_lie 8 (some .int)) yX11_lie { frames := 2, cells := 0, slots := 0, locals := 43 } [.ref a0, .int p0] (fun y => [(a0, .inr (13, [.ref a1, .ref z0, .ref z1, .ref z2, .ref z3, .ref z4, .int 45, .ref z5, .ref z6, .ref z7, .int 0, .ref z8, .ref z9, .int 0, .int 0, .int 0, .int 0, .ref z10, .int 0, .null, .ref z11, .ref z12])), (a1, .inl (y 0, 3, .inl (fun _ => 0)))]) (fun y => [(a0, .inr (13, [.ref a1, .ref z0, .ref z1, .ref z2, .ref z3, .ref z4, .int 45, .ref z5, .ref z6, .ref z7, .int 0, .ref z8, .ref z9, .int 0, .int 0, .int 0, .int 0, .ref z10, .int 0, .null, .ref z11, .ref z12])), (a1, .inl (y 0, 3, .inl (fun _ => 0)))]) (fun u => some (.int 0)) (fun y u => [(a0, .inr (13, [.ref a1, .ref z0, .ref z1, .ref z2, .ref z3, .ref z4, .int 45, .ref z5, .ref z6, .ref z7, .int 0, .ref z8, .ref z9, .int 0, .int 0, .int 1, .int 0, .ref z10, .int 0, .null, .ref z11, .ref z12])), (a1, .inl (y 0, 3, .inl (fun _ => 0)))]) := by
  refine mkM (by decide) (Nat.le_of_ble_eq_true rfl) ?_
  intro p e s m args below meth c D y A ls hF hr hAe hP hD hS hl
  have hF : FX p e s m args meth c cX11_lie 8 RX11 "lie" D y A := hF
  obtain ⟨⟨hx, hb, hml, hown, hts⟩, hev, heh, hA, hlk, hnm⟩ := id hF
  have hK := hev.1
  have hP : va_P D vwCl [(a0, .inr (13, [.ref a1, .ref z0, .ref z1, .ref z2, .ref z3, .ref z4, .int 45, .ref z5, .ref z6, .ref z7, .int 0, .ref z8, .ref z9, .int 0, .int 0, .int 0, .int 0, .ref z10, .int 0, .null, .ref z11, .ref z12])), (a1, .inl (y 0, 3, .inl (fun _ => 0)))] s.heap := hP
  have hD : va_D A [(a0, .inr (13, [.ref a1, .ref z0, .ref z1, .ref z2, .ref z3, .ref z4, .int 45, .ref z5, .ref z6, .ref z7, .int 0, .ref z8, .ref z9, .int 0, .int 0, .int 0, .int 0, .ref z10, .int 0, .null, .ref z11, .ref z12])), (a1, .inl (y 0, 3, .inl (fun _ => 0)))] := by rw [← hAe]; exact hD.self
  have hl : lv_has ls 8 [(0, .ref a0), (1, .int p0)] := hl
  refine lv_aload_n hx hb dX11_lie_0 rfl (lv_at hl 0 rfl) ?_
  refine lv_aload_n hx hb dX11_lie_1 rfl (lv_at hl 0 rfl) ?_
  refine lv_iload_n hx hb dX11_lie_2 rfl (lv_at hl 1 rfl) ?_
  refine cV (l := l) (yM := yX11_isPerson) (C := RX11) (As := [.int p0]) (rest := [.ref a0]) (wr := [(a0, .inr (13, [.ref a1, .ref z0, .ref z1, .ref z2, .ref z3, .ref z4, .int 45, .ref z5, .ref z6, .ref z7, .int 0, .ref z8, .ref z9, .int 0, .int 0, .int 0, .int 0, .ref z10, .int 0, .null, .ref z11, .ref z12])), (a1, .inl (y 0, 3, .inl (fun _ => 0)))]) hF (c252_X11_isPerson l a0 a1 z0 z1 z2 z3 z4 z5 z6 z7 z8 z9 z10 z11 z12 p0) gv_RX11_176 1 (by decide +kernel) rfl ⟨(Nat.le_of_ble_eq_true rfl), (Nat.le_of_ble_eq_true rfl)⟩ hl.1 rfl (Nat.le_of_ble_eq_true rfl) dX11_lie_3 ⟨(Nat.le_of_ble_eq_true rfl), (Nat.le_of_ble_eq_true rfl)⟩ hP hD hS (pA hA hS) (fun _ h => h) [0, 1] [] [0, 1] rfl rfl rfl rfl rfl (by decide) 0 (ci := 13) rfl rfl rfl (fun u_1 H locs hP hD hS => ?_)
  have hP : va_P D vwCl [(a0, .inr (13, [.ref a1, .ref z0, .ref z1, .ref z2, .ref z3, .ref z4, .int 45, .ref z5, .ref z6, .ref z7, .int 0, .ref z8, .ref z9, .int 0, .int 0, .int 0, .int 0, .ref z10, .int 0, .null, .ref z11, .ref z12])), (a1, .inl (y 0, 3, .inl (fun _ => 0)))] H := hP
  have hD : va_D A [(a0, .inr (13, [.ref a1, .ref z0, .ref z1, .ref z2, .ref z3, .ref z4, .int 45, .ref z5, .ref z6, .ref z7, .int 0, .ref z8, .ref z9, .int 0, .int 0, .int 0, .int 0, .ref z10, .int 0, .null, .ref z11, .ref z12])), (a1, .inl (y 0, 3, .inl (fun _ => 0)))] := hD
  refine W.widen (k := 0) (n := 0) (Nat.le_of_ble_eq_true rfl) (Nat.le_of_ble_eq_true rfl) ?_
  refine W.eq (g2 := F0 m 6 ls [.int 0, .ref a0]) rfl ?_
  refine lv_if_ne (tgt := 13) hx hb dX11_lie_6 (by decide) (fun c => absurd (by decide) c) (fun _ => ?_)
  refine lv_iconst (v := 1) hx hb dX11_lie_9 (by decide) ?_
  refine lv_goto (tgt := 14) hx hb dX11_lie_10 (by decide) ?_
  refine lv_iconst (v := 0) hx hb dX11_lie_14 (by decide) ?_
  refine lv_iconst (v := 0) hx hb dX11_lie_15 (by decide) ?_
  refine cV (l := l) (yM := yX11_fails) (C := RX11) (As := [.int 1, .int 0, .int 0]) (rest := []) (wr := [(a1, .inl (y 0, 3, .inl (fun _ => 0)))]) hF (c67_X11_fails l a0 a1 z0 z1 z2 z3 z4 z5 z6 z7 z8 z9 z10 z11 z12) gv_RX11_128 3 (by decide +kernel) rfl ⟨(Nat.le_of_ble_eq_true rfl), (Nat.le_of_ble_eq_true rfl)⟩ hl.1 rfl (Nat.le_of_ble_eq_true rfl) dX11_lie_16 ⟨(Nat.le_of_ble_eq_true rfl), (Nat.le_of_ble_eq_true rfl)⟩ hP hD hS (va_free (wc := [(a0, .inr (13, [.ref a1, .ref z0, .ref z1, .ref z2, .ref z3, .ref z4, .int 45, .ref z5, .ref z6, .ref z7, .int 0, .ref z8, .ref z9, .int 0, .int 0, .int 0, .int 0, .ref z10, .int 0, .null, .ref z11, .ref z12]))]) hD hS hA [0] rfl) (fun _ h => h) [0] [0] [1] rfl rfl rfl rfl rfl (by decide) 0 (ci := 13) rfl rfl rfl (fun u_2 H locs hP hD hS => ?_)
  have hP : va_P D vwCl [(a1, .inl (y 0, 3, .inl (fun _ => 0))), (a0, .inr (13, [.ref a1, .ref z0, .ref z1, .ref z2, .ref z3, .ref z4, .int 45, .ref z5, .ref z6, .ref z7, .int 0, .ref z8, .ref z9, .int 0, .int 0, .int 1, .int 0, .ref z10, .int 0, .null, .ref z11, .ref z12]))] H := hP
  have hD : va_D A [(a1, .inl (y 0, 3, .inl (fun _ => 0))), (a0, .inr (13, [.ref a1, .ref z0, .ref z1, .ref z2, .ref z3, .ref z4, .int 45, .ref z5, .ref z6, .ref z7, .int 0, .ref z8, .ref z9, .int 0, .int 0, .int 1, .int 0, .ref z10, .int 0, .null, .ref z11, .ref z12]))] := hD
  refine W.widen (k := 0) (n := 0) (Nat.le_of_ble_eq_true rfl) (Nat.le_of_ble_eq_true rfl) ?_
  refine W.eq (g2 := F0 m 19 ls [.int 1]) rfl ?_
  refine lv_if_eq (tgt := 24) hx hb dX11_lie_19 (by decide) (fun c => absurd c (by decide)) (fun _ => ?_)
  refine lv_iconst (v := 0) hx hb dX11_lie_22 (by decide) ?_
  exact e_i hF hr (Nat.le_of_ble_eq_true rfl) (Nat.le_of_ble_eq_true rfl) hS (qg_end hS (fun _ => 0) rfl [1, 0] hP rfl (hD.sub [1, 0] rfl rfl)) dX11_lie_23

set_option maxHeartbeats 4000000 in
set_option maxRecDepth 100000 in
theorem c373_X10_without (l : Launch) (hlt : l.stackTraces = false) (a0 : Nat) (a1 : Nat) (a2 : Nat) (z0 : Nat) (z1 : Nat) (z2 : Nat) (z3 : Nat) (z4 : Nat) (z5 : Nat) (z6 : Nat) (z7 : Nat) (z8 : Nat) (z9 : Nat) (z10 : Nat) (z11 : Nat) (z12 : Nat) (z13 : Nat) (z14 : Nat) (z15 : Nat) (z16 : Nat) (z17 : Nat) (z18 : Nat) (p0 : Int32) : CX l (.code yX10_without cX10_without 2 (some .int)) yX10_without { frames := 7, cells := 1, slots := 6, locals := 111 } [.ref a0, .int p0] (fun y => [(a0, .inr (12, [.ref a1, .ref z0, .ref z1, .ref z2, .ref z3, .ref z4, .ref z5, .ref z6, .ref z7, .ref z8, .ref z9, .ref z10, .ref z11, .ref z12, .ref z13])), (a1, .inr (5, [.ref a2, .ref z14, .ref z15])), (a2, .inr (4, [.int 0, .ref z16, .ref z17, .ref z18]))]) (fun _ => []) "java/util/NoSuchElementException" := by
  refine mkX (by decide) (Nat.le_of_ble_eq_true rfl) ?_
  intro p e s m args below meth c D y A ls hF htb hAe hP hD hS hl
  have hF : FX p e s m args meth c cX10_without 2 RX10 "without" D y A := hF
  obtain ⟨⟨hx, hb, hml, hown, hts⟩, hev, heh, hA, hlk, hnm⟩ := id hF
  have hK := hev.1
  have hP : va_P D vwCl [(a0, .inr (12, [.ref a1, .ref z0, .ref z1, .ref z2, .ref z3, .ref z4, .ref z5, .ref z6, .ref z7, .ref z8, .ref z9, .ref z10, .ref z11, .ref z12, .ref z13])), (a1, .inr (5, [.ref a2, .ref z14, .ref z15])), (a2, .inr (4, [.int 0, .ref z16, .ref z17, .ref z18]))] s.heap := hP
  have hD : va_D (fun _ => True) [(a0, .inr (12, [.ref a1, .ref z0, .ref z1, .ref z2, .ref z3, .ref z4, .ref z5, .ref z6, .ref z7, .ref z8, .ref z9, .ref z10, .ref z11, .ref z12, .ref z13])), (a1, .inr (5, [.ref a2, .ref z14, .ref z15])), (a2, .inr (4, [.int 0, .ref z16, .ref z17, .ref z18]))] := hD
  have hl : lv_has ls 2 [(0, .ref a0), (1, .int p0)] := hl
  refine lv_aload_n hx hb dX10_without_0 rfl (lv_at hl 0 rfl) ?_
  refine lv_iload_n hx hb dX10_without_1 rfl (lv_at hl 1 rfl) ?_
  exact xV (l := l) (yM := yX10_needPerson) (C := RX10) (As := [.int p0]) (rest := []) hF htb (c249_X10_needPerson l hlt a0 a1 a2 z0 z1 z2 z3 z4 z5 z6 z7 z8 z9 z10 z11 z12 z13 z14 z15 z16 z17 z18 p0) gv_RX10_254 1 (by decide +kernel) rfl ⟨(Nat.le_of_ble_eq_true rfl), (Nat.le_of_ble_eq_true rfl)⟩ hl.1 rfl (Nat.le_of_ble_eq_true rfl) dX10_without_2 ⟨(Nat.le_of_ble_eq_true rfl), (Nat.le_of_ble_eq_true rfl)⟩ hP hD hS (pA hA hS) [0, 1, 2] rfl rfl 0 (ci := 12) rfl rfl rfl ⟨(Nat.le_of_ble_eq_true rfl), (Nat.le_of_ble_eq_true rfl)⟩

set_option maxHeartbeats 4000000 in
set_option maxRecDepth 100000 in
theorem c373_L_without (l : Launch) (hlt : l.stackTraces = false) (a0 : Nat) (a1 : Nat) (a2 : Nat) (z0 : Nat) (z1 : Nat) (z2 : Nat) (z3 : Nat) (z4 : Nat) (z5 : Nat) (z6 : Nat) (z7 : Nat) (z8 : Nat) (z9 : Nat) (z10 : Nat) (z11 : Nat) (z12 : Nat) (z13 : Nat) (z14 : Nat) (z15 : Nat) (z16 : Nat) (z17 : Nat) (z18 : Nat) (p0 : Int32) (z19 : Nat) : CT l (.codeWith yL_without cL_without 4 (some .int) [(0, 9, 12, 24)]) yL_without { frames := 8, cells := 1, slots := 6, locals := 132 } [.ref a0, .int p0, .ref z19] (fun y => [(a0, .inr (12, [.ref a1, .ref z0, .ref z1, .ref z2, .ref z3, .ref z4, .ref z5, .ref z6, .ref z7, .ref z8, .ref z9, .ref z10, .ref z11, .ref z12, .ref z13])), (a1, .inr (5, [.ref a2, .ref z14, .ref z15])), (a2, .inr (4, [.int 0, .ref z16, .ref z17, .ref z18]))]) (fun _ => []) (fun u => some (.int 1)) (fun y u => []) := by
  refine mkH (by decide) (Nat.le_of_ble_eq_true rfl) ?_
  intro p e s m args below meth c D y A ls hF htab hr hAe hP hD hS hl
  have hF : FX p e s m args meth c cL_without 4 RL "without" D y A := hF
  obtain ⟨⟨hx, hb, hml, hown, hts⟩, hev, heh, hA, hlk, hnm⟩ := id hF
  have hK := hev.1
  have hP : va_P D vwCl [(a0, .inr (12, [.ref a1, .ref z0, .ref z1, .ref z2, .ref z3, .ref z4, .ref z5, .ref z6, .ref z7, .ref z8, .ref z9, .ref z10, .ref z11, .ref z12, .ref z13])), (a1, .inr (5, [.ref a2, .ref z14, .ref z15])), (a2, .inr (4, [.int 0, .ref z16, .ref z17, .ref z18]))] s.heap := hP
  have hD : va_D (fun _ => True) [(a0, .inr (12, [.ref a1, .ref z0, .ref z1, .ref z2, .ref z3, .ref z4, .ref z5, .ref z6, .ref z7, .ref z8, .ref z9, .ref z10, .ref z11, .ref z12, .ref z13])), (a1, .inr (5, [.ref a2, .ref z14, .ref z15])), (a2, .inr (4, [.int 0, .ref z16, .ref z17, .ref z18]))] := hD
  have hl : lv_has ls 4 [(0, .ref a0), (1, .int p0), (2, .ref z19)] := hl
  refine lv_aload_n hx hb dL_without_0 rfl (lv_at hl 2 rfl) ?_
  refine lv_iconst (v := 0) hx hb dL_without_1 (by decide) ?_
  refine lv_aload_n hx hb dL_without_2 rfl (lv_at hl 0 rfl) ?_
  refine lv_iload_n hx hb dL_without_3 rfl (lv_at hl 1 rfl) ?_
  refine hV (wr := [(a0, .inr (12, [.ref a1, .ref z0, .ref z1, .ref z2, .ref z3, .ref z4, .ref z5, .ref z6, .ref z7, .ref z8, .ref z9, .ref z10, .ref z11, .ref z12, .ref z13])), (a1, .inr (5, [.ref a2, .ref z14, .ref z15])), (a2, .inr (4, [.int 0, .ref z16, .ref z17, .ref z18]))]) (name := "java/util/NoSuchElementException") (E0 := "java/util/NoSuchElementException") (l := l) (yM := yX10_without) (C := RX10) (As := [.int p0]) (rest := [.int 0, .ref z19]) hF (c373_X10_without l hlt a0 a1 a2 z0 z1 z2 z3 z4 z5 z6 z7 z8 z9 z10 z11 z12 z13 z14 z15 z16 z17 z18 p0) gv_RL_131 1 (by decide +kernel) rfl ⟨(Nat.le_of_ble_eq_true rfl), (Nat.le_of_ble_eq_true rfl)⟩ hl.1 rfl (Nat.le_of_ble_eq_true rfl) dL_without_4 ⟨(Nat.le_of_ble_eq_true rfl), (Nat.le_of_ble_eq_true rfl)⟩ hP hD hS (pA hA hS) (fun _ _ => trivial) [0, 1, 2] [] [0, 1, 2] rfl rfl rfl rfl rfl (by decide) 0 (ci := 12) rfl rfl rfl [] ⟨0, 9, 12, 24⟩ [] htab (fun z hz => nomatch hz) (by decide) (by decide) wd_261 (by decide) (fun q9 H locs hP hD hS => ?_)
  have hP : va_P D vwCl [(a0, .inr (12, [.ref a1, .ref z0, .ref z1, .ref z2, .ref z3, .ref z4, .ref z5, .ref z6, .ref z7, .ref z8, .ref z9, .ref z10, .ref z11, .ref z12, .ref z13])), (a1, .inr (5, [.ref a2, .ref z14, .ref z15])), (a2, .inr (4, [.int 0, .ref z16, .ref z17, .ref z18]))] H := hP
  have hD : va_D (fun _ => True) [(a0, .inr (12, [.ref a1, .ref z0, .ref z1, .ref z2, .ref z3, .ref z4, .ref z5, .ref z6, .ref z7, .ref z8, .ref z9, .ref z10, .ref z11, .ref z12, .ref z13])), (a1, .inr (5, [.ref a2, .ref z14, .ref z15])), (a2, .inr (4, [.int 0, .ref z16, .ref z17, .ref z18]))] := hD
  refine W.widen (k := 1) (n := 6) (Nat.le_of_ble_eq_true rfl) (Nat.le_of_ble_eq_true rfl) ?_
  refine W.eq (g2 := F0 m 12 ls [.ref q9]) rfl ?_
  refine lv_astore_n (lv' := [(3, .ref q9), (0, .ref a0), (1, .int p0), (2, .ref z19)]) hx hb dL_without_12 rfl hl (by decide) rfl (fun ls hl => ?_)
  refine lv_iconst (v := 1) hx hb dL_without_13 (by decide) ?_
  exact e_i hF hr (Nat.le_of_ble_eq_true rfl) (Nat.le_of_ble_eq_true rfl) hS (qg_end hS (fun _ => 0) rfl [] hP rfl d_nil) dL_without_14

set_option maxHeartbeats 4000000 in
set_option maxRecDepth 100000 in
theorem c375_X11_without (l : Launch) (a0 : Nat) (a1 : Nat) (z0 : Nat) (z1 : Nat) (z2 : Nat) (z3 : Nat) (z4 : Nat) (z5 : Nat) (z6 : Nat) (z7 : Nat) (z8 : Nat) (z9 : Nat) (z10 : Nat) (z11 : Nat) (z12 : Nat) (p0 : Int32) : CT l (.code yX11_without cX11_without 2 (some .int)) yX11_without { frames := 2, cells := 0, slots := 0, locals := 43 } [.ref a0, .int p0] (fun y => [(a0, .inr (13, [.ref a1, .ref z0, .ref z1, .ref z2, .ref z3, .ref z4, .int 45, .ref z5, .ref z6, .ref z7, .int 0, .ref z8, .ref z9, .int 0, .int 0, .int 0, .int 0, .ref z10, .int 0, .null, .ref z11, .ref z12])), (a1, .inl (y 0, 3, .inl (fun _ => 0)))]) (fun y => [(a0, .inr (13, [.ref a1, .ref z0, .ref z1, .ref z2, .ref z3, .ref z4, .int 45, .ref z5, .ref z6, .ref z7, .int 0, .ref z8, .ref z9, .int 0, .int 0, .int 0, .int 0, .ref z10, .int 0, .null, .ref z11, .ref z12])), (a1, .inl (y 0, 3, .inl (fun _ => 0)))]) (fun u => some (.int 0)) (fun y u => [(a0, .inr (13, [.ref a1, .ref z0, .ref z1, .ref z2, .ref z3, .ref z4, .int 45, .ref z5, .ref z6, .ref z7, .int 0, .ref z8, .ref z9, .int 0, .int 0, .int 1, .int 0, .ref z10, .int 0, .null, .ref z11, .ref z12])), (a1, .inl (y 0, 3, .inl (fun _ => 0)))]) := by
  refine mkM (by decide) (Nat.le_of_ble_eq_true rfl) ?_
  intro p e s m args below meth c D y A ls hF hr hAe hP hD hS hl
  have hF : FX p e s m args meth c cX11_without 2 RX11 "without" D y A := hF
  obtain ⟨⟨hx, hb, hml, hown, hts⟩, hev, heh, hA, hlk, hnm⟩ := id hF
  have hK := hev.1
  have hP : va_P D vwCl [(a0, .inr (13, [.ref a1, .ref z0, .ref z1, .ref z2, .ref z3, .ref z4, .int 45, .ref z5, .ref z6, .ref z7, .int 0, .ref z8, .ref z9, .int 0, .int 0, .int 0, .int 0, .ref z10, .int 0, .null, .ref z11, .ref z12])), (a1, .inl (y 0, 3, .inl (fun _ => 0)))] s.heap := hP
  have hD : va_D A [(a0, .inr (13, [.ref a1, .ref z0, .ref z1, .ref z2, .ref z3, .ref z4, .int 45, .ref z5, .ref z6, .ref z7, .int 0, .ref z8, .ref z9, .int 0, .int 0, .int 0, .int 0, .ref z10, .int 0, .null, .ref z11, .ref z12])), (a1, .inl (y 0, 3, .inl (fun _ => 0)))] := by rw [← hAe]; exact hD.self
  have hl : lv_has ls 2 [(0, .ref a0), (1, .int p0)] := hl
  refine lv_aload_n hx hb dX11_without_0 rfl (lv_at hl 0 rfl) ?_
  refine lv_aload_n hx hb dX11_without_1 rfl (lv_at hl 0 rfl) ?_
  refine lv_iload_n hx hb dX11_without_2 rfl (lv_at hl 1 rfl) ?_
  refine cV (l := l) (yM := yX11_isPerson) (C := RX11) (As := [.int p0]) (rest := [.ref a0]) (wr := [(a0, .inr (13, [.ref a1, .ref z0, .ref z1, .ref z2, .ref z3, .ref z4, .int 45, .ref z5, .ref z6, .ref z7, .int 0, .ref z8, .ref z9, .int 0, .int 0, .int 0, .int 0, .ref z10, .int 0, .null, .ref z11, .ref z12])), (a1, .inl (y 0, 3, .inl (fun _ => 0)))]) hF (c252_X11_isPerson l a0 a1 z0 z1 z2 z3 z4 z5 z6 z7 z8 z9 z10 z11 z12 p0) gv_RX11_176 1 (by decide +kernel) rfl ⟨(Nat.le_of_ble_eq_true rfl), (Nat.le_of_ble_eq_true rfl)⟩ hl.1 rfl (Nat.le_of_ble_eq_true rfl) dX11_without_3 ⟨(Nat.le_of_ble_eq_true rfl), (Nat.le_of_ble_eq_true rfl)⟩ hP hD hS (pA hA hS) (fun _ h => h) [0, 1] [] [0, 1] rfl rfl rfl rfl rfl (by decide) 0 (ci := 13) rfl rfl rfl (fun u_1 H locs hP hD hS => ?_)
  have hP : va_P D vwCl [(a0, .inr (13, [.ref a1, .ref z0, .ref z1, .ref z2, .ref z3, .ref z4, .int 45, .ref z5, .ref z6, .ref z7, .int 0, .ref z8, .ref z9, .int 0, .int 0, .int 0, .int 0, .ref z10, .int 0, .null, .ref z11, .ref z12])), (a1, .inl (y 0, 3, .inl (fun _ => 0)))] H := hP
  have hD : va_D A [(a0, .inr (13, [.ref a1, .ref z0, .ref z1, .ref z2, .ref z3, .ref z4, .int 45, .ref z5, .ref z6, .ref z7, .int 0, .ref z8, .ref z9, .int 0, .int 0, .int 0, .int 0, .ref z10, .int 0, .null, .ref z11, .ref z12])), (a1, .inl (y 0, 3, .inl (fun _ => 0)))] := hD
  refine W.widen (k := 0) (n := 0) (Nat.le_of_ble_eq_true rfl) (Nat.le_of_ble_eq_true rfl) ?_
  refine W.eq (g2 := F0 m 6 ls [.int 0, .ref a0]) rfl ?_
  refine lv_if_ne (tgt := 13) hx hb dX11_without_6 (by decide) (fun c => absurd (by decide) c) (fun _ => ?_)
  refine lv_iconst (v := 1) hx hb dX11_without_9 (by decide) ?_
  refine lv_goto (tgt := 14) hx hb dX11_without_10 (by decide) ?_
  refine lv_iconst (v := 0) hx hb dX11_without_14 (by decide) ?_
  refine lv_iconst (v := 0) hx hb dX11_without_15 (by decide) ?_
  refine cV (l := l) (yM := yX11_fails) (C := RX11) (As := [.int 1, .int 0, .int 0]) (rest := []) (wr := [(a1, .inl (y 0, 3, .inl (fun _ => 0)))]) hF (c67_X11_fails l a0 a1 z0 z1 z2 z3 z4 z5 z6 z7 z8 z9 z10 z11 z12) gv_RX11_128 3 (by decide +kernel) rfl ⟨(Nat.le_of_ble_eq_true rfl), (Nat.le_of_ble_eq_true rfl)⟩ hl.1 rfl (Nat.le_of_ble_eq_true rfl) dX11_without_16 ⟨(Nat.le_of_ble_eq_true rfl), (Nat.le_of_ble_eq_true rfl)⟩ hP hD hS (va_free (wc := [(a0, .inr (13, [.ref a1, .ref z0, .ref z1, .ref z2, .ref z3, .ref z4, .int 45, .ref z5, .ref z6, .ref z7, .int 0, .ref z8, .ref z9, .int 0, .int 0, .int 0, .int 0, .ref z10, .int 0, .null, .ref z11, .ref z12]))]) hD hS hA [0] rfl) (fun _ h => h) [0] [0] [1] rfl rfl rfl rfl rfl (by decide) 0 (ci := 13) rfl rfl rfl (fun u_2 H locs hP hD hS => ?_)
  have hP : va_P D vwCl [(a1, .inl (y 0, 3, .inl (fun _ => 0))), (a0, .inr (13, [.ref a1, .ref z0, .ref z1, .ref z2, .ref z3, .ref z4, .int 45, .ref z5, .ref z6, .ref z7, .int 0, .ref z8, .ref z9, .int 0, .int 0, .int 1, .int 0, .ref z10, .int 0, .null, .ref z11, .ref z12]))] H := hP
  have hD : va_D A [(a1, .inl (y 0, 3, .inl (fun _ => 0))), (a0, .inr (13, [.ref a1, .ref z0, .ref z1, .ref z2, .ref z3, .ref z4, .int 45, .ref z5, .ref z6, .ref z7, .int 0, .ref z8, .ref z9, .int 0, .int 0, .int 1, .int 0, .ref z10, .int 0, .null, .ref z11, .ref z12]))] := hD
  refine W.widen (k := 0) (n := 0) (Nat.le_of_ble_eq_true rfl) (Nat.le_of_ble_eq_true rfl) ?_
  refine W.eq (g2 := F0 m 19 ls [.int 1]) rfl ?_
  refine lv_if_eq (tgt := 26) hx hb dX11_without_19 (by decide) (fun c => absurd c (by decide)) (fun _ => ?_)
  refine lv_iconst (v := 0) hx hb dX11_without_22 (by decide) ?_
  refine lv_goto (tgt := 42) hx hb dX11_without_23 (by decide) ?_
  exact e_i hF hr (Nat.le_of_ble_eq_true rfl) (Nat.le_of_ble_eq_true rfl) hS (qg_end hS (fun _ => 0) rfl [1, 0] hP rfl (hD.sub [1, 0] rfl rfl)) dX11_without_42

set_option maxHeartbeats 4000000 in
set_option maxRecDepth 100000 in
theorem c376_X10_withoutHouse (l : Launch) (hlt : l.stackTraces = false) (a0 : Nat) (a1 : Nat) (a2 : Nat) (z0 : Nat) (z1 : Nat) (z2 : Nat) (z3 : Nat) (z4 : Nat) (z5 : Nat) (z6 : Nat) (z7 : Nat) (z8 : Nat) (z9 : Nat) (z10 : Nat) (z11 : Nat) (z12 : Nat) (z13 : Nat) (z14 : Nat) (z15 : Nat) (z16 : Nat) (z17 : Nat) (z18 : Nat) (p0 : Int32) : CX l (.code yX10_withoutHouse cX10_withoutHouse 2 (some .int)) yX10_withoutHouse { frames := 7, cells := 1, slots := 6, locals := 111 } [.ref a0, .int p0] (fun y => [(a0, .inr (12, [.ref a1, .ref z0, .ref z1, .ref z2, .ref z3, .ref z4, .ref z5, .ref z6, .ref z7, .ref z8, .ref z9, .ref z10, .ref z11, .ref z12, .ref z13])), (a1, .inr (5, [.ref z14, .ref a2, .ref z15])), (a2, .inr (4, [.int 0, .ref z16, .ref z17, .ref z18]))]) (fun _ => []) "java/util/NoSuchElementException" := by
  refine mkX (by decide) (Nat.le_of_ble_eq_true rfl) ?_
  intro p e s m args below meth c D y A ls hF htb hAe hP hD hS hl
  have hF : FX p e s m args meth c cX10_withoutHouse 2 RX10 "withoutHouse" D y A := hF
  obtain ⟨⟨hx, hb, hml, hown, hts⟩, hev, heh, hA, hlk, hnm⟩ := id hF
  have hK := hev.1
  have hP : va_P D vwCl [(a0, .inr (12, [.ref a1, .ref z0, .ref z1, .ref z2, .ref z3, .ref z4, .ref z5, .ref z6, .ref z7, .ref z8, .ref z9, .ref z10, .ref z11, .ref z12, .ref z13])), (a1, .inr (5, [.ref z14, .ref a2, .ref z15])), (a2, .inr (4, [.int 0, .ref z16, .ref z17, .ref z18]))] s.heap := hP
  have hD : va_D (fun _ => True) [(a0, .inr (12, [.ref a1, .ref z0, .ref z1, .ref z2, .ref z3, .ref z4, .ref z5, .ref z6, .ref z7, .ref z8, .ref z9, .ref z10, .ref z11, .ref z12, .ref z13])), (a1, .inr (5, [.ref z14, .ref a2, .ref z15])), (a2, .inr (4, [.int 0, .ref z16, .ref z17, .ref z18]))] := hD
  have hl : lv_has ls 2 [(0, .ref a0), (1, .int p0)] := hl
  refine lv_aload_n hx hb dX10_withoutHouse_0 rfl (lv_at hl 0 rfl) ?_
  refine lv_iload_n hx hb dX10_withoutHouse_1 rfl (lv_at hl 1 rfl) ?_
  exact xV (l := l) (yM := yX10_needHouse) (C := RX10) (As := [.int p0]) (rest := []) hF htb (c82_X10_needHouse l hlt a0 a1 a2 z0 z1 z2 z3 z4 z5 z6 z7 z8 z9 z10 z11 z12 z13 z14 z15 z16 z17 z18 p0) gv_RX10_116 1 (by decide +kernel) rfl ⟨(Nat.le_of_ble_eq_true rfl), (Nat.le_of_ble_eq_true rfl)⟩ hl.1 rfl (Nat.le_of_ble_eq_true rfl) dX10_withoutHouse_2 ⟨(Nat.le_of_ble_eq_true rfl), (Nat.le_of_ble_eq_true rfl)⟩ hP hD hS (pA hA hS) [0, 1, 2] rfl rfl 0 (ci := 12) rfl rfl rfl ⟨(Nat.le_of_ble_eq_true rfl), (Nat.le_of_ble_eq_true rfl)⟩

set_option maxHeartbeats 4000000 in
set_option maxRecDepth 100000 in
theorem c376_L_withoutHouse (l : Launch) (hlt : l.stackTraces = false) (a0 : Nat) (a1 : Nat) (a2 : Nat) (z0 : Nat) (z1 : Nat) (z2 : Nat) (z3 : Nat) (z4 : Nat) (z5 : Nat) (z6 : Nat) (z7 : Nat) (z8 : Nat) (z9 : Nat) (z10 : Nat) (z11 : Nat) (z12 : Nat) (z13 : Nat) (z14 : Nat) (z15 : Nat) (z16 : Nat) (z17 : Nat) (z18 : Nat) (p0 : Int32) (z19 : Nat) : CT l (.codeWith yL_withoutHouse cL_withoutHouse 4 (some .int) [(0, 9, 12, 24)]) yL_withoutHouse { frames := 8, cells := 1, slots := 6, locals := 132 } [.ref a0, .int p0, .ref z19] (fun y => [(a0, .inr (12, [.ref a1, .ref z0, .ref z1, .ref z2, .ref z3, .ref z4, .ref z5, .ref z6, .ref z7, .ref z8, .ref z9, .ref z10, .ref z11, .ref z12, .ref z13])), (a1, .inr (5, [.ref z14, .ref a2, .ref z15])), (a2, .inr (4, [.int 0, .ref z16, .ref z17, .ref z18]))]) (fun _ => []) (fun u => some (.int 1)) (fun y u => []) := by
  refine mkH (by decide) (Nat.le_of_ble_eq_true rfl) ?_
  intro p e s m args below meth c D y A ls hF htab hr hAe hP hD hS hl
  have hF : FX p e s m args meth c cL_withoutHouse 4 RL "withoutHouse" D y A := hF
  obtain ⟨⟨hx, hb, hml, hown, hts⟩, hev, heh, hA, hlk, hnm⟩ := id hF
  have hK := hev.1
  have hP : va_P D vwCl [(a0, .inr (12, [.ref a1, .ref z0, .ref z1, .ref z2, .ref z3, .ref z4, .ref z5, .ref z6, .ref z7, .ref z8, .ref z9, .ref z10, .ref z11, .ref z12, .ref z13])), (a1, .inr (5, [.ref z14, .ref a2, .ref z15])), (a2, .inr (4, [.int 0, .ref z16, .ref z17, .ref z18]))] s.heap := hP
  have hD : va_D (fun _ => True) [(a0, .inr (12, [.ref a1, .ref z0, .ref z1, .ref z2, .ref z3, .ref z4, .ref z5, .ref z6, .ref z7, .ref z8, .ref z9, .ref z10, .ref z11, .ref z12, .ref z13])), (a1, .inr (5, [.ref z14, .ref a2, .ref z15])), (a2, .inr (4, [.int 0, .ref z16, .ref z17, .ref z18]))] := hD
  have hl : lv_has ls 4 [(0, .ref a0), (1, .int p0), (2, .ref z19)] := hl
  refine lv_aload_n hx hb dL_withoutHouse_0 rfl (lv_at hl 2 rfl) ?_
  refine lv_iconst (v := 0) hx hb dL_withoutHouse_1 (by decide) ?_
  refine lv_aload_n hx hb dL_withoutHouse_2 rfl (lv_at hl 0 rfl) ?_
  refine lv_iload_n hx hb dL_withoutHouse_3 rfl (lv_at hl 1 rfl) ?_
  refine hV (wr := [(a0, .inr (12, [.ref a1, .ref z0, .ref z1, .ref z2, .ref z3, .ref z4, .ref z5, .ref z6, .ref z7, .ref z8, .ref z9, .ref z10, .ref z11, .ref z12, .ref z13])), (a1, .inr (5, [.ref z14, .ref a2, .ref z15])), (a2, .inr (4, [.int 0, .ref z16, .ref z17, .ref z18]))]) (name := "java/util/NoSuchElementException") (E0 := "java/util/NoSuchElementException") (l := l) (yM := yX10_withoutHouse) (C := RX10) (As := [.int p0]) (rest := [.int 0, .ref z19]) hF (c376_X10_withoutHouse l hlt a0 a1 a2 z0 z1 z2 z3 z4 z5 z6 z7 z8 z9 z10 z11 z12 z13 z14 z15 z16 z17 z18 p0) gv_RL_134 1 (by decide +kernel) rfl ⟨(Nat.le_of_ble_eq_true rfl), (Nat.le_of_ble_eq_true rfl)⟩ hl.1 rfl (Nat.le_of_ble_eq_true rfl) dL_withoutHouse_4 ⟨(Nat.le_of_ble_eq_true rfl), (Nat.le_of_ble_eq_true rfl)⟩ hP hD hS (pA hA hS) (fun _ _ => trivial) [0, 1, 2] [] [0, 1, 2] rfl rfl rfl rfl rfl (by decide) 0 (ci := 12) rfl rfl rfl [] ⟨0, 9, 12, 24⟩ [] htab (fun z hz => nomatch hz) (by decide) (by decide) wd_261 (by decide) (fun q9 H locs hP hD hS => ?_)
  have hP : va_P D vwCl [(a0, .inr (12, [.ref a1, .ref z0, .ref z1, .ref z2, .ref z3, .ref z4, .ref z5, .ref z6, .ref z7, .ref z8, .ref z9, .ref z10, .ref z11, .ref z12, .ref z13])), (a1, .inr (5, [.ref z14, .ref a2, .ref z15])), (a2, .inr (4, [.int 0, .ref z16, .ref z17, .ref z18]))] H := hP
  have hD : va_D (fun _ => True) [(a0, .inr (12, [.ref a1, .ref z0, .ref z1, .ref z2, .ref z3, .ref z4, .ref z5, .ref z6, .ref z7, .ref z8, .ref z9, .ref z10, .ref z11, .ref z12, .ref z13])), (a1, .inr (5, [.ref z14, .ref a2, .ref z15])), (a2, .inr (4, [.int 0, .ref z16, .ref z17, .ref z18]))] := hD
  refine W.widen (k := 1) (n := 6) (Nat.le_of_ble_eq_true rfl) (Nat.le_of_ble_eq_true rfl) ?_
  refine W.eq (g2 := F0 m 12 ls [.ref q9]) rfl ?_
  refine lv_astore_n (lv' := [(3, .ref q9), (0, .ref a0), (1, .int p0), (2, .ref z19)]) hx hb dL_withoutHouse_12 rfl hl (by decide) rfl (fun ls hl => ?_)
  refine lv_iconst (v := 1) hx hb dL_withoutHouse_13 (by decide) ?_
  exact e_i hF hr (Nat.le_of_ble_eq_true rfl) (Nat.le_of_ble_eq_true rfl) hS (qg_end hS (fun _ => 0) rfl [] hP rfl d_nil) dL_withoutHouse_14

set_option maxHeartbeats 4000000 in
set_option maxRecDepth 100000 in
theorem c378_X11_withoutHouse (l : Launch) (a0 : Nat) (a1 : Nat) (z0 : Nat) (z1 : Nat) (z2 : Nat) (z3 : Nat) (z4 : Nat) (z5 : Nat) (z6 : Nat) (z7 : Nat) (z8 : Nat) (z9 : Nat) (z10 : Nat) (z11 : Nat) (z12 : Nat) (p0 : Int32) : CT l (.code yX11_withoutHouse cX11_withoutHouse 2 (some .int)) yX11_withoutHouse { frames := 2, cells := 0, slots := 0, locals := 43 } [.ref a0, .int p0] (fun y => [(a0, .inr (13, [.ref a1, .ref z0, .ref z1, .ref z2, .ref z3, .ref z4, .int 45, .ref z5, .ref z6, .ref z7, .int 0, .ref z8, .ref z9, .int 0, .int 0, .int 0, .int 0, .ref z10, .int 0, .null, .ref z11, .ref z12])), (a1, .inl (y 0, 3, .inl (fun _ => 0)))]) (fun y => [(a0, .inr (13, [.ref a1, .ref z0, .ref z1, .ref z2, .ref z3, .ref z4, .int 45, .ref z5, .ref z6, .ref z7, .int 0, .ref z8, .ref z9, .int 0, .int 0, .int 0, .int 0, .ref z10, .int 0, .null, .ref z11, .ref z12])), (a1, .inl (y 0, 3, .inl (fun _ => 0)))]) (fun u => some (.int 0)) (fun y u => [(a0, .inr (13, [.ref a1, .ref z0, .ref z1, .ref z2, .ref z3, .ref z4, .int 45, .ref z5, .ref z6, .ref z7, .int 0, .ref z8, .ref z9, .int 0, .int 0, .int 1, .int 0, .ref z10, .int 0, .null, .ref z11, .ref z12])), (a1, .inl (y 0, 3, .inl (fun _ => 0)))]) := by
  refine mkM (by decide) (Nat.le_of_ble_eq_true rfl) ?_
  intro p e s m args below meth c D y A ls hF hr hAe hP hD hS hl
  have hF : FX p e s m args meth c cX11_withoutHouse 2 RX11 "withoutHouse" D y A := hF
  obtain ⟨⟨hx, hb, hml, hown, hts⟩, hev, heh, hA, hlk, hnm⟩ := id hF
  have hK := hev.1
  have hP : va_P D vwCl [(a0, .inr (13, [.ref a1, .ref z0, .ref z1, .ref z2, .ref z3, .ref z4, .int 45, .ref z5, .ref z6, .ref z7, .int 0, .ref z8, .ref z9, .int 0, .int 0, .int 0, .int 0, .ref z10, .int 0, .null, .ref z11, .ref z12])), (a1, .inl (y 0, 3, .inl (fun _ => 0)))] s.heap := hP
  have hD : va_D A [(a0, .inr (13, [.ref a1, .ref z0, .ref z1, .ref z2, .ref z3, .ref z4, .int 45, .ref z5, .ref z6, .ref z7, .int 0, .ref z8, .ref z9, .int 0, .int 0, .int 0, .int 0, .ref z10, .int 0, .null, .ref z11, .ref z12])), (a1, .inl (y 0, 3, .inl (fun _ => 0)))] := by rw [← hAe]; exact hD.self
  have hl : lv_has ls 2 [(0, .ref a0), (1, .int p0)] := hl
  refine lv_aload_n hx hb dX11_withoutHouse_0 rfl (lv_at hl 0 rfl) ?_
  refine lv_aload_n hx hb dX11_withoutHouse_1 rfl (lv_at hl 0 rfl) ?_
  refine lv_iload_n hx hb dX11_withoutHouse_2 rfl (lv_at hl 1 rfl) ?_
  refine cV (l := l) (yM := yX11_isHouse) (C := RX11) (As := [.int p0]) (rest := [.ref a0]) (wr := [(a0, .inr (13, [.ref a1, .ref z0, .ref z1, .ref z2, .ref z3, .ref z4, .int 45, .ref z5, .ref z6, .ref z7, .int 0, .ref z8, .ref z9, .int 0, .int 0, .int 0, .int 0, .ref z10, .int 0, .null, .ref z11, .ref z12])), (a1, .inl (y 0, 3, .inl (fun _ => 0)))]) hF (c86_X11_isHouse l a0 a1 z0 z1 z2 z3 z4 z5 z6 z7 z8 z9 z10 z11 z12 p0) gv_RX11_135 1 (by decide +kernel) rfl ⟨(Nat.le_of_ble_eq_true rfl), (Nat.le_of_ble_eq_true rfl)⟩ hl.1 rfl (Nat.le_of_ble_eq_true rfl) dX11_withoutHouse_3 ⟨(Nat.le_of_ble_eq_true rfl), (Nat.le_of_ble_eq_true rfl)⟩ hP hD hS (pA hA hS) (fun _ h => h) [0, 1] [] [0, 1] rfl rfl rfl rfl rfl (by decide) 0 (ci := 13) rfl rfl rfl (fun u_1 H locs hP hD hS => ?_)
  have hP : va_P D vwCl [(a0, .inr (13, [.ref a1, .ref z0, .ref z1, .ref z2, .ref z3, .ref z4, .int 45, .ref z5, .ref z6, .ref z7, .int 0, .ref z8, .ref z9, .int 0, .int 0, .int 0, .int 0, .ref z10, .int 0, .null, .ref z11, .ref z12])), (a1, .inl (y 0, 3, .inl (fun _ => 0)))] H := hP
  have hD : va_D A [(a0, .inr (13, [.ref a1, .ref z0, .ref z1, .ref z2, .ref z3, .ref z4, .int 45, .ref z5, .ref z6, .ref z7, .int 0, .ref z8, .ref z9, .int 0, .int 0, .int 0, .int 0, .ref z10, .int 0, .null, .ref z11, .ref z12])), (a1, .inl (y 0, 3, .inl (fun _ => 0)))] := hD
  refine W.widen (k := 0) (n := 0) (Nat.le_of_ble_eq_true rfl) (Nat.le_of_ble_eq_true rfl) ?_
  refine W.eq (g2 := F0 m 6 ls [.int 0, .ref a0]) rfl ?_
  refine lv_if_ne (tgt := 13) hx hb dX11_withoutHouse_6 (by decide) (fun c => absurd (by decide) c) (fun _ => ?_)
  refine lv_iconst (v := 1) hx hb dX11_withoutHouse_9 (by decide) ?_
  refine lv_goto (tgt := 14) hx hb dX11_withoutHouse_10 (by decide) ?_
  refine lv_iconst (v := 0) hx hb dX11_withoutHouse_14 (by decide) ?_
  refine lv_iconst (v := 0) hx hb dX11_withoutHouse_15 (by decide) ?_
  refine cV (l := l) (yM := yX11_fails) (C := RX11) (As := [.int 1, .int 0, .int 0]) (rest := []) (wr := [(a1, .inl (y 0, 3, .inl (fun _ => 0)))]) hF (c67_X11_fails l a0 a1 z0 z1 z2 z3 z4 z5 z6 z7 z8 z9 z10 z11 z12) gv_RX11_128 3 (by decide +kernel) rfl ⟨(Nat.le_of_ble_eq_true rfl), (Nat.le_of_ble_eq_true rfl)⟩ hl.1 rfl (Nat.le_of_ble_eq_true rfl) dX11_withoutHouse_16 ⟨(Nat.le_of_ble_eq_true rfl), (Nat.le_of_ble_eq_true rfl)⟩ hP hD hS (va_free (wc := [(a0, .inr (13, [.ref a1, .ref z0, .ref z1, .ref z2, .ref z3, .ref z4, .int 45, .ref z5, .ref z6, .ref z7, .int 0, .ref z8, .ref z9, .int 0, .int 0, .int 0, .int 0, .ref z10, .int 0, .null, .ref z11, .ref z12]))]) hD hS hA [0] rfl) (fun _ h => h) [0] [0] [1] rfl rfl rfl rfl rfl (by decide) 0 (ci := 13) rfl rfl rfl (fun u_2 H locs hP hD hS => ?_)
  have hP : va_P D vwCl [(a1, .inl (y 0, 3, .inl (fun _ => 0))), (a0, .inr (13, [.ref a1, .ref z0, .ref z1, .ref z2, .ref z3, .ref z4, .int 45, .ref z5, .ref z6, .ref z7, .int 0, .ref z8, .ref z9, .int 0, .int 0, .int 1, .int 0, .ref z10, .int 0, .null, .ref z11, .ref z12]))] H := hP
  have hD : va_D A [(a1, .inl (y 0, 3, .inl (fun _ => 0))), (a0, .inr (13, [.ref a1, .ref z0, .ref z1, .ref z2, .ref z3, .ref z4, .int 45, .ref z5, .ref z6, .ref z7, .int 0, .ref z8, .ref z9, .int 0, .int 0, .int 1, .int 0, .ref z10, .int 0, .null, .ref z11, .ref z12]))] := hD
  refine W.widen (k := 0) (n := 0) (Nat.le_of_ble_eq_true rfl) (Nat.le_of_ble_eq_true rfl) ?_
  refine W.eq (g2 := F0 m 19 ls [.int 1]) rfl ?_
  refine lv_if_eq (tgt := 26) hx hb dX11_withoutHouse_19 (by decide) (fun c => absurd c (by decide)) (fun _ => ?_)
  refine lv_iconst (v := 0) hx hb dX11_withoutHouse_22 (by decide) ?_
  refine lv_goto (tgt := 42) hx hb dX11_withoutHouse_23 (by decide) ?_
  exact e_i hF hr (Nat.le_of_ble_eq_true rfl) (Nat.le_of_ble_eq_true rfl) hS (qg_end hS (fun _ => 0) rfl [1, 0] hP rfl (hD.sub [1, 0] rfl rfl)) dX11_withoutHouse_42

set_option maxHeartbeats 4000000 in
set_option maxRecDepth 100000 in
theorem c379_X10_needFewMates (l : Launch) (a0 : Nat) (a1 : Nat) (z0 : Nat) (z1 : Nat) (z2 : Nat) (z3 : Nat) (z4 : Nat) (z5 : Nat) (z6 : Nat) (z7 : Nat) (z8 : Nat) (z9 : Nat) (z10 : Nat) (z11 : Nat) (z12 : Nat) (z13 : Nat) (z14 : Nat) (z15 : Nat) (z16 : Nat) : CT l (.code yX10_needFewMates cX10_needFewMates 1 none) yX10_needFewMates { frames := 0, cells := 0, slots := 0, locals := 0 } [.ref a0] (fun y => [(a0, .inr (12, [.ref z0, .ref a1, .ref z1, .ref z2, .ref z3, .ref z4, .ref z5, .ref z6, .ref z7, .ref z8, .ref z9, .ref z10, .ref z11, .ref z12, .ref z13])), (a1, .inr (4, [.int 0, .ref z14, .ref z15, .ref z16]))]) (fun _ => []) (fun u => none) (fun y u => []) := by
  refine mkM (by decide) (Nat.le_of_ble_eq_true rfl) ?_
  intro p e s m args below meth c D y A ls hF hr hAe hP hD hS hl
  have hF : FX p e s m args meth c cX10_needFewMates 1 RX10 "needFewMates" D y A := hF
  obtain ⟨⟨hx, hb, hml, hown, hts⟩, hev, heh, hA, hlk, hnm⟩ := id hF
  have hK := hev.1
  have hP : va_P D vwCl [(a0, .inr (12, [.ref z0, .ref a1, .ref z1, .ref z2, .ref z3, .ref z4, .ref z5, .ref z6, .ref z7, .ref z8, .ref z9, .ref z10, .ref z11, .ref z12, .ref z13])), (a1, .inr (4, [.int 0, .ref z14, .ref z15, .ref z16]))] s.heap := hP
  have hD : va_D (fun _ => True) [(a0, .inr (12, [.ref z0, .ref a1, .ref z1, .ref z2, .ref z3, .ref z4, .ref z5, .ref z6, .ref z7, .ref z8, .ref z9, .ref z10, .ref z11, .ref z12, .ref z13])), (a1, .inr (4, [.int 0, .ref z14, .ref z15, .ref z16]))] := hD
  have hl : lv_has ls 1 [(0, .ref a0)] := hl
  refine lv_aload_n hx hb dX10_needFewMates_0 rfl (lv_at hl 0 rfl) ?_
  refine va_get (D := D) (ci := 12) (v := .ref a1) (C := RX10) (T := TX10) (N := 15) hx hb hts inX10 hown hK hP 0 rfl rfl 1 (by decide) (hts _ wd_26) (fun _ h9 => h9) rfl dX10_needFewMates_1 ?_
  refine va_getN (D := D) (ci := 4) (v := .int 0) (C := RX2) (T := TX2) (N := 4) hx hb hts inX2 hown hK hP 1 rfl rfl 0 (by decide) (va_Nw.use (A := args) rfl (hev.2.1 (RX10, 99, RX2, "count", "I") (List.mem_of_getElem? (i := 0) rfl))) (fun _ h9 => h9) rfl dX10_needFewMates_4 ?_
  refine lv_bipush (v := 8) hx hb dX10_needFewMates_7 (by decide) ?_
  refine lv_icmp_le (tgt := 23) hx hb dX10_needFewMates_9 (by decide) (fun _ => ?_) (fun c => absurd (by decide) c)
  exact e_v hF hr (Nat.le_of_ble_eq_true rfl) (Nat.le_of_ble_eq_true rfl) hS (qg_end hS (fun _ => 0) rfl [] hP rfl d_nil) dX10_needFewMates_23

set_option maxHeartbeats 4000000 in
set_option maxRecDepth 100000 in
theorem c380_J7_fill_53178 (l : Launch) (a0 : Nat) : CT l (.code yJ7_fill_53178 cJ7_fill_53178 4 none) yJ7_fill_53178 { frames := 0, cells := 0, slots := 0, locals := 0 } [.ref a0, .int (-2)] (fun y => [(a0, .inl (y 0, 8, .inl (fun _ => 0)))]) (fun y => [(a0, .inl (y 0, 8, .inl (fun _ => 0)))]) (fun u => none) (fun y u => [(a0, .inl (y 0, 8, .inl (fun _ => (-2))))]) := by
  refine mkM (by decide) (Nat.le_of_ble_eq_true rfl) ?_
  intro p e s m args below meth c D y A ls hF hr hAe hP hD hS hl
  have hF : FX p e s m args meth c cJ7_fill_53178 4 RJ7 "fill" D y A := hF
  obtain ⟨⟨hx, hb, hml, hown, hts⟩, hev, heh, hA, hlk, hnm⟩ := id hF
  have hK := hev.1
  have hP : va_P D vwCl [(a0, .inl (y 0, 8, .inl (fun _ => 0)))] s.heap := hP
  have hD : va_D A [(a0, .inl (y 0, 8, .inl (fun _ => 0)))] := by rw [← hAe]; exact hD.self
  have hl : lv_has ls 4 [(0, .ref a0), (1, .int (-2))] := hl
  refine lv_iconst (v := 0) hx hb dJ7_fill_53178_0 (by decide) ?_
  refine lv_istore_n (lv' := [(2, .int 0), (0, .ref a0), (1, .int (-2))]) hx hb dJ7_fill_53178_1 rfl hl (by decide) rfl (fun ls hl => ?_)
  refine lv_aload_n hx hb dJ7_fill_53178_2 rfl (lv_at hl 1 rfl) ?_
  refine va_alen (v := 8) hx hb hK hP 0 0 rfl rfl (by decide) dJ7_fill_53178_3 ?_
  refine lv_istore_n (lv' := [(3, .int 8), (2, .int 0), (0, .ref a0), (1, .int (-2))]) hx hb dJ7_fill_53178_4 rfl hl (by decide) rfl (fun ls hl => ?_)
  obtain ⟨hP, hD⟩ := same_c (g := (fl (-2) 0 0)) hP hD 0 rfl (fun j hj => by simp [fl])
  refine lpF (lo := 0) (N := 8) (by decide) (Wd := fun i => [(a0, .inl (y 0, 8, .inl (fl (-2) 0 i)))]) (Lv := fun i => [(3, .int 8), (2, .int (nI i)), (0, .ref a0), (1, .int (-2))]) hP hD hS (lv_sub hl [0, 1, 2, 3] rfl) (fun i hlo_i hi ih_i H locs ls hP hD hS hl => ?_) (fun H locs ls hP hD hS hl => ?_)
  · have hP : va_P D vwCl [(a0, .inl (y 0, 8, .inl (fl (-2) 0 i)))] H := hP
    have hD : va_D A [(a0, .inl (y 0, 8, .inl (fl (-2) 0 i)))] := hD
    have hl : lv_has ls 4 [(3, .int 8), (2, .int (nI i)), (0, .ref a0), (1, .int (-2))] := hl
    have hi_1 : (nI i) < (8 : Int32) := nI_lt hi (by decide)
    have hi_0 : ¬ (nI i) < (0 : Int32) := nI_pos (by omega)
    refine lv_iload_n hx hb dJ7_fill_53178_5 rfl (lv_at hl 1 rfl) ?_
    refine lv_iload_n hx hb dJ7_fill_53178_6 rfl (lv_at hl 0 rfl) ?_
    refine lv_icmp_ge (tgt := 20) hx hb dJ7_fill_53178_7 (by decide) (fun c => absurd c (by have e0 : (0 : Int32).toInt = 0 := (by decide); have e1 : (8 : Int32).toInt = 8 := (by decide); have h9 := And.intro hi_1 hi_0; simp only [Int32.lt_iff_toInt_lt, Int32.le_iff_toInt_le, ← Int32.toInt_inj, e0, e1] at h9 ⊢; omega)) (fun _ => ?_)
    refine lv_aload_n hx hb dJ7_fill_53178_10 rfl (lv_at hl 2 rfl) ?_
    refine lv_iload_n hx hb dJ7_fill_53178_11 rfl (lv_at hl 1 rfl) ?_
    refine lv_iload_n hx hb dJ7_fill_53178_12 rfl (lv_at hl 3 rfl) ?_
    refine va_iast hx hb hK hP hD hS 0 0 rfl rfl (vp_in_nI (by omega) (by decide)) dJ7_fill_53178_13 (fun H locs hP hD hS => ?_)
    obtain ⟨hP, hD⟩ := same_c (g := (fl (-2) 0 (i + 1))) hP hD 0 rfl (fun j _ => fl_s (by omega))
    have hP : va_P D vwCl [(a0, .inl (y 0, 8, .inl (fl (-2) 0 (i + 1))))] H := hP
    have hD : va_D A [(a0, .inl (y 0, 8, .inl (fl (-2) 0 (i + 1))))] := hD
    refine lv_iinc (v := nI (i + 1)) (lv' := [(2, .int (nI (i + 1))), (3, .int 8), (0, .ref a0), (1, .int (-2))]) hx hb dJ7_fill_53178_14 hl (k := 1) rfl (nI_inc i) (by decide) rfl (fun ls hl => ?_)
    refine lv_goto (tgt := 5) hx hb dJ7_fill_53178_17 (by decide) ?_
    exact ih_i _ _ _ hP hD hS (lv_sub hl [1, 0, 2, 3] rfl)
  · have hP : va_P D vwCl [(a0, .inl (y 0, 8, .inl (fl (-2) 0 8)))] H := hP
    have hD : va_D A [(a0, .inl (y 0, 8, .inl (fl (-2) 0 8)))] := hD
    have hl : lv_has ls 4 [(3, .int 8), (2, .int 8), (0, .ref a0), (1, .int (-2))] := hl
    obtain ⟨hP, hD⟩ := same_c (g := (fun _ => (-2))) hP hD 0 rfl (fun j hj => by have h9 : j < 8 := hj; simp [fl, h9])
    have hP : va_P D vwCl [(a0, .inl (y 0, 8, .inl (fun _ => (-2))))] H := hP
    have hD : va_D A [(a0, .inl (y 0, 8, .inl (fun _ => (-2))))] := hD
    refine lv_iload_n hx hb dJ7_fill_53178_5 rfl (lv_at hl 1 rfl) ?_
    refine lv_iload_n hx hb dJ7_fill_53178_6 rfl (lv_at hl 0 rfl) ?_
    refine lv_icmp_ge (tgt := 20) hx hb dJ7_fill_53178_7 (by decide) (fun _ => ?_) (fun c => absurd (by decide) c)
    exact e_v hF hr (Nat.le_of_ble_eq_true rfl) (Nat.le_of_ble_eq_true rfl) hS (qg_end hS (fun _ => 0) rfl [0] hP rfl (hD.sub [0] rfl rfl)) dJ7_fill_53178_20

set_option maxHeartbeats 4000000 in
set_option maxRecDepth 100000 in
theorem c381_X6_isBlockedBy (l : Launch) (z0 : Nat) (z1 : Nat) : CT l (.code yX6_isBlockedBy cX6_isBlockedBy 4 (some .boolean)) yX6_isBlockedBy { frames := 0, cells := 0, slots := 0, locals := 0 } [.ref z0, .ref z1, .int (-1)] (fun y => []) (fun _ => []) (fun u => some (.int 0)) (fun y u => []) := by
  refine mkM (by decide) (Nat.le_of_ble_eq_true rfl) ?_
  intro p e s m args below meth c D y A ls hF hr hAe hP hD hS hl
  have hF : FX p e s m args meth c cX6_isBlockedBy 4 RX6 "isBlockedBy" D y A := hF
  obtain ⟨⟨hx, hb, hml, hown, hts⟩, hev, heh, hA, hlk, hnm⟩ := id hF
  have hK := hev.1
  have hP : va_P D vwCl [] s.heap := hP
  have hD : va_D A [] := by rw [← hAe]; exact hD.self
  have hl : lv_has ls 4 [(0, .ref z0), (1, .ref z1), (2, .int (-1))] := hl
  refine lv_iconst (v := 0) hx hb dX6_isBlockedBy_0 (by decide) ?_
  refine lv_istore_n (lv' := [(3, .int 0), (0, .ref z0), (1, .ref z1), (2, .int (-1))]) hx hb dX6_isBlockedBy_1 rfl hl (by decide) rfl (fun ls hl => ?_)
  refine lv_iload_n hx hb dX6_isBlockedBy_2 rfl (lv_at hl 0 rfl) ?_
  refine lv_iload_n hx hb dX6_isBlockedBy_3 rfl (lv_at hl 3 rfl) ?_
  refine lv_icmp_ge (tgt := 35) hx hb dX6_isBlockedBy_4 (by decide) (fun _ => ?_) (fun c => absurd (by decide) c)
  refine lv_iconst (v := 0) hx hb dX6_isBlockedBy_35 (by decide) ?_
  exact e_z hF hr (by decide) (Nat.le_of_ble_eq_true rfl) (Nat.le_of_ble_eq_true rfl) hS (qg_end hS (fun _ => 0) rfl [] hP rfl d_nil) dX6_isBlockedBy_36

set_option maxHeartbeats 4000000 in
set_option maxRecDepth 100000 in
theorem c382_X6_note (l : Launch) (a0 : Nat) (a1 : Nat) (a2 : Nat) : CT l (.code yX6_note cX6_note 1 none) yX6_note { frames := 1, cells := 0, slots := 0, locals := 1400 } [.ref a0] (fun y => [(a0, .inr (8, [.int 0, .ref a1, .ref a2])), (a1, .inl (y 0, 8, .inl (fun _ => (-2)))), (a2, .inl (y 0, 8, .inl (fun _ => 0)))]) (fun y => [(a0, .inr (8, [.int 0, .ref a1, .ref a2])), (a1, .inl (y 0, 8, .inl (fun _ => (-2)))), (a2, .inl (y 0, 8, .inl (fun _ => 0)))]) (fun u => none) (fun y u => [(a0, .inr (8, [.int 1, .ref a1, .ref a2])), (a1, .inl (y 0, 8, .inl (fun _ => (-2)))), (a2, .inl (y 0, 8, .inl (fun _ => (-2))))]) := by
  refine mkM (by decide) (Nat.le_of_ble_eq_true rfl) ?_
  intro p e s m args below meth c D y A ls hF hr hAe hP hD hS hl
  have hF : FX p e s m args meth c cX6_note 1 RX6 "note" D y A := hF
  obtain ⟨⟨hx, hb, hml, hown, hts⟩, hev, heh, hA, hlk, hnm⟩ := id hF
  have hK := hev.1
  have hP : va_P D vwCl [(a0, .inr (8, [.int 0, .ref a1, .ref a2])), (a1, .inl (y 0, 8, .inl (fun _ => (-2)))), (a2, .inl (y 0, 8, .inl (fun _ => 0)))] s.heap := hP
  have hD : va_D A [(a0, .inr (8, [.int 0, .ref a1, .ref a2])), (a1, .inl (y 0, 8, .inl (fun _ => (-2)))), (a2, .inl (y 0, 8, .inl (fun _ => 0)))] := by rw [← hAe]; exact hD.self
  have hl : lv_has ls 1 [(0, .ref a0)] := hl
  refine lv_aload_n hx hb dX6_note_0 rfl (lv_at hl 0 rfl) ?_
  refine va_get (D := D) (ci := 8) (v := .int 0) (C := RX6) (T := TX6) (N := 3) hx hb hts inX6 hown hK hP 0 rfl rfl 0 (by decide) (hts _ wd_940) (fun _ h9 => h9) rfl dX6_note_1 ?_
  refine lv_if_ne (tgt := 22) hx hb dX6_note_4 (by decide) (fun c => absurd (by decide) c) (fun _ => ?_)
  refine lv_aload_n hx hb dX6_note_7 rfl (lv_at hl 0 rfl) ?_
  refine va_get (D := D) (ci := 8) (v := .ref a1) (C := RX6) (T := TX6) (N := 3) hx hb hts inX6 hown hK hP 0 rfl rfl 1 (by decide) (hts _ wd_100) (fun _ h9 => h9) rfl dX6_note_8 ?_
  refine lv_iconst (v := 0) hx hb dX6_note_11 (by decide) ?_
  refine lv_aload_n hx hb dX6_note_12 rfl (lv_at hl 0 rfl) ?_
  refine va_get (D := D) (ci := 8) (v := .ref a2) (C := RX6) (T := TX6) (N := 3) hx hb hts inX6 hown hK hP 0 rfl rfl 2 (by decide) (hts _ wd_101) (fun _ h9 => h9) rfl dX6_note_13 ?_
  refine lv_iconst (v := 0) hx hb dX6_note_16 (by decide) ?_
  refine lv_bipush (v := 8) hx hb dX6_note_17 (by decide) ?_
  refine va_copyi hx hb (hml.trans hl.1.symm) hown (hts _ wd_946) (hts _ wd_947) (hts _ wd_948) (hts _ wd_949) hK hP hD hS 1 2 0 0 rfl rfl rfl rfl rfl (by decide) (by decide) (by decide) (by decide) (by decide) (fun i _ => rfl) (Nat.le_of_ble_eq_true rfl) (Nat.le_of_ble_eq_true rfl) dX6_note_19 (fun H locs hP hD hS => ?_)
  obtain ⟨hP, hD⟩ := same_c (g := (fun _ => (-2))) hP hD 2 rfl (fun j hj => by have h9 : j < 8 := hj; simp [va_cpy, h9])
  have hP : va_P D vwCl [(a0, .inr (8, [.int 0, .ref a1, .ref a2])), (a1, .inl (y 0, 8, .inl (fun _ => (-2)))), (a2, .inl (y 0, 8, .inl (fun _ => (-2))))] H := hP
  have hD : va_D A [(a0, .inr (8, [.int 0, .ref a1, .ref a2])), (a1, .inl (y 0, 8, .inl (fun _ => (-2)))), (a2, .inl (y 0, 8, .inl (fun _ => (-2))))] := hD
  refine lv_aload_n hx hb dX6_note_22 rfl (lv_at hl 0 rfl) ?_
  refine lv_dup hx hb dX6_note_23 rfl ?_
  refine va_get (D := D) (ci := 8) (v := .int 0) (C := RX6) (T := TX6) (N := 3) hx hb hts inX6 hown hK hP 0 rfl rfl 0 (by decide) (hts _ wd_940) (fun _ h9 => h9) rfl dX6_note_24 ?_
  refine lv_iconst (v := 1) hx hb dX6_note_27 (by decide) ?_
  refine lv_iadd hx hb dX6_note_28 ?_
  refine tp_i (v := 1) (by decide) ?_
  refine va_put (D := D) (ci := 8) (v := .int 1) (ty := .int) (C := RX6) (T := TX6) (N := 3) hx hb hts inX6 tyX6 tyX6_ok nmX6 hown hK hP hD hS 0 rfl rfl 0 (by decide) (hts _ wd_940) (fun _ h9 => h9) rfl (by decide +kernel) rfl rfl (Nat.le_of_ble_eq_true rfl) dX6_note_29 (fun H locs hP hD hS => ?_)
  have hP : va_P D vwCl [(a0, .inr (8, [.int 1, .ref a1, .ref a2])), (a1, .inl (y 0, 8, .inl (fun _ => (-2)))), (a2, .inl (y 0, 8, .inl (fun _ => (-2))))] H := hP
  have hD : va_D A [(a0, .inr (8, [.int 1, .ref a1, .ref a2])), (a1, .inl (y 0, 8, .inl (fun _ => (-2)))), (a2, .inl (y 0, 8, .inl (fun _ => (-2))))] := hD
  exact e_v hF hr (Nat.le_of_ble_eq_true rfl) (Nat.le_of_ble_eq_true rfl) hS (qg_end hS (fun _ => 0) rfl [0, 1, 2] hP rfl (hD.sub [0, 1, 2] rfl rfl)) dX6_note_32

set_option maxHeartbeats 4000000 in
set_option maxRecDepth 100000 in
theorem c381_X6_decide (l : Launch) (a0 : Nat) (a1 : Nat) (a2 : Nat) (a3 : Nat) (z0 : Nat) (z1 : Nat) (z2 : Nat) : CT l (.code yX6_decide cX6_decide 5 none) yX6_decide { frames := 2, cells := 0, slots := 0, locals := 1420 } [.ref a1, .ref a0, .int 0] (fun y => [(a0, .inr (4, [.int 0, .ref z0, .ref z1, .ref z2])), (a1, .inr (8, [.int 0, .ref a2, .ref a3])), (a2, .inl (y 0, 8, .inl (fun _ => (-2)))), (a3, .inl (y 0, 8, .inl (fun _ => 0)))]) (fun y => [(a0, .inr (4, [.int 0, .ref z0, .ref z1, .ref z2])), (a1, .inr (8, [.int 0, .ref a2, .ref a3])), (a2, .inl (y 0, 8, .inl (fun _ => (-2)))), (a3, .inl (y 0, 8, .inl (fun _ => 0)))]) (fun u => none) (fun y u => [(a0, .inr (4, [.int 0, .ref z0, .ref z1, .ref z2])), (a1, .inr (8, [.int 1, .ref a2, .ref a3])), (a2, .inl (y 0, 8, .inl (fun _ => (-2)))), (a3, .inl (y 0, 8, .inl (fun _ => (-2))))]) := by
  refine mkM (by decide) (Nat.le_of_ble_eq_true rfl) ?_
  intro p e s m args below meth c D y A ls hF hr hAe hP hD hS hl
  have hF : FX p e s m args meth c cX6_decide 5 RX6 "decide" D y A := hF
  obtain ⟨⟨hx, hb, hml, hown, hts⟩, hev, heh, hA, hlk, hnm⟩ := id hF
  have hK := hev.1
  have hP : va_P D vwCl [(a0, .inr (4, [.int 0, .ref z0, .ref z1, .ref z2])), (a1, .inr (8, [.int 0, .ref a2, .ref a3])), (a2, .inl (y 0, 8, .inl (fun _ => (-2)))), (a3, .inl (y 0, 8, .inl (fun _ => 0)))] s.heap := hP
  have hD : va_D A [(a0, .inr (4, [.int 0, .ref z0, .ref z1, .ref z2])), (a1, .inr (8, [.int 0, .ref a2, .ref a3])), (a2, .inl (y 0, 8, .inl (fun _ => (-2)))), (a3, .inl (y 0, 8, .inl (fun _ => 0)))] := by rw [← hAe]; exact hD.self
  have hl : lv_has ls 5 [(0, .ref a1), (1, .ref a0), (2, .int 0)] := hl
  refine lv_aload_n hx hb dX6_decide_0 rfl (lv_at hl 0 rfl) ?_
  refine lv_aload_n hx hb dX6_decide_1 rfl (lv_at hl 1 rfl) ?_
  refine lv_iload_n hx hb dX6_decide_2 rfl (lv_at hl 2 rfl) ?_
  refine lv_iconst (v := 1) hx hb dX6_decide_3 (by decide) ?_
  refine lv_isub hx hb dX6_decide_4 ?_
  refine tp_i (v := (-1)) (by decide) ?_
  refine cV (l := l) (yM := yX6_isBlockedBy) (C := RX6) (As := [.ref a0, .int (-1)]) (rest := []) (wr := [(a0, .inr (4, [.int 0, .ref z0, .ref z1, .ref z2])), (a1, .inr (8, [.int 0, .ref a2, .ref a3])), (a2, .inl (y 0, 8, .inl (fun _ => (-2)))), (a3, .inl (y 0, 8, .inl (fun _ => 0)))]) hF (c381_X6_isBlockedBy l a1 a0) gv_RX6_32 2 (by decide +kernel) rfl ⟨(Nat.le_of_ble_eq_true rfl), (Nat.le_of_ble_eq_true rfl)⟩ hl.1 rfl (Nat.le_of_ble_eq_true rfl) dX6_decide_5 ⟨(Nat.le_of_ble_eq_true rfl), (Nat.le_of_ble_eq_true rfl)⟩ hP hD hS (pA hA hS) (fun _ h => h) [] [] [0, 1, 2, 3] rfl rfl rfl rfl rfl (by decide) 1 (ci := 8) rfl rfl rfl (fun u_1 H locs hP hD hS => ?_)
  have hP : va_P D vwCl [(a0, .inr (4, [.int 0, .ref z0, .ref z1, .ref z2])), (a1, .inr (8, [.int 0, .ref a2, .ref a3])), (a2, .inl (y 0, 8, .inl (fun _ => (-2)))), (a3, .inl (y 0, 8, .inl (fun _ => 0)))] H := hP
  have hD : va_D A [(a0, .inr (4, [.int 0, .ref z0, .ref z1, .ref z2])), (a1, .inr (8, [.int 0, .ref a2, .ref a3])), (a2, .inl (y 0, 8, .inl (fun _ => (-2)))), (a3, .inl (y 0, 8, .inl (fun _ => 0)))] := hD
  refine W.widen (k := 0) (n := 0) (Nat.le_of_ble_eq_true rfl) (Nat.le_of_ble_eq_true rfl) ?_
  refine W.eq (g2 := F0 m 8 ls [.int 0]) rfl ?_
  refine lv_if_eq (tgt := 12) hx hb dX6_decide_8 (by decide) (fun _ => ?_) (fun c => absurd (by decide) c)
  refine lv_iload_n hx hb dX6_decide_12 rfl (lv_at hl 2 rfl) ?_
  refine lv_if_lt (tgt := 30) hx hb dX6_decide_13 (by decide) (fun c => absurd c (by decide)) (fun _ => ?_)
  refine lv_iload_n hx hb dX6_decide_16 rfl (lv_at hl 2 rfl) ?_
  refine lv_aload_n hx hb dX6_decide_17 rfl (lv_at hl 1 rfl) ?_
  refine va_getN (D := D) (ci := 4) (v := .int 0) (C := RX2) (T := TX2) (N := 4) hx hb hts inX2 hown hK hP 0 rfl rfl 0 (by decide) (va_Nw.use (A := args) rfl (hev.2.1 (RX6, 36, RX2, "count", "I") (List.mem_of_getElem? (i := 3) rfl))) (fun _ h9 => h9) rfl dX6_decide_18 ?_
  refine lv_icmp_ge (tgt := 30) hx hb dX6_decide_21 (by decide) (fun _ => ?_) (fun c => absurd (by decide) c)
  refine lv_aload_n hx hb dX6_decide_30 rfl (lv_at hl 0 rfl) ?_
  refine cV (l := l) (yM := yX6_note) (C := RX6) (As := []) (rest := []) (wr := [(a0, .inr (4, [.int 0, .ref z0, .ref z1, .ref z2]))]) hF (c382_X6_note l a1 a2 a3) gv_RX6_39 0 (by decide +kernel) rfl ⟨(Nat.le_of_ble_eq_true rfl), (Nat.le_of_ble_eq_true rfl)⟩ hl.1 rfl (Nat.le_of_ble_eq_true rfl) dX6_decide_31 ⟨(Nat.le_of_ble_eq_true rfl), (Nat.le_of_ble_eq_true rfl)⟩ hP hD hS (va_free (wc := [(a1, .inr (8, [.int 0, .ref a2, .ref a3])), (a2, .inl (y 0, 8, .inl (fun _ => (-2)))), (a3, .inl (y 0, 8, .inl (fun _ => 0)))]) hD hS hA [1, 2, 3] rfl) (fun _ h => h) [1, 2, 3] [1, 2, 3] [0] rfl rfl rfl rfl rfl (by decide) 1 (ci := 8) rfl rfl rfl (fun u_2 H locs hP hD hS => ?_)
  have hP : va_P D vwCl [(a0, .inr (4, [.int 0, .ref z0, .ref z1, .ref z2])), (a1, .inr (8, [.int 1, .ref a2, .ref a3])), (a2, .inl (y 0, 8, .inl (fun _ => (-2)))), (a3, .inl (y 0, 8, .inl (fun _ => (-2))))] H := hP
  have hD : va_D A [(a0, .inr (4, [.int 0, .ref z0, .ref z1, .ref z2])), (a1, .inr (8, [.int 1, .ref a2, .ref a3])), (a2, .inl (y 0, 8, .inl (fun _ => (-2)))), (a3, .inl (y 0, 8, .inl (fun _ => (-2))))] := hD
  refine W.widen (k := 0) (n := 0) (Nat.le_of_ble_eq_true rfl) (Nat.le_of_ble_eq_true rfl) ?_
  refine W.eq (g2 := F0 m 34 ls []) rfl ?_
  exact e_v hF hr (Nat.le_of_ble_eq_true rfl) (Nat.le_of_ble_eq_true rfl) hS (qg_end hS (fun _ => 0) rfl [0, 1, 2, 3] hP rfl (hD.sub [0, 1, 2, 3] rfl rfl)) dX6_decide_34

set_option maxHeartbeats 4000000 in
set_option maxRecDepth 100000 in
theorem c380_X6_seek (l : Launch) (a0 : Nat) (a1 : Nat) (a2 : Nat) (a3 : Nat) (z0 : Nat) (z1 : Nat) (z2 : Nat) : CT l (.code yX6_seek cX6_seek 2 none) yX6_seek { frames := 3, cells := 0, slots := 0, locals := 1444 } [.ref a1, .ref a0] (fun y => [(a0, .inr (4, [.int 0, .ref z0, .ref z1, .ref z2])), (a1, .inr (8, [.int 0, .ref a2, .ref a3])), (a2, .inl (y 0, 8, .inl (fun _ => 0))), (a3, .inl (y 0, 8, .inl (fun _ => 0)))]) (fun y => [(a0, .inr (4, [.int 0, .ref z0, .ref z1, .ref z2])), (a1, .inr (8, [.int 0, .ref a2, .ref a3])), (a2, .inl (y 0, 8, .inl (fun _ => 0))), (a3, .inl (y 0, 8, .inl (fun _ => 0)))]) (fun u => none) (fun y u => [(a0, .inr (4, [.int 0, .ref z0, .ref z1, .ref z2])), (a1, .inr (8, [.int 1, .ref a2, .ref a3])), (a2, .inl (y 0, 8, .inl (fun _ => (-2)))), (a3, .inl (y 0, 8, .inl (fun _ => (-2))))]) := by
  refine mkM (by decide) (Nat.le_of_ble_eq_true rfl) ?_
  intro p e s m args below meth c D y A ls hF hr hAe hP hD hS hl
  have hF : FX p e s m args meth c cX6_seek 2 RX6 "seek" D y A := hF
  obtain ⟨⟨hx, hb, hml, hown, hts⟩, hev, heh, hA, hlk, hnm⟩ := id hF
  have hK := hev.1
  have hP : va_P D vwCl [(a0, .inr (4, [.int 0, .ref z0, .ref z1, .ref z2])), (a1, .inr (8, [.int 0, .ref a2, .ref a3])), (a2, .inl (y 0, 8, .inl (fun _ => 0))), (a3, .inl (y 0, 8, .inl (fun _ => 0)))] s.heap := hP
  have hD : va_D A [(a0, .inr (4, [.int 0, .ref z0, .ref z1, .ref z2])), (a1, .inr (8, [.int 0, .ref a2, .ref a3])), (a2, .inl (y 0, 8, .inl (fun _ => 0))), (a3, .inl (y 0, 8, .inl (fun _ => 0)))] := by rw [← hAe]; exact hD.self
  have hl : lv_has ls 2 [(0, .ref a1), (1, .ref a0)] := hl
  refine lv_aload_n hx hb dX6_seek_0 rfl (lv_at hl 0 rfl) ?_
  refine lv_iconst (v := 0) hx hb dX6_seek_1 (by decide) ?_
  refine va_put (D := D) (ci := 8) (v := .int 0) (ty := .int) (C := RX6) (T := TX6) (N := 3) hx hb hts inX6 tyX6 tyX6_ok nmX6 hown hK hP hD hS 1 rfl rfl 0 (by decide) (hts _ wd_940) (fun _ h9 => h9) rfl (by decide +kernel) rfl rfl (Nat.le_of_ble_eq_true rfl) dX6_seek_2 (fun H locs hP hD hS => ?_)
  have hP : va_P D vwCl [(a0, .inr (4, [.int 0, .ref z0, .ref z1, .ref z2])), (a1, .inr (8, [.int 0, .ref a2, .ref a3])), (a2, .inl (y 0, 8, .inl (fun _ => 0))), (a3, .inl (y 0, 8, .inl (fun _ => 0)))] H := hP
  have hD : va_D A [(a0, .inr (4, [.int 0, .ref z0, .ref z1, .ref z2])), (a1, .inr (8, [.int 0, .ref a2, .ref a3])), (a2, .inl (y 0, 8, .inl (fun _ => 0))), (a3, .inl (y 0, 8, .inl (fun _ => 0)))] := hD
  refine lv_aload_n hx hb dX6_seek_5 rfl (lv_at hl 0 rfl) ?_
  refine va_get (D := D) (ci := 8) (v := .ref a2) (C := RX6) (T := TX6) (N := 3) hx hb hts inX6 hown hK hP 1 rfl rfl 1 (by decide) (hts _ wd_100) (fun _ h9 => h9) rfl dX6_seek_6 ?_
  refine lv_bipush (v := (-2)) hx hb dX6_seek_9 (by decide) ?_
  refine cS (l := l) (yM := yJ7_fill_53178) (As := [.ref a2, .int (-2)]) (rest := []) (wr := [(a0, .inr (4, [.int 0, .ref z0, .ref z1, .ref z2])), (a1, .inr (8, [.int 0, .ref a2, .ref a3])), (a3, .inl (y 0, 8, .inl (fun _ => 0)))]) hF (c380_J7_fill_53178 l a2) gs_RX6_22 2 (by decide +kernel) rfl ⟨(Nat.le_of_ble_eq_true rfl), (Nat.le_of_ble_eq_true rfl)⟩ hl.1 rfl (Nat.le_of_ble_eq_true rfl) dX6_seek_11 ⟨(Nat.le_of_ble_eq_true rfl), (Nat.le_of_ble_eq_true rfl)⟩ hP hD hS (va_free (wc := [(a2, .inl (y 0, 8, .inl (fun _ => 0)))]) hD hS hA [2] rfl) (fun _ h => h) [2] [2] [0, 1, 3] rfl rfl rfl rfl rfl (by decide) (fun u_1 H locs hP hD hS => ?_)
  have hP : va_P D vwCl [(a0, .inr (4, [.int 0, .ref z0, .ref z1, .ref z2])), (a1, .inr (8, [.int 0, .ref a2, .ref a3])), (a3, .inl (y 0, 8, .inl (fun _ => 0))), (a2, .inl (y 0, 8, .inl (fun _ => (-2))))] H := hP
  have hD : va_D A [(a0, .inr (4, [.int 0, .ref z0, .ref z1, .ref z2])), (a1, .inr (8, [.int 0, .ref a2, .ref a3])), (a3, .inl (y 0, 8, .inl (fun _ => 0))), (a2, .inl (y 0, 8, .inl (fun _ => (-2))))] := hD
  refine W.widen (k := 0) (n := 0) (Nat.le_of_ble_eq_true rfl) (Nat.le_of_ble_eq_true rfl) ?_
  refine W.eq (g2 := F0 m 14 ls []) rfl ?_
  refine lv_aload_n hx hb dX6_seek_14 rfl (lv_at hl 0 rfl) ?_
  refine lv_aload_n hx hb dX6_seek_15 rfl (lv_at hl 1 rfl) ?_
  refine lv_iconst (v := 0) hx hb dX6_seek_16 (by decide) ?_
  refine cS (l := l) (yM := yX6_decide) (As := [.ref a1, .ref a0, .int 0]) (rest := []) (wr := []) hF (c381_X6_decide l a0 a1 a2 a3 z0 z1 z2) gs_RX6_28 3 (by decide +kernel) rfl ⟨(Nat.le_of_ble_eq_true rfl), (Nat.le_of_ble_eq_true rfl)⟩ hl.1 rfl (Nat.le_of_ble_eq_true rfl) dX6_seek_17 ⟨(Nat.le_of_ble_eq_true rfl), (Nat.le_of_ble_eq_true rfl)⟩ hP hD hS (va_free (wc := [(a0, .inr (4, [.int 0, .ref z0, .ref z1, .ref z2])), (a1, .inr (8, [.int 0, .ref a2, .ref a3])), (a2, .inl (y 0, 8, .inl (fun _ => (-2)))), (a3, .inl (y 0, 8, .inl (fun _ => 0)))]) hD hS hA [0, 1, 3, 2] rfl) (fun _ h => h) [0, 1, 3, 2] [0, 1, 3, 2] [] rfl rfl rfl rfl rfl (by decide) (fun u_2 H locs hP hD hS => ?_)
  have hP : va_P D vwCl [(a0, .inr (4, [.int 0, .ref z0, .ref z1, .ref z2])), (a1, .inr (8, [.int 1, .ref a2, .ref a3])), (a2, .inl (y 0, 8, .inl (fun _ => (-2)))), (a3, .inl (y 0, 8, .inl (fun _ => (-2))))] H := hP
  have hD : va_D A [(a0, .inr (4, [.int 0, .ref z0, .ref z1, .ref z2])), (a1, .inr (8, [.int 1, .ref a2, .ref a3])), (a2, .inl (y 0, 8, .inl (fun _ => (-2)))), (a3, .inl (y 0, 8, .inl (fun _ => (-2))))] := hD
  refine W.widen (k := 0) (n := 0) (Nat.le_of_ble_eq_true rfl) (Nat.le_of_ble_eq_true rfl) ?_
  refine W.eq (g2 := F0 m 20 ls []) rfl ?_
  exact e_v hF hr (Nat.le_of_ble_eq_true rfl) (Nat.le_of_ble_eq_true rfl) hS (qg_end hS (fun _ => 0) rfl [0, 1, 2, 3] hP rfl (hD.sub [0, 1, 2, 3] rfl rfl)) dX6_seek_20

set_option maxHeartbeats 4000000 in
set_option maxRecDepth 100000 in
theorem c379_X10_rooms (l : Launch) (a0 : Nat) (a1 : Nat) (a2 : Nat) (a3 : Nat) (a4 : Nat) (z0 : Nat) (z1 : Nat) (z2 : Nat) (z3 : Nat) (z4 : Nat) (z5 : Nat) (z6 : Nat) (z7 : Nat) (z8 : Nat) (z9 : Nat) (z10 : Nat) (z11 : Nat) (z12 : Nat) (z13 : Nat) (z14 : Nat) (z15 : Nat) : CT l (.code yX10_rooms cX10_rooms 1 (some .int)) yX10_rooms { frames := 4, cells := 0, slots := 0, locals := 1465 } [.ref a0] (fun y => [(a0, .inr (12, [.ref z0, .ref a1, .ref z1, .ref z2, .ref z3, .ref z4, .ref z5, .ref z6, .ref z7, .ref z8, .ref z9, .ref z10, .ref z11, .ref a2, .ref z12])), (a1, .inr (4, [.int 0, .ref z13, .ref z14, .ref z15])), (a2, .inr (8, [.int 0, .ref a3, .ref a4])), (a3, .inl (y 0, 8, .inl (fun _ => 0))), (a4, .inl (y 0, 8, .inl (fun _ => 0)))]) (fun y => [(a0, .inr (12, [.ref z0, .ref a1, .ref z1, .ref z2, .ref z3, .ref z4, .ref z5, .ref z6, .ref z7, .ref z8, .ref z9, .ref z10, .ref z11, .ref a2, .ref z12])), (a1, .inr (4, [.int 0, .ref z13, .ref z14, .ref z15])), (a2, .inr (8, [.int 0, .ref a3, .ref a4])), (a3, .inl (y 0, 8, .inl (fun _ => 0))), (a4, .inl (y 0, 8, .inl (fun _ => 0)))]) (fun u => some (.int 1)) (fun y u => [(a0, .inr (12, [.ref z0, .ref a1, .ref z1, .ref z2, .ref z3, .ref z4, .ref z5, .ref z6, .ref z7, .ref z8, .ref z9, .ref z10, .ref z11, .ref a2, .ref z12])), (a1, .inr (4, [.int 0, .ref z13, .ref z14, .ref z15])), (a2, .inr (8, [.int 1, .ref a3, .ref a4])), (a3, .inl (y 0, 8, .inl (fun _ => (-2)))), (a4, .inl (y 0, 8, .inl (fun _ => (-2))))]) := by
  refine mkM (by decide) (Nat.le_of_ble_eq_true rfl) ?_
  intro p e s m args below meth c D y A ls hF hr hAe hP hD hS hl
  have hF : FX p e s m args meth c cX10_rooms 1 RX10 "rooms" D y A := hF
  obtain ⟨⟨hx, hb, hml, hown, hts⟩, hev, heh, hA, hlk, hnm⟩ := id hF
  have hK := hev.1
  have hP : va_P D vwCl [(a0, .inr (12, [.ref z0, .ref a1, .ref z1, .ref z2, .ref z3, .ref z4, .ref z5, .ref z6, .ref z7, .ref z8, .ref z9, .ref z10, .ref z11, .ref a2, .ref z12])), (a1, .inr (4, [.int 0, .ref z13, .ref z14, .ref z15])), (a2, .inr (8, [.int 0, .ref a3, .ref a4])), (a3, .inl (y 0, 8, .inl (fun _ => 0))), (a4, .inl (y 0, 8, .inl (fun _ => 0)))] s.heap := hP
  have hD : va_D A [(a0, .inr (12, [.ref z0, .ref a1, .ref z1, .ref z2, .ref z3, .ref z4, .ref z5, .ref z6, .ref z7, .ref z8, .ref z9, .ref z10, .ref z11, .ref a2, .ref z12])), (a1, .inr (4, [.int 0, .ref z13, .ref z14, .ref z15])), (a2, .inr (8, [.int 0, .ref a3, .ref a4])), (a3, .inl (y 0, 8, .inl (fun _ => 0))), (a4, .inl (y 0, 8, .inl (fun _ => 0)))] := by rw [← hAe]; exact hD.self
  have hl : lv_has ls 1 [(0, .ref a0)] := hl
  refine lv_aload_n hx hb dX10_rooms_0 rfl (lv_at hl 0 rfl) ?_
  refine cV (l := l) (yM := yX10_needFewMates) (C := RX10) (As := []) (rest := []) (wr := [(a0, .inr (12, [.ref z0, .ref a1, .ref z1, .ref z2, .ref z3, .ref z4, .ref z5, .ref z6, .ref z7, .ref z8, .ref z9, .ref z10, .ref z11, .ref a2, .ref z12])), (a1, .inr (4, [.int 0, .ref z13, .ref z14, .ref z15])), (a2, .inr (8, [.int 0, .ref a3, .ref a4])), (a3, .inl (y 0, 8, .inl (fun _ => 0))), (a4, .inl (y 0, 8, .inl (fun _ => 0)))]) hF (c379_X10_needFewMates l a0 a1 z0 z1 z2 z3 z4 z5 z6 z7 z8 z9 z10 z11 a2 z12 z13 z14 z15) gv_RX10_385 0 (by decide +kernel) rfl ⟨(Nat.le_of_ble_eq_true rfl), (Nat.le_of_ble_eq_true rfl)⟩ hl.1 rfl (Nat.le_of_ble_eq_true rfl) dX10_rooms_1 ⟨(Nat.le_of_ble_eq_true rfl), (Nat.le_of_ble_eq_true rfl)⟩ hP hD hS (pA hA hS) (fun _ h => h) [0, 1] [] [0, 1, 2, 3, 4] rfl rfl rfl rfl rfl (by decide) 0 (ci := 12) rfl rfl rfl (fun u_1 H locs hP hD hS => ?_)
  have hP : va_P D vwCl [(a0, .inr (12, [.ref z0, .ref a1, .ref z1, .ref z2, .ref z3, .ref z4, .ref z5, .ref z6, .ref z7, .ref z8, .ref z9, .ref z10, .ref z11, .ref a2, .ref z12])), (a1, .inr (4, [.int 0, .ref z13, .ref z14, .ref z15])), (a2, .inr (8, [.int 0, .ref a3, .ref a4])), (a3, .inl (y 0, 8, .inl (fun _ => 0))), (a4, .inl (y 0, 8, .inl (fun _ => 0)))] H := hP
  have hD : va_D A [(a0, .inr (12, [.ref z0, .ref a1, .ref z1, .ref z2, .ref z3, .ref z4, .ref z5, .ref z6, .ref z7, .ref z8, .ref z9, .ref z10, .ref z11, .ref a2, .ref z12])), (a1, .inr (4, [.int 0, .ref z13, .ref z14, .ref z15])), (a2, .inr (8, [.int 0, .ref a3, .ref a4])), (a3, .inl (y 0, 8, .inl (fun _ => 0))), (a4, .inl (y 0, 8, .inl (fun _ => 0)))] := hD
  refine W.widen (k := 0) (n := 0) (Nat.le_of_ble_eq_true rfl) (Nat.le_of_ble_eq_true rfl) ?_
  refine W.eq (g2 := F0 m 4 ls []) rfl ?_
  refine lv_aload_n hx hb dX10_rooms_4 rfl (lv_at hl 0 rfl) ?_
  refine va_get (D := D) (ci := 12) (v := .ref a2) (C := RX10) (T := TX10) (N := 15) hx hb hts inX10 hown hK hP 0 rfl rfl 13 (by decide) (hts _ wd_104) (fun _ h9 => h9) rfl dX10_rooms_5 ?_
  refine lv_aload_n hx hb dX10_rooms_8 rfl (lv_at hl 0 rfl) ?_
  refine va_get (D := D) (ci := 12) (v := .ref a1) (C := RX10) (T := TX10) (N := 15) hx hb hts inX10 hown hK hP 0 rfl rfl 1 (by decide) (hts _ wd_26) (fun _ h9 => h9) rfl dX10_rooms_9 ?_
  refine cV (l := l) (yM := yX6_seek) (C := RX6) (As := [.ref a1]) (rest := []) (wr := [(a0, .inr (12, [.ref z0, .ref a1, .ref z1, .ref z2, .ref z3, .ref z4, .ref z5, .ref z6, .ref z7, .ref z8, .ref z9, .ref z10, .ref z11, .ref a2, .ref z12]))]) hF (c380_X6_seek l a1 a2 a3 a4 z13 z14 z15) gv_RX10_388 1 (by decide +kernel) rfl ⟨(Nat.le_of_ble_eq_true rfl), (Nat.le_of_ble_eq_true rfl)⟩ hl.1 rfl (Nat.le_of_ble_eq_true rfl) dX10_rooms_12 ⟨(Nat.le_of_ble_eq_true rfl), (Nat.le_of_ble_eq_true rfl)⟩ hP hD hS (va_free (wc := [(a1, .inr (4, [.int 0, .ref z13, .ref z14, .ref z15])), (a2, .inr (8, [.int 0, .ref a3, .ref a4])), (a3, .inl (y 0, 8, .inl (fun _ => 0))), (a4, .inl (y 0, 8, .inl (fun _ => 0)))]) hD hS hA [1, 2, 3, 4] rfl) (fun _ h => h) [1, 2, 3, 4] [1, 2, 3, 4] [0] rfl rfl rfl rfl rfl (by decide) 2 (ci := 8) rfl rfl rfl (fun u_2 H locs hP hD hS => ?_)
  have hP : va_P D vwCl [(a0, .inr (12, [.ref z0, .ref a1, .ref z1, .ref z2, .ref z3, .ref z4, .ref z5, .ref z6, .ref z7, .ref z8, .ref z9, .ref z10, .ref z11, .ref a2, .ref z12])), (a1, .inr (4, [.int 0, .ref z13, .ref z14, .ref z15])), (a2, .inr (8, [.int 1, .ref a3, .ref a4])), (a3, .inl (y 0, 8, .inl (fun _ => (-2)))), (a4, .inl (y 0, 8, .inl (fun _ => (-2))))] H := hP
  have hD : va_D A [(a0, .inr (12, [.ref z0, .ref a1, .ref z1, .ref z2, .ref z3, .ref z4, .ref z5, .ref z6, .ref z7, .ref z8, .ref z9, .ref z10, .ref z11, .ref a2, .ref z12])), (a1, .inr (4, [.int 0, .ref z13, .ref z14, .ref z15])), (a2, .inr (8, [.int 1, .ref a3, .ref a4])), (a3, .inl (y 0, 8, .inl (fun _ => (-2)))), (a4, .inl (y 0, 8, .inl (fun _ => (-2))))] := hD
  refine W.widen (k := 0) (n := 0) (Nat.le_of_ble_eq_true rfl) (Nat.le_of_ble_eq_true rfl) ?_
  refine W.eq (g2 := F0 m 15 ls []) rfl ?_
  refine lv_aload_n hx hb dX10_rooms_15 rfl (lv_at hl 0 rfl) ?_
  refine va_get (D := D) (ci := 12) (v := .ref a2) (C := RX10) (T := TX10) (N := 15) hx hb hts inX10 hown hK hP 0 rfl rfl 13 (by decide) (hts _ wd_104) (fun _ h9 => h9) rfl dX10_rooms_16 ?_
  refine va_getN (D := D) (ci := 8) (v := .int 1) (C := RX6) (T := TX6) (N := 3) hx hb hts inX6 hown hK hP 2 rfl rfl 0 (by decide) (va_Nw.use (A := args) rfl (hev.2.1 (RX10, 392, RX6, "count", "I") (List.mem_of_getElem? (i := 21) rfl))) (fun _ h9 => h9) rfl dX10_rooms_19 ?_
  exact e_i hF hr (Nat.le_of_ble_eq_true rfl) (Nat.le_of_ble_eq_true rfl) hS (qg_end hS (fun _ => 0) rfl [0, 1, 2, 3, 4] hP rfl (hD.sub [0, 1, 2, 3, 4] rfl rfl)) dX10_rooms_22

set_option maxHeartbeats 4000000 in
set_option maxRecDepth 100000 in
theorem c379_L_rooms (l : Launch) (a0 : Nat) (a1 : Nat) (a2 : Nat) (a3 : Nat) (a4 : Nat) (a5 : Nat) (z0 : Nat) (z1 : Nat) (z2 : Nat) (z3 : Nat) (z4 : Nat) (z5 : Nat) (z6 : Nat) (z7 : Nat) (z8 : Nat) (z9 : Nat) (z10 : Nat) (z11 : Nat) (z12 : Nat) (z13 : Nat) (z14 : Nat) (z15 : Nat) : CT l (.codeWith yL_rooms cL_rooms 3 (some .int) [(0, 8, 11, 61)]) yL_rooms { frames := 5, cells := 0, slots := 0, locals := 1485 } [.ref a0, .ref a5] (fun y => [(a0, .inr (12, [.ref z0, .ref a1, .ref z1, .ref z2, .ref z3, .ref z4, .ref z5, .ref z6, .ref z7, .ref z8, .ref z9, .ref z10, .ref z11, .ref a2, .ref z12])), (a1, .inr (4, [.int 0, .ref z13, .ref z14, .ref z15])), (a2, .inr (8, [.int 0, .ref a3, .ref a4])), (a3, .inl (y 0, 8, .inl (fun _ => 0))), (a4, .inl (y 0, 8, .inl (fun _ => 0))), (a5, .inl (y 2, 1, .inr (.inl (fun _ => 0))))]) (fun y => [(a0, .inr (12, [.ref z0, .ref a1, .ref z1, .ref z2, .ref z3, .ref z4, .ref z5, .ref z6, .ref z7, .ref z8, .ref z9, .ref z10, .ref z11, .ref a2, .ref z12])), (a1, .inr (4, [.int 0, .ref z13, .ref z14, .ref z15])), (a2, .inr (8, [.int 0, .ref a3, .ref a4])), (a3, .inl (y 0, 8, .inl (fun _ => 0))), (a4, .inl (y 0, 8, .inl (fun _ => 0))), (a5, .inl (y 2, 1, .inr (.inl (fun _ => 0))))]) (fun u => some (.int 0)) (fun y u => [(a0, .inr (12, [.ref z0, .ref a1, .ref z1, .ref z2, .ref z3, .ref z4, .ref z5, .ref z6, .ref z7, .ref z8, .ref z9, .ref z10, .ref z11, .ref a2, .ref z12])), (a1, .inr (4, [.int 0, .ref z13, .ref z14, .ref z15])), (a2, .inr (8, [.int 1, .ref a3, .ref a4])), (a3, .inl (y 0, 8, .inl (fun _ => (-2)))), (a4, .inl (y 0, 8, .inl (fun _ => (-2)))), (a5, .inl (y 2, 1, .inr (.inl (fun _ => 1))))]) := by
  refine mkH (by decide) (Nat.le_of_ble_eq_true rfl) ?_
  intro p e s m args below meth c D y A ls hF htab hr hAe hP hD hS hl
  have hF : FX p e s m args meth c cL_rooms 3 RL "rooms" D y A := hF
  obtain ⟨⟨hx, hb, hml, hown, hts⟩, hev, heh, hA, hlk, hnm⟩ := id hF
  have hK := hev.1
  have hP : va_P D vwCl [(a0, .inr (12, [.ref z0, .ref a1, .ref z1, .ref z2, .ref z3, .ref z4, .ref z5, .ref z6, .ref z7, .ref z8, .ref z9, .ref z10, .ref z11, .ref a2, .ref z12])), (a1, .inr (4, [.int 0, .ref z13, .ref z14, .ref z15])), (a2, .inr (8, [.int 0, .ref a3, .ref a4])), (a3, .inl (y 0, 8, .inl (fun _ => 0))), (a4, .inl (y 0, 8, .inl (fun _ => 0))), (a5, .inl (y 2, 1, .inr (.inl (fun _ => 0))))] s.heap := hP
  have hD : va_D A [(a0, .inr (12, [.ref z0, .ref a1, .ref z1, .ref z2, .ref z3, .ref z4, .ref z5, .ref z6, .ref z7, .ref z8, .ref z9, .ref z10, .ref z11, .ref a2, .ref z12])), (a1, .inr (4, [.int 0, .ref z13, .ref z14, .ref z15])), (a2, .inr (8, [.int 0, .ref a3, .ref a4])), (a3, .inl (y 0, 8, .inl (fun _ => 0))), (a4, .inl (y 0, 8, .inl (fun _ => 0))), (a5, .inl (y 2, 1, .inr (.inl (fun _ => 0))))] := by rw [← hAe]; exact hD.self
  have hl : lv_has ls 3 [(0, .ref a0), (1, .ref a5)] := hl
  refine lv_aload_n hx hb dL_rooms_0 rfl (lv_at hl 1 rfl) ?_
  refine lv_iconst (v := 0) hx hb dL_rooms_1 (by decide) ?_
  refine lv_aload_n hx hb dL_rooms_2 rfl (lv_at hl 0 rfl) ?_
  refine cV (l := l) (yM := yX10_rooms) (C := RX10) (As := []) (rest := [.int 0, .ref a5]) (wr := [(a5, .inl (y 2, 1, .inr (.inl (fun _ => 0))))]) hF (c379_X10_rooms l a0 a1 a2 a3 a4 z0 z1 z2 z3 z4 z5 z6 z7 z8 z9 z10 z11 z12 z13 z14 z15) gv_RL_137 0 (by decide +kernel) rfl ⟨(Nat.le_of_ble_eq_true rfl), (Nat.le_of_ble_eq_true rfl)⟩ hl.1 rfl (Nat.le_of_ble_eq_true rfl) dL_rooms_3 ⟨(Nat.le_of_ble_eq_true rfl), (Nat.le_of_ble_eq_true rfl)⟩ hP hD hS (va_free (wc := [(a0, .inr (12, [.ref z0, .ref a1, .ref z1, .ref z2, .ref z3, .ref z4, .ref z5, .ref z6, .ref z7, .ref z8, .ref z9, .ref z10, .ref z11, .ref a2, .ref z12])), (a1, .inr (4, [.int 0, .ref z13, .ref z14, .ref z15])), (a2, .inr (8, [.int 0, .ref a3, .ref a4])), (a3, .inl (y 0, 8, .inl (fun _ => 0))), (a4, .inl (y 0, 8, .inl (fun _ => 0)))]) hD hS hA [0, 1, 2, 3, 4] rfl) (fun _ h => h) [0, 1, 2, 3, 4] [0, 1, 2, 3, 4] [5] rfl rfl rfl rfl rfl (by decide) 0 (ci := 12) rfl rfl rfl (fun u_1 H locs hP hD hS => ?_)
  have hP : va_P D vwCl [(a5, .inl (y 2, 1, .inr (.inl (fun _ => 0)))), (a0, .inr (12, [.ref z0, .ref a1, .ref z1, .ref z2, .ref z3, .ref z4, .ref z5, .ref z6, .ref z7, .ref z8, .ref z9, .ref z10, .ref z11, .ref a2, .ref z12])), (a1, .inr (4, [.int 0, .ref z13, .ref z14, .ref z15])), (a2, .inr (8, [.int 1, .ref a3, .ref a4])), (a3, .inl (y 0, 8, .inl (fun _ => (-2)))), (a4, .inl (y 0, 8, .inl (fun _ => (-2))))] H := hP
  have hD : va_D A [(a5, .inl (y 2, 1, .inr (.inl (fun _ => 0)))), (a0, .inr (12, [.ref z0, .ref a1, .ref z1, .ref z2, .ref z3, .ref z4, .ref z5, .ref z6, .ref z7, .ref z8, .ref z9, .ref z10, .ref z11, .ref a2, .ref z12])), (a1, .inr (4, [.int 0, .ref z13, .ref z14, .ref z15])), (a2, .inr (8, [.int 1, .ref a3, .ref a4])), (a3, .inl (y 0, 8, .inl (fun _ => (-2)))), (a4, .inl (y 0, 8, .inl (fun _ => (-2))))] := hD
  refine W.widen (k := 0) (n := 0) (Nat.le_of_ble_eq_true rfl) (Nat.le_of_ble_eq_true rfl) ?_
  refine W.eq (g2 := F0 m 6 ls [.int 1, .int 0, .ref a5]) rfl ?_
  refine lv_i2l (v := 1) hx hb dL_rooms_6 (by decide) ?_
  refine va_last hx hb hK hP hD hS 0 2 rfl rfl (vp_in_nI (n := 0) (by decide) (by decide)) dL_rooms_7 (fun H locs hP hD hS => ?_)
  have hP : va_P D vwCl [(a5, .inl (y 2, 1, .inr (.inl (vp_updL (fun _ => 0) 0 1)))), (a0, .inr (12, [.ref z0, .ref a1, .ref z1, .ref z2, .ref z3, .ref z4, .ref z5, .ref z6, .ref z7, .ref z8, .ref z9, .ref z10, .ref z11, .ref a2, .ref z12])), (a1, .inr (4, [.int 0, .ref z13, .ref z14, .ref z15])), (a2, .inr (8, [.int 1, .ref a3, .ref a4])), (a3, .inl (y 0, 8, .inl (fun _ => (-2)))), (a4, .inl (y 0, 8, .inl (fun _ => (-2))))] H := hP
  have hD : va_D A [(a5, .inl (y 2, 1, .inr (.inl (vp_updL (fun _ => 0) 0 1)))), (a0, .inr (12, [.ref z0, .ref a1, .ref z1, .ref z2, .ref z3, .ref z4, .ref z5, .ref z6, .ref z7, .ref z8, .ref z9, .ref z10, .ref z11, .ref a2, .ref z12])), (a1, .inr (4, [.int 0, .ref z13, .ref z14, .ref z15])), (a2, .inr (8, [.int 1, .ref a3, .ref a4])), (a3, .inl (y 0, 8, .inl (fun _ => (-2)))), (a4, .inl (y 0, 8, .inl (fun _ => (-2))))] := hD
  refine lv_goto (tgt := 14) hx hb dL_rooms_8 (by decide) ?_
  refine lv_iconst (v := 0) hx hb dL_rooms_14 (by decide) ?_
  obtain ⟨hP, hD⟩ := same_l (g := (fun _ => 1)) hP hD 0 rfl (fun j hj => by have h9 : j < 1 := hj; rcases (show j = 0 by omega) with rfl <;> rfl)
  have hP : va_P D vwCl [(a5, .inl (y 2, 1, .inr (.inl (fun _ => 1)))), (a0, .inr (12, [.ref z0, .ref a1, .ref z1, .ref z2, .ref z3, .ref z4, .ref z5, .ref z6, .ref z7, .ref z8, .ref z9, .ref z10, .ref z11, .ref a2, .ref z12])), (a1, .inr (4, [.int 0, .ref z13, .ref z14, .ref z15])), (a2, .inr (8, [.int 1, .ref a3, .ref a4])), (a3, .inl (y 0, 8, .inl (fun _ => (-2)))), (a4, .inl (y 0, 8, .inl (fun _ => (-2))))] _ := hP
  have hD : va_D A [(a5, .inl (y 2, 1, .inr (.inl (fun _ => 1)))), (a0, .inr (12, [.ref z0, .ref a1, .ref z1, .ref z2, .ref z3, .ref z4, .ref z5, .ref z6, .ref z7, .ref z8, .ref z9, .ref z10, .ref z11, .ref a2, .ref z12])), (a1, .inr (4, [.int 0, .ref z13, .ref z14, .ref z15])), (a2, .inr (8, [.int 1, .ref a3, .ref a4])), (a3, .inl (y 0, 8, .inl (fun _ => (-2)))), (a4, .inl (y 0, 8, .inl (fun _ => (-2))))] := hD
  exact e_i hF hr (Nat.le_of_ble_eq_true rfl) (Nat.le_of_ble_eq_true rfl) hS (qg_end hS (fun _ => 0) rfl [1, 2, 3, 4, 5, 0] hP rfl (hD.sub [1, 2, 3, 4, 5, 0] rfl rfl)) dL_rooms_15

set_option maxHeartbeats 4000000 in
set_option maxRecDepth 100000 in
theorem c387_X11_isQuiet (l : Launch) (a0 : Nat) (a1 : Nat) (z0 : Nat) (z1 : Nat) (z2 : Nat) (z3 : Nat) (z4 : Nat) (z5 : Nat) (z6 : Nat) (z7 : Nat) (z8 : Nat) (z9 : Nat) (z10 : Nat) (z11 : Nat) (z12 : Nat) (z13 : Nat) : CT l (.code yX11_isQuiet cX11_isQuiet 5 (some .boolean)) yX11_isQuiet { frames := 0, cells := 0, slots := 0, locals := 0 } [.ref a0, .ref z13] (fun y => [(a0, .inr (13, [.ref a1, .ref z0, .ref z1, .ref z2, .ref z3, .ref z4, .int 45, .ref z5, .ref z6, .ref z7, .int 0, .ref z8, .ref z9, .int 0, .int 0, .int 0, .int 0, .ref z10, .int 0, .null, .ref z11, .ref z12])), (a1, .inl (y 0, 3, .inl (fun _ => 0)))]) (fun _ => []) (fun u => some (.int 1)) (fun y u => []) := by
  refine mkM (by decide) (Nat.le_of_ble_eq_true rfl) ?_
  intro p e s m args below meth c D y A ls hF hr hAe hP hD hS hl
  have hF : FX p e s m args meth c cX11_isQuiet 5 RX11 "isQuiet" D y A := hF
  obtain ⟨⟨hx, hb, hml, hown, hts⟩, hev, heh, hA, hlk, hnm⟩ := id hF
  have hK := hev.1
  have hP : va_P D vwCl [(a0, .inr (13, [.ref a1, .ref z0, .ref z1, .ref z2, .ref z3, .ref z4, .int 45, .ref z5, .ref z6, .ref z7, .int 0, .ref z8, .ref z9, .int 0, .int 0, .int 0, .int 0, .ref z10, .int 0, .null, .ref z11, .ref z12])), (a1, .inl (y 0, 3, .inl (fun _ => 0)))] s.heap := hP
  have hD : va_D (fun _ => True) [(a0, .inr (13, [.ref a1, .ref z0, .ref z1, .ref z2, .ref z3, .ref z4, .int 45, .ref z5, .ref z6, .ref z7, .int 0, .ref z8, .ref z9, .int 0, .int 0, .int 0, .int 0, .ref z10, .int 0, .null, .ref z11, .ref z12])), (a1, .inl (y 0, 3, .inl (fun _ => 0)))] := hD
  have hl : lv_has ls 5 [(0, .ref a0), (1, .ref z13)] := hl
  refine lv_iconst (v := 1) hx hb dX11_isQuiet_0 (by decide) ?_
  refine lv_istore_n (lv' := [(2, .int 1), (0, .ref a0), (1, .ref z13)]) hx hb dX11_isQuiet_1 rfl hl (by decide) rfl (fun ls hl => ?_)
  refine lv_iconst (v := 0) hx hb dX11_isQuiet_2 (by decide) ?_
  refine lv_istore_n (lv' := [(3, .int 0), (2, .int 1), (0, .ref a0), (1, .ref z13)]) hx hb dX11_isQuiet_3 rfl hl (by decide) rfl (fun ls hl => ?_)
  refine lv_iload_n hx hb dX11_isQuiet_4 rfl (lv_at hl 0 rfl) ?_
  refine lv_aload_n hx hb dX11_isQuiet_5 rfl (lv_at hl 2 rfl) ?_
  refine va_get (D := D) (ci := 13) (v := .ref a1) (C := RX11) (T := TX11) (N := 22) hx hb hts inX11 hown hK hP 0 rfl rfl 0 (by decide) (hts _ wd_115) (fun _ h9 => h9) rfl dX11_isQuiet_6 ?_
  refine lv_iconst (v := 2) hx hb dX11_isQuiet_9 (by decide) ?_
  refine va_iald hx hb hK hP 1 0 rfl rfl (vp_in_nI (n := 2) (by decide) (by decide)) dX11_isQuiet_10 ?_
  refine tp_i (v := 0) rfl ?_
  refine lv_icmp_ge (tgt := 92) hx hb dX11_isQuiet_11 (by decide) (fun _ => ?_) (fun c => absurd (by decide) c)
  refine lv_iload_n hx hb dX11_isQuiet_92 rfl (lv_at hl 1 rfl) ?_
  exact e_z hF hr (by decide) (Nat.le_of_ble_eq_true rfl) (Nat.le_of_ble_eq_true rfl) hS (qg_end hS (fun _ => 0) rfl [] hP rfl d_nil) dX11_isQuiet_93

set_option maxHeartbeats 4000000 in
set_option maxRecDepth 100000 in
theorem c388_X11_copied (l : Launch) (a0 : Nat) : CT l (.code yX11_copied cX11_copied 3 (some (.array .int))) yX11_copied { frames := 0, cells := 1, slots := 0, locals := 0 } [.ref a0] (fun y => [(a0, .inl (y 0, 0, .inl (fun _ => 0)))]) (fun y => [(a0, .inl (y 0, 0, .inl (fun _ => 0)))]) (fun u => some (.ref (u 0))) (fun y u => [(a0, .inl (y 0, 0, .inl (fun _ => 0))), ((u 0), .inl (y 0, 0, .inl (fun _ => 0)))]) := by
  refine mkM (by decide) (Nat.le_of_ble_eq_true rfl) ?_
  intro p e s m args below meth c D y A ls hF hr hAe hP hD hS hl
  have hF : FX p e s m args meth c cX11_copied 3 RX11 "copied" D y A := hF
  obtain ⟨⟨hx, hb, hml, hown, hts⟩, hev, heh, hA, hlk, hnm⟩ := id hF
  have hK := hev.1
  have hP : va_P D vwCl [(a0, .inl (y 0, 0, .inl (fun _ => 0)))] s.heap := hP
  have hD : va_D A [(a0, .inl (y 0, 0, .inl (fun _ => 0)))] := by rw [← hAe]; exact hD.self
  have hl : lv_has ls 3 [(0, .ref a0)] := hl
  refine lv_aload_n hx hb dX11_copied_0 rfl (lv_at hl 0 rfl) ?_
  refine va_alen (v := 0) hx hb hK hP 0 0 rfl rfl (by decide) dX11_copied_1 ?_
  refine na_int (N := 0) hF (hts _ wd_12) hP hD hS (by decide) (by decide) (by decide) (Nat.le_of_ble_eq_true rfl) (Nat.le_of_ble_eq_true rfl) dX11_copied_2 (fun q_1 H hP hD hS => ?_)
  have hP : va_P D vwCl [(a0, .inl (y 0, 0, .inl (fun _ => 0))), (q_1, .inl (y 0, 0, .inl (fun _ => 0)))] H := hP
  have hD : va_D A [(a0, .inl (y 0, 0, .inl (fun _ => 0))), (q_1, .inl (y 0, 0, .inl (fun _ => 0)))] := hD
  refine W.widen (k := 1) (n := 0) (Nat.le_of_ble_eq_true rfl) (Nat.le_of_ble_eq_true rfl) ?_
  refine lv_astore_n (lv' := [(1, .ref q_1), (0, .ref a0)]) hx hb dX11_copied_4 rfl hl (by decide) rfl (fun ls hl => ?_)
  refine lv_iconst (v := 0) hx hb dX11_copied_5 (by decide) ?_
  refine lv_istore_n (lv' := [(2, .int 0), (1, .ref q_1), (0, .ref a0)]) hx hb dX11_copied_6 rfl hl (by decide) rfl (fun ls hl => ?_)
  refine lv_iload_n hx hb dX11_copied_7 rfl (lv_at hl 0 rfl) ?_
  refine lv_aload_n hx hb dX11_copied_8 rfl (lv_at hl 2 rfl) ?_
  refine va_alen (v := 0) hx hb hK hP 0 0 rfl rfl (by decide) dX11_copied_9 ?_
  refine lv_icmp_ge (tgt := 25) hx hb dX11_copied_10 (by decide) (fun _ => ?_) (fun c => absurd (by decide) c)
  refine lv_aload_n hx hb dX11_copied_25 rfl (lv_at hl 1 rfl) ?_
  exact e_a hF hr (Or.inr ⟨_, rfl⟩) (Nat.le_of_ble_eq_true rfl) (Nat.le_of_ble_eq_true rfl) hS (qg_end hS (adl [q_1]) rfl [0, 1] hP rfl (hD.sub [0, 1] rfl rfl)) dX11_copied_26

set_option maxHeartbeats 4000000 in
set_option maxRecDepth 100000 in
theorem c387_X11_quiet (l : Launch) (a0 : Nat) (a1 : Nat) (z0 : Nat) (z1 : Nat) (z2 : Nat) (z3 : Nat) (z4 : Nat) (z5 : Nat) (z6 : Nat) (z7 : Nat) (z8 : Nat) (z9 : Nat) (z10 : Nat) (z11 : Nat) (z12 : Nat) : CT l (.code yX11_quiet cX11_quiet 8 (some .int)) yX11_quiet { frames := 1, cells := 3, slots := 0, locals := 24 } [.ref a0] (fun y => [(a0, .inr (13, [.ref a1, .ref z0, .ref z1, .ref z2, .ref z3, .ref z4, .int 45, .ref z5, .ref z6, .ref z7, .int 0, .ref z8, .ref z9, .int 0, .int 0, .int 0, .int 0, .ref z10, .int 0, .null, .ref z11, .ref z12])), (a1, .inl (y 0, 3, .inl (fun _ => 0)))]) (fun y => [(a0, .inr (13, [.ref a1, .ref z0, .ref z1, .ref z2, .ref z3, .ref z4, .int 45, .ref z5, .ref z6, .ref z7, .int 0, .ref z8, .ref z9, .int 0, .int 0, .int 0, .int 0, .ref z10, .int 0, .null, .ref z11, .ref z12])), (a1, .inl (y 0, 3, .inl (fun _ => 0)))]) (fun u => some (.int 1)) (fun y u => [(a0, .inr (13, [.ref a1, .ref z0, .ref z1, .ref z2, .ref z3, .ref z4, .int 45, .ref z5, .ref z6, .ref z7, .int 0, .ref z8, .ref z9, .int 0, .int 0, .int 0, .int 0, .ref z10, .int 0, .ref (u 0), .ref z11, .ref z12])), (a1, .inl (y 0, 3, .inl (fun _ => 0))), ((u 0), .inl (y 0, 0, .inl (fun _ => 0)))]) := by
  refine mkM (by decide) (Nat.le_of_ble_eq_true rfl) ?_
  intro p e s m args below meth c D y A ls hF hr hAe hP hD hS hl
  have hF : FX p e s m args meth c cX11_quiet 8 RX11 "quiet" D y A := hF
  obtain ⟨⟨hx, hb, hml, hown, hts⟩, hev, heh, hA, hlk, hnm⟩ := id hF
  have hK := hev.1
  have hP : va_P D vwCl [(a0, .inr (13, [.ref a1, .ref z0, .ref z1, .ref z2, .ref z3, .ref z4, .int 45, .ref z5, .ref z6, .ref z7, .int 0, .ref z8, .ref z9, .int 0, .int 0, .int 0, .int 0, .ref z10, .int 0, .null, .ref z11, .ref z12])), (a1, .inl (y 0, 3, .inl (fun _ => 0)))] s.heap := hP
  have hD : va_D A [(a0, .inr (13, [.ref a1, .ref z0, .ref z1, .ref z2, .ref z3, .ref z4, .int 45, .ref z5, .ref z6, .ref z7, .int 0, .ref z8, .ref z9, .int 0, .int 0, .int 0, .int 0, .ref z10, .int 0, .null, .ref z11, .ref z12])), (a1, .inl (y 0, 3, .inl (fun _ => 0)))] := by rw [← hAe]; exact hD.self
  have hl : lv_has ls 8 [(0, .ref a0)] := hl
  refine lv_aload_n hx hb dX11_quiet_0 rfl (lv_at hl 0 rfl) ?_
  refine va_get (D := D) (ci := 13) (v := .ref a1) (C := RX11) (T := TX11) (N := 22) hx hb hts inX11 hown hK hP 0 rfl rfl 0 (by decide) (hts _ wd_115) (fun _ h9 => h9) rfl dX11_quiet_1 ?_
  refine lv_iconst (v := 2) hx hb dX11_quiet_4 (by decide) ?_
  refine va_iald hx hb hK hP 1 0 rfl rfl (vp_in_nI (n := 2) (by decide) (by decide)) dX11_quiet_5 ?_
  refine tp_i (v := 0) rfl ?_
  refine lv_istore_n (lv' := [(1, .int 0), (0, .ref a0)]) hx hb dX11_quiet_6 rfl hl (by decide) rfl (fun ls hl => ?_)
  refine lv_iload_n hx hb dX11_quiet_7 rfl (lv_at hl 0 rfl) ?_
  refine na_int (N := 0) hF (hts _ wd_12) hP hD hS (by decide) (by decide) (by decide) (Nat.le_of_ble_eq_true rfl) (Nat.le_of_ble_eq_true rfl) dX11_quiet_8 (fun q_1 H hP hD hS => ?_)
  have hP : va_P D vwCl [(a0, .inr (13, [.ref a1, .ref z0, .ref z1, .ref z2, .ref z3, .ref z4, .int 45, .ref z5, .ref z6, .ref z7, .int 0, .ref z8, .ref z9, .int 0, .int 0, .int 0, .int 0, .ref z10, .int 0, .null, .ref z11, .ref z12])), (a1, .inl (y 0, 3, .inl (fun _ => 0))), (q_1, .inl (y 0, 0, .inl (fun _ => 0)))] H := hP
  have hD : va_D A [(a0, .inr (13, [.ref a1, .ref z0, .ref z1, .ref z2, .ref z3, .ref z4, .int 45, .ref z5, .ref z6, .ref z7, .int 0, .ref z8, .ref z9, .int 0, .int 0, .int 0, .int 0, .ref z10, .int 0, .null, .ref z11, .ref z12])), (a1, .inl (y 0, 3, .inl (fun _ => 0))), (q_1, .inl (y 0, 0, .inl (fun _ => 0)))] := hD
  refine W.widen (k := 1) (n := 0) (Nat.le_of_ble_eq_true rfl) (Nat.le_of_ble_eq_true rfl) ?_
  refine lv_astore_n (lv' := [(2, .ref q_1), (1, .int 0), (0, .ref a0)]) hx hb dX11_quiet_10 rfl hl (by decide) rfl (fun ls hl => ?_)
  refine lv_iload_n hx hb dX11_quiet_11 rfl (lv_at hl 1 rfl) ?_
  refine na_int (N := 0) hF (hts _ wd_12) hP hD hS (by decide) (by decide) (by decide) (Nat.le_of_ble_eq_true rfl) (Nat.le_of_ble_eq_true rfl) dX11_quiet_12 (fun q_2 H hP hD hS => ?_)
  have hP : va_P D vwCl [(a0, .inr (13, [.ref a1, .ref z0, .ref z1, .ref z2, .ref z3, .ref z4, .int 45, .ref z5, .ref z6, .ref z7, .int 0, .ref z8, .ref z9, .int 0, .int 0, .int 0, .int 0, .ref z10, .int 0, .null, .ref z11, .ref z12])), (a1, .inl (y 0, 3, .inl (fun _ => 0))), (q_1, .inl (y 0, 0, .inl (fun _ => 0))), (q_2, .inl (y 0, 0, .inl (fun _ => 0)))] H := hP
  have hD : va_D A [(a0, .inr (13, [.ref a1, .ref z0, .ref z1, .ref z2, .ref z3, .ref z4, .int 45, .ref z5, .ref z6, .ref z7, .int 0, .ref z8, .ref z9, .int 0, .int 0, .int 0, .int 0, .ref z10, .int 0, .null, .ref z11, .ref z12])), (a1, .inl (y 0, 3, .inl (fun _ => 0))), (q_1, .inl (y 0, 0, .inl (fun _ => 0))), (q_2, .inl (y 0, 0, .inl (fun _ => 0)))] := hD
  refine W.widen (k := 2) (n := 0) (Nat.le_of_ble_eq_true rfl) (Nat.le_of_ble_eq_true rfl) ?_
  refine lv_astore_n (lv' := [(3, .ref q_2), (2, .ref q_1), (1, .int 0), (0, .ref a0)]) hx hb dX11_quiet_14 rfl hl (by decide) rfl (fun ls hl => ?_)
  refine lv_iconst (v := 0) hx hb dX11_quiet_15 (by decide) ?_
  refine lv_istore (lv' := [(4, .int 0), (3, .ref q_2), (2, .ref q_1), (1, .int 0), (0, .ref a0)]) hx hb dX11_quiet_16 hl (by decide) rfl (fun ls hl => ?_)
  refine lv_iload hx hb dX11_quiet_18 (lv_at hl 0 rfl) ?_
  refine lv_iload_n hx hb dX11_quiet_20 rfl (lv_at hl 3 rfl) ?_
  refine lv_icmp_ge (tgt := 36) hx hb dX11_quiet_21 (by decide) (fun _ => ?_) (fun c => absurd (by decide) c)
  refine lv_iconst (v := 0) hx hb dX11_quiet_36 (by decide) ?_
  refine lv_istore (lv' := [(4, .int 0), (3, .ref q_2), (2, .ref q_1), (1, .int 0), (0, .ref a0)]) hx hb dX11_quiet_37 hl (by decide) rfl (fun ls hl => ?_)
  refine lv_iconst (v := 0) hx hb dX11_quiet_39 (by decide) ?_
  refine lv_istore (lv' := [(5, .int 0), (4, .int 0), (3, .ref q_2), (2, .ref q_1), (1, .int 0), (0, .ref a0)]) hx hb dX11_quiet_40 hl (by decide) rfl (fun ls hl => ?_)
  refine lv_iconst (v := 1) hx hb dX11_quiet_42 (by decide) ?_
  refine lv_istore (lv' := [(6, .int 1), (5, .int 0), (4, .int 0), (3, .ref q_2), (2, .ref q_1), (1, .int 0), (0, .ref a0)]) hx hb dX11_quiet_43 hl (by decide) rfl (fun ls hl => ?_)
  refine lv_aload_n hx hb dX11_quiet_45 rfl (lv_at hl 6 rfl) ?_
  refine lv_null hx hb dX11_quiet_46 ?_
  refine va_put (D := D) (ci := 13) (v := .null) (ty := .array .int) (C := RX11) (T := TX11) (N := 22) hx hb hts inX11 tyX11 tyX11_ok nmX11 hown hK hP hD hS 0 rfl rfl 19 (by decide) (hts _ wd_968) (fun _ h9 => h9) rfl (by decide +kernel) rfl rfl (Nat.le_of_ble_eq_true rfl) dX11_quiet_47 (fun H locs hP hD hS => ?_)
  have hP : va_P D vwCl [(a0, .inr (13, [.ref a1, .ref z0, .ref z1, .ref z2, .ref z3, .ref z4, .int 45, .ref z5, .ref z6, .ref z7, .int 0, .ref z8, .ref z9, .int 0, .int 0, .int 0, .int 0, .ref z10, .int 0, .null, .ref z11, .ref z12])), (a1, .inl (y 0, 3, .inl (fun _ => 0))), (q_1, .inl (y 0, 0, .inl (fun _ => 0))), (q_2, .inl (y 0, 0, .inl (fun _ => 0)))] H := hP
  have hD : va_D A [(a0, .inr (13, [.ref a1, .ref z0, .ref z1, .ref z2, .ref z3, .ref z4, .int 45, .ref z5, .ref z6, .ref z7, .int 0, .ref z8, .ref z9, .int 0, .int 0, .int 0, .int 0, .ref z10, .int 0, .null, .ref z11, .ref z12])), (a1, .inl (y 0, 3, .inl (fun _ => 0))), (q_1, .inl (y 0, 0, .inl (fun _ => 0))), (q_2, .inl (y 0, 0, .inl (fun _ => 0)))] := hD
  refine lv_iload hx hb dX11_quiet_50 (lv_at hl 1 rfl) ?_
  refine lv_if_lt (tgt := 273) hx hb dX11_quiet_52 (by decide) (fun c => absurd c (by decide)) (fun _ => ?_)
  refine lv_iload hx hb dX11_quiet_55 (lv_at hl 1 rfl) ?_
  refine lv_iload_n hx hb dX11_quiet_57 rfl (lv_at hl 5 rfl) ?_
  refine lv_icmp_ne (tgt := 101) hx hb dX11_quiet_58 (by decide) (fun c => absurd (by decide) c) (fun _ => ?_)
  refine lv_aload_n hx hb dX11_quiet_61 rfl (lv_at hl 6 rfl) ?_
  refine lv_aload_n hx hb dX11_quiet_62 rfl (lv_at hl 4 rfl) ?_
  refine cV (l := l) (yM := yX11_isQuiet) (C := RX11) (As := [.ref q_1]) (rest := []) (wr := [(a0, .inr (13, [.ref a1, .ref z0, .ref z1, .ref z2, .ref z3, .ref z4, .int 45, .ref z5, .ref z6, .ref z7, .int 0, .ref z8, .ref z9, .int 0, .int 0, .int 0, .int 0, .ref z10, .int 0, .null, .ref z11, .ref z12])), (a1, .inl (y 0, 3, .inl (fun _ => 0))), (q_1, .inl (y 0, 0, .inl (fun _ => 0))), (q_2, .inl (y 0, 0, .inl (fun _ => 0)))]) hF (c387_X11_isQuiet l a0 a1 z0 z1 z2 z3 z4 z5 z6 z7 z8 z9 z10 z11 z12 q_1) gv_RX11_256 1 (by decide +kernel) rfl ⟨(Nat.le_of_ble_eq_true rfl), (Nat.le_of_ble_eq_true rfl)⟩ hl.1 rfl (Nat.le_of_ble_eq_true rfl) dX11_quiet_63 ⟨(Nat.le_of_ble_eq_true rfl), (Nat.le_of_ble_eq_true rfl)⟩ hP hD hS (pA hA hS) (fun _ h => h) [0, 1] [] [0, 1, 2, 3] rfl rfl rfl rfl rfl (by decide) 0 (ci := 13) rfl rfl rfl (fun u_3 H locs hP hD hS => ?_)
  have hP : va_P D vwCl [(a0, .inr (13, [.ref a1, .ref z0, .ref z1, .ref z2, .ref z3, .ref z4, .int 45, .ref z5, .ref z6, .ref z7, .int 0, .ref z8, .ref z9, .int 0, .int 0, .int 0, .int 0, .ref z10, .int 0, .null, .ref z11, .ref z12])), (a1, .inl (y 0, 3, .inl (fun _ => 0))), (q_1, .inl (y 0, 0, .inl (fun _ => 0))), (q_2, .inl (y 0, 0, .inl (fun _ => 0)))] H := hP
  have hD : va_D A [(a0, .inr (13, [.ref a1, .ref z0, .ref z1, .ref z2, .ref z3, .ref z4, .int 45, .ref z5, .ref z6, .ref z7, .int 0, .ref z8, .ref z9, .int 0, .int 0, .int 0, .int 0, .ref z10, .int 0, .null, .ref z11, .ref z12])), (a1, .inl (y 0, 3, .inl (fun _ => 0))), (q_1, .inl (y 0, 0, .inl (fun _ => 0))), (q_2, .inl (y 0, 0, .inl (fun _ => 0)))] := hD
  refine W.widen (k := 2) (n := 0) (Nat.le_of_ble_eq_true rfl) (Nat.le_of_ble_eq_true rfl) ?_
  refine W.eq (g2 := F0 m 66 ls [.int 1]) rfl ?_
  refine lv_if_eq (tgt := 92) hx hb dX11_quiet_66 (by decide) (fun c => absurd c (by decide)) (fun _ => ?_)
  refine lv_aload_n hx hb dX11_quiet_69 rfl (lv_at hl 6 rfl) ?_
  refine lv_iload hx hb dX11_quiet_70 (lv_at hl 2 rfl) ?_
  refine lv_if_ne (tgt := 82) hx hb dX11_quiet_72 (by decide) (fun c => absurd (by decide) c) (fun _ => ?_)
  refine lv_aload_n hx hb dX11_quiet_75 rfl (lv_at hl 4 rfl) ?_
  refine cS (l := l) (yM := yX11_copied) (As := [.ref q_1]) (rest := [.ref a0]) (wr := [(a0, .inr (13, [.ref a1, .ref z0, .ref z1, .ref z2, .ref z3, .ref z4, .int 45, .ref z5, .ref z6, .ref z7, .int 0, .ref z8, .ref z9, .int 0, .int 0, .int 0, .int 0, .ref z10, .int 0, .null, .ref z11, .ref z12])), (a1, .inl (y 0, 3, .inl (fun _ => 0))), (q_2, .inl (y 0, 0, .inl (fun _ => 0)))]) hF (c388_X11_copied l q_1) gs_RX11_198 1 (by decide +kernel) rfl ⟨(Nat.le_of_ble_eq_true rfl), (Nat.le_of_ble_eq_true rfl)⟩ hl.1 rfl (Nat.le_of_ble_eq_true rfl) dX11_quiet_76 ⟨(Nat.le_of_ble_eq_true rfl), (Nat.le_of_ble_eq_true rfl)⟩ hP hD hS (va_free (wc := [(q_1, .inl (y 0, 0, .inl (fun _ => 0)))]) hD hS hA [2] rfl) (fun _ h => h) [2] [2] [0, 1, 3] rfl rfl rfl rfl rfl (by decide) (fun u_4 H locs hP hD hS => ?_)
  have hP : va_P D vwCl [(a0, .inr (13, [.ref a1, .ref z0, .ref z1, .ref z2, .ref z3, .ref z4, .int 45, .ref z5, .ref z6, .ref z7, .int 0, .ref z8, .ref z9, .int 0, .int 0, .int 0, .int 0, .ref z10, .int 0, .null, .ref z11, .ref z12])), (a1, .inl (y 0, 3, .inl (fun _ => 0))), (q_2, .inl (y 0, 0, .inl (fun _ => 0))), (q_1, .inl (y 0, 0, .inl (fun _ => 0))), ((u_4 0), .inl (y 0, 0, .inl (fun _ => 0)))] H := hP
  have hD : va_D A [(a0, .inr (13, [.ref a1, .ref z0, .ref z1, .ref z2, .ref z3, .ref z4, .int 45, .ref z5, .ref z6, .ref z7, .int 0, .ref z8, .ref z9, .int 0, .int 0, .int 0, .int 0, .ref z10, .int 0, .null, .ref z11, .ref z12])), (a1, .inl (y 0, 3, .inl (fun _ => 0))), (q_2, .inl (y 0, 0, .inl (fun _ => 0))), (q_1, .inl (y 0, 0, .inl (fun _ => 0))), ((u_4 0), .inl (y 0, 0, .inl (fun _ => 0)))] := hD
  refine W.widen (k := 3) (n := 0) (Nat.le_of_ble_eq_true rfl) (Nat.le_of_ble_eq_true rfl) ?_
  refine W.eq (g2 := F0 m 79 ls [.ref (u_4 0), .ref a0]) rfl ?_
  refine lv_goto (tgt := 86) hx hb dX11_quiet_79 (by decide) ?_
  refine va_put (D := D) (ci := 13) (v := .ref (u_4 0)) (ty := .array .int) (C := RX11) (T := TX11) (N := 22) hx hb hts inX11 tyX11 tyX11_ok nmX11 hown hK hP hD hS 0 rfl rfl 19 (by decide) (hts _ wd_968) (fun _ h9 => h9) rfl (by decide +kernel) rfl rfl (Nat.le_of_ble_eq_true rfl) dX11_quiet_86 (fun H locs hP hD hS => ?_)
  have hP : va_P D vwCl [(a0, .inr (13, [.ref a1, .ref z0, .ref z1, .ref z2, .ref z3, .ref z4, .int 45, .ref z5, .ref z6, .ref z7, .int 0, .ref z8, .ref z9, .int 0, .int 0, .int 0, .int 0, .ref z10, .int 0, .ref (u_4 0), .ref z11, .ref z12])), (a1, .inl (y 0, 3, .inl (fun _ => 0))), (q_2, .inl (y 0, 0, .inl (fun _ => 0))), (q_1, .inl (y 0, 0, .inl (fun _ => 0))), ((u_4 0), .inl (y 0, 0, .inl (fun _ => 0)))] H := hP
  have hD : va_D A [(a0, .inr (13, [.ref a1, .ref z0, .ref z1, .ref z2, .ref z3, .ref z4, .int 45, .ref z5, .ref z6, .ref z7, .int 0, .ref z8, .ref z9, .int 0, .int 0, .int 0, .int 0, .ref z10, .int 0, .ref (u_4 0), .ref z11, .ref z12])), (a1, .inl (y 0, 3, .inl (fun _ => 0))), (q_2, .inl (y 0, 0, .inl (fun _ => 0))), (q_1, .inl (y 0, 0, .inl (fun _ => 0))), ((u_4 0), .inl (y 0, 0, .inl (fun _ => 0)))] := hD
  refine lv_iinc (v := 1) (lv' := [(4, .int 1), (6, .int 1), (5, .int 0), (3, .ref q_2), (2, .ref q_1), (1, .int 0), (0, .ref a0)]) hx hb dX11_quiet_89 hl (k := 2) rfl (by decide) (by decide) rfl (fun ls hl => ?_)
  refine lv_iinc (v := (-1)) (lv' := [(5, .int (-1)), (4, .int 1), (6, .int 1), (3, .ref q_2), (2, .ref q_1), (1, .int 0), (0, .ref a0)]) hx hb dX11_quiet_92 hl (k := 2) rfl (by decide) (by decide) rfl (fun ls hl => ?_)
  refine lv_iconst (v := 0) hx hb dX11_quiet_95 (by decide) ?_
  refine lv_istore (lv' := [(6, .int 0), (5, .int (-1)), (4, .int 1), (3, .ref q_2), (2, .ref q_1), (1, .int 0), (0, .ref a0)]) hx hb dX11_quiet_96 hl (by decide) rfl (fun ls hl => ?_)
  refine lv_goto (tgt := 50) hx hb dX11_quiet_98 (by decide) ?_
  refine lv_iload hx hb dX11_quiet_50 (lv_at hl 1 rfl) ?_
  refine lv_if_lt (tgt := 273) hx hb dX11_quiet_52 (by decide) (fun _ => ?_) (fun c => absurd (by decide) c)
  refine lv_iload hx hb dX11_quiet_273 (lv_at hl 2 rfl) ?_
  exact e_i hF hr (Nat.le_of_ble_eq_true rfl) (Nat.le_of_ble_eq_true rfl) hS (qg_end hS (adl [(u_4 0)]) rfl [0, 1, 4] hP rfl (hD.sub [0, 1, 4] rfl rfl)) dX11_quiet_275

set_option maxHeartbeats 4000000 in
set_option maxRecDepth 100000 in
theorem c387_X11_rooms (l : Launch) (a0 : Nat) (a1 : Nat) (z0 : Nat) (z1 : Nat) (z2 : Nat) (z3 : Nat) (z4 : Nat) (z5 : Nat) (z6 : Nat) (z7 : Nat) (z8 : Nat) (z9 : Nat) (z10 : Nat) (z11 : Nat) (z12 : Nat) : CT l (.code yX11_rooms cX11_rooms 1 (some .int)) yX11_rooms { frames := 2, cells := 3, slots := 0, locals := 51 } [.ref a0] (fun y => [(a0, .inr (13, [.ref a1, .ref z0, .ref z1, .ref z2, .ref z3, .ref z4, .int 45, .ref z5, .ref z6, .ref z7, .int 0, .ref z8, .ref z9, .int 0, .int 0, .int 0, .int 0, .ref z10, .int 0, .null, .ref z11, .ref z12])), (a1, .inl (y 0, 3, .inl (fun _ => 0)))]) (fun y => [(a0, .inr (13, [.ref a1, .ref z0, .ref z1, .ref z2, .ref z3, .ref z4, .int 45, .ref z5, .ref z6, .ref z7, .int 0, .ref z8, .ref z9, .int 0, .int 0, .int 0, .int 0, .ref z10, .int 0, .null, .ref z11, .ref z12])), (a1, .inl (y 0, 3, .inl (fun _ => 0)))]) (fun u => some (.int 1)) (fun y u => [(a0, .inr (13, [.ref a1, .ref z0, .ref z1, .ref z2, .ref z3, .ref z4, .int 45, .ref z5, .ref z6, .ref z7, .int 0, .ref z8, .ref z9, .int 0, .int 0, .int 0, .int 0, .ref z10, .int 0, .ref (u 0), .ref z11, .ref z12])), (a1, .inl (y 0, 3, .inl (fun _ => 0))), ((u 0), .inl (y 0, 0, .inl (fun _ => 0)))]) := by
  refine mkM (by decide) (Nat.le_of_ble_eq_true rfl) ?_
  intro p e s m args below meth c D y A ls hF hr hAe hP hD hS hl
  have hF : FX p e s m args meth c cX11_rooms 1 RX11 "rooms" D y A := hF
  obtain ⟨⟨hx, hb, hml, hown, hts⟩, hev, heh, hA, hlk, hnm⟩ := id hF
  have hK := hev.1
  have hP : va_P D vwCl [(a0, .inr (13, [.ref a1, .ref z0, .ref z1, .ref z2, .ref z3, .ref z4, .int 45, .ref z5, .ref z6, .ref z7, .int 0, .ref z8, .ref z9, .int 0, .int 0, .int 0, .int 0, .ref z10, .int 0, .null, .ref z11, .ref z12])), (a1, .inl (y 0, 3, .inl (fun _ => 0)))] s.heap := hP
  have hD : va_D A [(a0, .inr (13, [.ref a1, .ref z0, .ref z1, .ref z2, .ref z3, .ref z4, .int 45, .ref z5, .ref z6, .ref z7, .int 0, .ref z8, .ref z9, .int 0, .int 0, .int 0, .int 0, .ref z10, .int 0, .null, .ref z11, .ref z12])), (a1, .inl (y 0, 3, .inl (fun _ => 0)))] := by rw [← hAe]; exact hD.self
  have hl : lv_has ls 1 [(0, .ref a0)] := hl
  refine lv_aload_n hx hb dX11_rooms_0 rfl (lv_at hl 0 rfl) ?_
  refine lv_aload_n hx hb dX11_rooms_1 rfl (lv_at hl 0 rfl) ?_
  refine va_get (D := D) (ci := 13) (v := .ref a1) (C := RX11) (T := TX11) (N := 22) hx hb hts inX11 hown hK hP 0 rfl rfl 0 (by decide) (hts _ wd_115) (fun _ h9 => h9) rfl dX11_rooms_2 ?_
  refine lv_iconst (v := 2) hx hb dX11_rooms_5 (by decide) ?_
  refine va_iald hx hb hK hP 1 0 rfl rfl (vp_in_nI (n := 2) (by decide) (by decide)) dX11_rooms_6 ?_
  refine tp_i (v := 0) rfl ?_
  refine lv_bipush (v := 8) hx hb dX11_rooms_7 (by decide) ?_
  refine lv_icmp_le (tgt := 16) hx hb dX11_rooms_9 (by decide) (fun _ => ?_) (fun c => absurd (by decide) c)
  refine lv_iconst (v := 0) hx hb dX11_rooms_16 (by decide) ?_
  refine lv_iconst (v := 0) hx hb dX11_rooms_17 (by decide) ?_
  refine lv_iconst (v := 0) hx hb dX11_rooms_18 (by decide) ?_
  refine cV (l := l) (yM := yX11_fails) (C := RX11) (As := [.int 0, .int 0, .int 0]) (rest := []) (wr := [(a1, .inl (y 0, 3, .inl (fun _ => 0)))]) hF (c32_X11_fails l a0 a1 z0 z1 z2 z3 z4 z5 z6 z7 z8 z9 z10 z11 z12) gv_RX11_128 3 (by decide +kernel) rfl ⟨(Nat.le_of_ble_eq_true rfl), (Nat.le_of_ble_eq_true rfl)⟩ hl.1 rfl (Nat.le_of_ble_eq_true rfl) dX11_rooms_19 ⟨(Nat.le_of_ble_eq_true rfl), (Nat.le_of_ble_eq_true rfl)⟩ hP hD hS (va_free (wc := [(a0, .inr (13, [.ref a1, .ref z0, .ref z1, .ref z2, .ref z3, .ref z4, .int 45, .ref z5, .ref z6, .ref z7, .int 0, .ref z8, .ref z9, .int 0, .int 0, .int 0, .int 0, .ref z10, .int 0, .null, .ref z11, .ref z12]))]) hD hS hA [0] rfl) (fun _ h => h) [0] [0] [1] rfl rfl rfl rfl rfl (by decide) 0 (ci := 13) rfl rfl rfl (fun u_1 H locs hP hD hS => ?_)
  have hP : va_P D vwCl [(a1, .inl (y 0, 3, .inl (fun _ => 0))), (a0, .inr (13, [.ref a1, .ref z0, .ref z1, .ref z2, .ref z3, .ref z4, .int 45, .ref z5, .ref z6, .ref z7, .int 0, .ref z8, .ref z9, .int 0, .int 0, .int 0, .int 0, .ref z10, .int 0, .null, .ref z11, .ref z12]))] H := hP
  have hD : va_D A [(a1, .inl (y 0, 3, .inl (fun _ => 0))), (a0, .inr (13, [.ref a1, .ref z0, .ref z1, .ref z2, .ref z3, .ref z4, .int 45, .ref z5, .ref z6, .ref z7, .int 0, .ref z8, .ref z9, .int 0, .int 0, .int 0, .int 0, .ref z10, .int 0, .null, .ref z11, .ref z12]))] := hD
  refine W.widen (k := 0) (n := 0) (Nat.le_of_ble_eq_true rfl) (Nat.le_of_ble_eq_true rfl) ?_
  refine W.eq (g2 := F0 m 22 ls [.int 0]) rfl ?_
  refine lv_if_eq (tgt := 29) hx hb dX11_rooms_22 (by decide) (fun _ => ?_) (fun c => absurd (by decide) c)
  refine lv_aload_n hx hb dX11_rooms_29 rfl (lv_at hl 0 rfl) ?_
  refine cV (l := l) (yM := yX11_quiet) (C := RX11) (As := []) (rest := []) (wr := []) hF (c387_X11_quiet l a0 a1 z0 z1 z2 z3 z4 z5 z6 z7 z8 z9 z10 z11 z12) gv_RX11_260 0 (by decide +kernel) rfl ⟨(Nat.le_of_ble_eq_true rfl), (Nat.le_of_ble_eq_true rfl)⟩ hl.1 rfl (Nat.le_of_ble_eq_true rfl) dX11_rooms_30 ⟨(Nat.le_of_ble_eq_true rfl), (Nat.le_of_ble_eq_true rfl)⟩ hP hD hS (va_free (wc := [(a0, .inr (13, [.ref a1, .ref z0, .ref z1, .ref z2, .ref z3, .ref z4, .int 45, .ref z5, .ref z6, .ref z7, .int 0, .ref z8, .ref z9, .int 0, .int 0, .int 0, .int 0, .ref z10, .int 0, .null, .ref z11, .ref z12])), (a1, .inl (y 0, 3, .inl (fun _ => 0)))]) hD hS hA [1, 0] rfl) (fun _ h => h) [1, 0] [1, 0] [] rfl rfl rfl rfl rfl (by decide) 1 (ci := 13) rfl rfl rfl (fun u_2 H locs hP hD hS => ?_)
  have hP : va_P D vwCl [(a0, .inr (13, [.ref a1, .ref z0, .ref z1, .ref z2, .ref z3, .ref z4, .int 45, .ref z5, .ref z6, .ref z7, .int 0, .ref z8, .ref z9, .int 0, .int 0, .int 0, .int 0, .ref z10, .int 0, .ref (u_2 0), .ref z11, .ref z12])), (a1, .inl (y 0, 3, .inl (fun _ => 0))), ((u_2 0), .inl (y 0, 0, .inl (fun _ => 0)))] H := hP
  have hD : va_D A [(a0, .inr (13, [.ref a1, .ref z0, .ref z1, .ref z2, .ref z3, .ref z4, .int 45, .ref z5, .ref z6, .ref z7, .int 0, .ref z8, .ref z9, .int 0, .int 0, .int 0, .int 0, .ref z10, .int 0, .ref (u_2 0), .ref z11, .ref z12])), (a1, .inl (y 0, 3, .inl (fun _ => 0))), ((u_2 0), .inl (y 0, 0, .inl (fun _ => 0)))] := hD
  refine W.widen (k := 3) (n := 0) (Nat.le_of_ble_eq_true rfl) (Nat.le_of_ble_eq_true rfl) ?_
  refine W.eq (g2 := F0 m 33 ls [.int 1]) rfl ?_
  exact e_i hF hr (Nat.le_of_ble_eq_true rfl) (Nat.le_of_ble_eq_true rfl) hS (qg_end hS (adl [(u_2 0)]) rfl [0, 1, 2] hP rfl (hD.sub [0, 1, 2] rfl rfl)) dX11_rooms_33

set_option maxHeartbeats 4000000 in
set_option maxRecDepth 100000 in
theorem c391_X11_thrown (l : Launch) (a0 : Nat) (z0 : Nat) (z1 : Nat) (z2 : Nat) (z3 : Nat) (z4 : Nat) (z5 : Nat) (z6 : Nat) (z7 : Nat) (z8 : Nat) (z9 : Nat) (z10 : Nat) (z11 : Nat) (z12 : Nat) (z13 : Nat) (z14 : Nat) : CT l (.code yX11_thrown cX11_thrown 1 (some .int)) yX11_thrown { frames := 0, cells := 0, slots := 0, locals := 0 } [.ref a0] (fun y => [(a0, .inr (13, [.ref z0, .ref z1, .ref z2, .ref z3, .ref z4, .ref z5, .int 45, .ref z6, .ref z7, .ref z8, .int 0, .ref z9, .ref z10, .int 0, .int 0, .int 0, .int 0, .ref z11, .int 0, .ref z12, .ref z13, .ref z14]))]) (fun _ => []) (fun u => some (.int 0)) (fun y u => []) := by
  refine mkM (by decide) (Nat.le_of_ble_eq_true rfl) ?_
  intro p e s m args below meth c D y A ls hF hr hAe hP hD hS hl
  have hF : FX p e s m args meth c cX11_thrown 1 RX11 "thrown" D y A := hF
  obtain ⟨⟨hx, hb, hml, hown, hts⟩, hev, heh, hA, hlk, hnm⟩ := id hF
  have hK := hev.1
  have hP : va_P D vwCl [(a0, .inr (13, [.ref z0, .ref z1, .ref z2, .ref z3, .ref z4, .ref z5, .int 45, .ref z6, .ref z7, .ref z8, .int 0, .ref z9, .ref z10, .int 0, .int 0, .int 0, .int 0, .ref z11, .int 0, .ref z12, .ref z13, .ref z14]))] s.heap := hP
  have hD : va_D (fun _ => True) [(a0, .inr (13, [.ref z0, .ref z1, .ref z2, .ref z3, .ref z4, .ref z5, .int 45, .ref z6, .ref z7, .ref z8, .int 0, .ref z9, .ref z10, .int 0, .int 0, .int 0, .int 0, .ref z11, .int 0, .ref z12, .ref z13, .ref z14]))] := hD
  have hl : lv_has ls 1 [(0, .ref a0)] := hl
  refine lv_aload_n hx hb dX11_thrown_0 rfl (lv_at hl 0 rfl) ?_
  refine va_get (D := D) (ci := 13) (v := .int 0) (C := RX11) (T := TX11) (N := 22) hx hb hts inX11 hown hK hP 0 rfl rfl 15 (by decide) (hts _ wd_216) (fun _ h9 => h9) rfl dX11_thrown_1 ?_
  exact e_i hF hr (Nat.le_of_ble_eq_true rfl) (Nat.le_of_ble_eq_true rfl) hS (qg_end hS (fun _ => 0) rfl [] hP rfl d_nil) dX11_thrown_4

set_option maxHeartbeats 4000000 in
set_option maxRecDepth 100000 in
theorem c392_X10_roomOf (l : Launch) (hlt : l.stackTraces = false) (a0 : Nat) (a1 : Nat) (z0 : Nat) (z1 : Nat) (z2 : Nat) (z3 : Nat) (z4 : Nat) (z5 : Nat) (z6 : Nat) (z7 : Nat) (z8 : Nat) (z9 : Nat) (z10 : Nat) (z11 : Nat) (z12 : Nat) (z13 : Nat) (z14 : Nat) (z15 : Nat) (z16 : Nat) (p0 : Int32) : CX l (.code yX10_roomOf cX10_roomOf 2 (some .int)) yX10_roomOf { frames := 6, cells := 1, slots := 6, locals := 90 } [.ref a0, .int p0] (fun y => [(a0, .inr (12, [.ref z0, .ref a1, .ref z1, .ref z2, .ref z3, .ref z4, .ref z5, .ref z6, .ref z7, .ref z8, .ref z9, .ref z10, .ref z11, .ref z12, .ref z13])), (a1, .inr (4, [.int 0, .ref z14, .ref z15, .ref z16]))]) (fun _ => []) "java/util/NoSuchElementException" := by
  refine mkX (by decide) (Nat.le_of_ble_eq_true rfl) ?_
  intro p e s m args below meth c D y A ls hF htb hAe hP hD hS hl
  have hF : FX p e s m args meth c cX10_roomOf 2 RX10 "roomOf" D y A := hF
  obtain ⟨⟨hx, hb, hml, hown, hts⟩, hev, heh, hA, hlk, hnm⟩ := id hF
  have hK := hev.1
  have hP : va_P D vwCl [(a0, .inr (12, [.ref z0, .ref a1, .ref z1, .ref z2, .ref z3, .ref z4, .ref z5, .ref z6, .ref z7, .ref z8, .ref z9, .ref z10, .ref z11, .ref z12, .ref z13])), (a1, .inr (4, [.int 0, .ref z14, .ref z15, .ref z16]))] s.heap := hP
  have hD : va_D (fun _ => True) [(a0, .inr (12, [.ref z0, .ref a1, .ref z1, .ref z2, .ref z3, .ref z4, .ref z5, .ref z6, .ref z7, .ref z8, .ref z9, .ref z10, .ref z11, .ref z12, .ref z13])), (a1, .inr (4, [.int 0, .ref z14, .ref z15, .ref z16]))] := hD
  have hl : lv_has ls 2 [(0, .ref a0), (1, .int p0)] := hl
  refine lv_aload_n hx hb dX10_roomOf_0 rfl (lv_at hl 0 rfl) ?_
  refine va_get (D := D) (ci := 12) (v := .ref a1) (C := RX10) (T := TX10) (N := 15) hx hb hts inX10 hown hK hP 0 rfl rfl 1 (by decide) (hts _ wd_26) (fun _ h9 => h9) rfl dX10_roomOf_1 ?_
  refine lv_iload_n hx hb dX10_roomOf_4 rfl (lv_at hl 1 rfl) ?_
  refine cV (l := l) (yM := yX2_has) (C := RX2) (As := [.int p0]) (rest := []) (wr := [(a0, .inr (12, [.ref z0, .ref a1, .ref z1, .ref z2, .ref z3, .ref z4, .ref z5, .ref z6, .ref z7, .ref z8, .ref z9, .ref z10, .ref z11, .ref z12, .ref z13])), (a1, .inr (4, [.int 0, .ref z14, .ref z15, .ref z16]))]) hF (c82_X2_has l a1 z14 z15 z16 p0) gv_RX10_216 1 (by decide +kernel) rfl ⟨(Nat.le_of_ble_eq_true rfl), (Nat.le_of_ble_eq_true rfl)⟩ hl.1 rfl (Nat.le_of_ble_eq_true rfl) dX10_roomOf_5 ⟨(Nat.le_of_ble_eq_true rfl), (Nat.le_of_ble_eq_true rfl)⟩ hP hD hS (pA hA hS) (fun _ _ => trivial) [1] [] [0, 1] rfl rfl rfl rfl rfl (by decide) 1 (ci := 4) rfl rfl rfl (fun u_1 H locs hP hD hS => ?_)
  have hP : va_P D vwCl [(a0, .inr (12, [.ref z0, .ref a1, .ref z1, .ref z2, .ref z3, .ref z4, .ref z5, .ref z6, .ref z7, .ref z8, .ref z9, .ref z10, .ref z11, .ref z12, .ref z13])), (a1, .inr (4, [.int 0, .ref z14, .ref z15, .ref z16]))] H := hP
  have hD : va_D (fun _ => True) [(a0, .inr (12, [.ref z0, .ref a1, .ref z1, .ref z2, .ref z3, .ref z4, .ref z5, .ref z6, .ref z7, .ref z8, .ref z9, .ref z10, .ref z11, .ref z12, .ref z13])), (a1, .inr (4, [.int 0, .ref z14, .ref z15, .ref z16]))] := hD
  refine W.widen (k := 0) (n := 0) (Nat.le_of_ble_eq_true rfl) (Nat.le_of_ble_eq_true rfl) ?_
  refine W.eq (g2 := F0 m 8 ls [.int 0]) rfl ?_
  refine lv_if_ne (tgt := 22) hx hb dX10_roomOf_8 (by decide) (fun c => absurd (by decide) c) (fun _ => ?_)
  exact th_N (text := "no such mate") hF htb hlt wd_251 wd_252 (List.mem_of_getElem? (i := 29) rfl) exg3 exf3 exo3 hS hl.1 (Nat.le_of_ble_eq_true rfl) ⟨(Nat.le_of_ble_eq_true rfl), (Nat.le_of_ble_eq_true rfl)⟩ ⟨(Nat.le_of_ble_eq_true rfl), (Nat.le_of_ble_eq_true rfl)⟩ ⟨(Nat.le_of_ble_eq_true rfl), (Nat.le_of_ble_eq_true rfl)⟩ dX10_roomOf_11 dX10_roomOf_14 dX10_roomOf_15 dX10_roomOf_18 dX10_roomOf_21

set_option maxHeartbeats 4000000 in
set_option maxRecDepth 100000 in
theorem c392_L_roomOf (l : Launch) (hlt : l.stackTraces = false) (a0 : Nat) (a1 : Nat) (z0 : Nat) (z1 : Nat) (z2 : Nat) (z3 : Nat) (z4 : Nat) (z5 : Nat) (z6 : Nat) (z7 : Nat) (z8 : Nat) (z9 : Nat) (z10 : Nat) (z11 : Nat) (z12 : Nat) (z13 : Nat) (z14 : Nat) (z15 : Nat) (z16 : Nat) (p0 : Int32) (z17 : Nat) : CT l (.codeWith yL_roomOf cL_roomOf 4 (some .int) [(0, 9, 12, 24), (0, 9, 15, 61), (0, 9, 18, 15)]) yL_roomOf { frames := 7, cells := 1, slots := 6, locals := 111 } [.ref a0, .int p0, .ref z17] (fun y => [(a0, .inr (12, [.ref z0, .ref a1, .ref z1, .ref z2, .ref z3, .ref z4, .ref z5, .ref z6, .ref z7, .ref z8, .ref z9, .ref z10, .ref z11, .ref z12, .ref z13])), (a1, .inr (4, [.int 0, .ref z14, .ref z15, .ref z16]))]) (fun _ => []) (fun u => some (.int 1)) (fun y u => []) := by
  refine mkH (by decide) (Nat.le_of_ble_eq_true rfl) ?_
  intro p e s m args below meth c D y A ls hF htab hr hAe hP hD hS hl
  have hF : FX p e s m args meth c cL_roomOf 4 RL "roomOf" D y A := hF
  obtain ⟨⟨hx, hb, hml, hown, hts⟩, hev, heh, hA, hlk, hnm⟩ := id hF
  have hK := hev.1
  have hP : va_P D vwCl [(a0, .inr (12, [.ref z0, .ref a1, .ref z1, .ref z2, .ref z3, .ref z4, .ref z5, .ref z6, .ref z7, .ref z8, .ref z9, .ref z10, .ref z11, .ref z12, .ref z13])), (a1, .inr (4, [.int 0, .ref z14, .ref z15, .ref z16]))] s.heap := hP
  have hD : va_D (fun _ => True) [(a0, .inr (12, [.ref z0, .ref a1, .ref z1, .ref z2, .ref z3, .ref z4, .ref z5, .ref z6, .ref z7, .ref z8, .ref z9, .ref z10, .ref z11, .ref z12, .ref z13])), (a1, .inr (4, [.int 0, .ref z14, .ref z15, .ref z16]))] := hD
  have hl : lv_has ls 4 [(0, .ref a0), (1, .int p0), (2, .ref z17)] := hl
  refine lv_aload_n hx hb dL_roomOf_0 rfl (lv_at hl 2 rfl) ?_
  refine lv_iconst (v := 0) hx hb dL_roomOf_1 (by decide) ?_
  refine lv_aload_n hx hb dL_roomOf_2 rfl (lv_at hl 0 rfl) ?_
  refine lv_iload_n hx hb dL_roomOf_3 rfl (lv_at hl 1 rfl) ?_
  refine hV (wr := [(a0, .inr (12, [.ref z0, .ref a1, .ref z1, .ref z2, .ref z3, .ref z4, .ref z5, .ref z6, .ref z7, .ref z8, .ref z9, .ref z10, .ref z11, .ref z12, .ref z13])), (a1, .inr (4, [.int 0, .ref z14, .ref z15, .ref z16]))]) (name := "java/util/NoSuchElementException") (E0 := "java/util/NoSuchElementException") (l := l) (yM := yX10_roomOf) (C := RX10) (As := [.int p0]) (rest := [.int 0, .ref z17]) hF (c392_X10_roomOf l hlt a0 a1 z0 z1 z2 z3 z4 z5 z6 z7 z8 z9 z10 z11 z12 z13 z14 z15 z16 p0) gv_RL_140 1 (by decide +kernel) rfl ⟨(Nat.le_of_ble_eq_true rfl), (Nat.le_of_ble_eq_true rfl)⟩ hl.1 rfl (Nat.le_of_ble_eq_true rfl) dL_roomOf_4 ⟨(Nat.le_of_ble_eq_true rfl), (Nat.le_of_ble_eq_true rfl)⟩ hP hD hS (pA hA hS) (fun _ _ => trivial) [0, 1] [] [0, 1] rfl rfl rfl rfl rfl (by decide) 0 (ci := 12) rfl rfl rfl [] ⟨0, 9, 12, 24⟩ [⟨0, 9, 15, 61⟩, ⟨0, 9, 18, 15⟩] htab (fun z hz => nomatch hz) (by decide) (by decide) wd_261 (by decide) (fun q9 H locs hP hD hS => ?_)
  have hP : va_P D vwCl [(a0, .inr (12, [.ref z0, .ref a1, .ref z1, .ref z2, .ref z3, .ref z4, .ref z5, .ref z6, .ref z7, .ref z8, .ref z9, .ref z10, .ref z11, .ref z12, .ref z13])), (a1, .inr (4, [.int 0, .ref z14, .ref z15, .ref z16]))] H := hP
  have hD : va_D (fun _ => True) [(a0, .inr (12, [.ref z0, .ref a1, .ref z1, .ref z2, .ref z3, .ref z4, .ref z5, .ref z6, .ref z7, .ref z8, .ref z9, .ref z10, .ref z11, .ref z12, .ref z13])), (a1, .inr (4, [.int 0, .ref z14, .ref z15, .ref z16]))] := hD
  refine W.widen (k := 1) (n := 6) (Nat.le_of_ble_eq_true rfl) (Nat.le_of_ble_eq_true rfl) ?_
  refine W.eq (g2 := F0 m 12 ls [.ref q9]) rfl ?_
  refine lv_astore_n (lv' := [(3, .ref q9), (0, .ref a0), (1, .int p0), (2, .ref z17)]) hx hb dL_roomOf_12 rfl hl (by decide) rfl (fun ls hl => ?_)
  refine lv_iconst (v := 1) hx hb dL_roomOf_13 (by decide) ?_
  exact e_i hF hr (Nat.le_of_ble_eq_true rfl) (Nat.le_of_ble_eq_true rfl) hS (qg_end hS (fun _ => 0) rfl [] hP rfl d_nil) dL_roomOf_14

set_option maxHeartbeats 4000000 in
set_option maxRecDepth 100000 in
theorem c394_X11_roomOf (l : Launch) (a0 : Nat) (a1 : Nat) (z0 : Nat) (z1 : Nat) (z2 : Nat) (z3 : Nat) (z4 : Nat) (z5 : Nat) (z6 : Nat) (z7 : Nat) (z8 : Nat) (z9 : Nat) (z10 : Nat) (z11 : Nat) (z12 : Nat) (p0 : Int32) : CT l (.code yX11_roomOf cX11_roomOf 4 (some .int)) yX11_roomOf { frames := 1, cells := 0, slots := 0, locals := 23 } [.ref a0, .int p0] (fun y => [(a0, .inr (13, [.ref a1, .ref z0, .ref z1, .ref z2, .ref z3, .ref z4, .int 45, .ref z5, .ref z6, .ref z7, .int 0, .ref z8, .ref z9, .int 0, .int 0, .int 0, .int 0, .ref z10, .int 0, .null, .ref z11, .ref z12])), (a1, .inl (y 0, 3, .inl (fun _ => 0)))]) (fun y => [(a0, .inr (13, [.ref a1, .ref z0, .ref z1, .ref z2, .ref z3, .ref z4, .int 45, .ref z5, .ref z6, .ref z7, .int 0, .ref z8, .ref z9, .int 0, .int 0, .int 0, .int 0, .ref z10, .int 0, .null, .ref z11, .ref z12])), (a1, .inl (y 0, 3, .inl (fun _ => 0)))]) (fun u => some (.int 0)) (fun y u => [(a0, .inr (13, [.ref a1, .ref z0, .ref z1, .ref z2, .ref z3, .ref z4, .int 45, .ref z5, .ref z6, .ref z7, .int 0, .ref z8, .ref z9, .int 0, .int 0, .int 1, .int 0, .ref z10, .int 0, .null, .ref z11, .ref z12])), (a1, .inl (y 0, 3, .inl (fun _ => 0)))]) := by
  refine mkM (by decide) (Nat.le_of_ble_eq_true rfl) ?_
  intro p e s m args below meth c D y A ls hF hr hAe hP hD hS hl
  have hF : FX p e s m args meth c cX11_roomOf 4 RX11 "roomOf" D y A := hF
  obtain ⟨⟨hx, hb, hml, hown, hts⟩, hev, heh, hA, hlk, hnm⟩ := id hF
  have hK := hev.1
  have hP : va_P D vwCl [(a0, .inr (13, [.ref a1, .ref z0, .ref z1, .ref z2, .ref z3, .ref z4, .int 45, .ref z5, .ref z6, .ref z7, .int 0, .ref z8, .ref z9, .int 0, .int 0, .int 0, .int 0, .ref z10, .int 0, .null, .ref z11, .ref z12])), (a1, .inl (y 0, 3, .inl (fun _ => 0)))] s.heap := hP
  have hD : va_D A [(a0, .inr (13, [.ref a1, .ref z0, .ref z1, .ref z2, .ref z3, .ref z4, .int 45, .ref z5, .ref z6, .ref z7, .int 0, .ref z8, .ref z9, .int 0, .int 0, .int 0, .int 0, .ref z10, .int 0, .null, .ref z11, .ref z12])), (a1, .inl (y 0, 3, .inl (fun _ => 0)))] := by rw [← hAe]; exact hD.self
  have hl : lv_has ls 4 [(0, .ref a0), (1, .int p0)] := hl
  refine lv_iload_n hx hb dX11_roomOf_0 rfl (lv_at hl 1 rfl) ?_
  refine lv_iconst (v := 0) hx hb dX11_roomOf_1 (by decide) ?_
  refine lv_aload_n hx hb dX11_roomOf_2 rfl (lv_at hl 0 rfl) ?_
  refine va_get (D := D) (ci := 13) (v := .ref a1) (C := RX11) (T := TX11) (N := 22) hx hb hts inX11 hown hK hP 0 rfl rfl 0 (by decide) (hts _ wd_115) (fun _ h9 => h9) rfl dX11_roomOf_3 ?_
  refine lv_iconst (v := 2) hx hb dX11_roomOf_6 (by decide) ?_
  refine va_iald hx hb hK hP 1 0 rfl rfl (vp_in_nI (n := 2) (by decide) (by decide)) dX11_roomOf_7 ?_
  refine tp_i (v := 0) rfl ?_
  refine lv_iconst (v := 1) hx hb dX11_roomOf_8 (by decide) ?_
  refine lv_isub hx hb dX11_roomOf_9 ?_
  refine tp_i (v := (-1)) (by decide) ?_
  refine cS (l := l) (yM := yX11_in) (As := [.int p0, .int 0, .int (-1)]) (rest := []) (wr := [(a0, .inr (13, [.ref a1, .ref z0, .ref z1, .ref z2, .ref z3, .ref z4, .int 45, .ref z5, .ref z6, .ref z7, .int 0, .ref z8, .ref z9, .int 0, .int 0, .int 0, .int 0, .ref z10, .int 0, .null, .ref z11, .ref z12])), (a1, .inl (y 0, 3, .inl (fun _ => 0)))]) hF (c86_X11_in l p0) gs_RX11_78 3 (by decide +kernel) rfl ⟨(Nat.le_of_ble_eq_true rfl), (Nat.le_of_ble_eq_true rfl)⟩ hl.1 rfl (Nat.le_of_ble_eq_true rfl) dX11_roomOf_10 ⟨(Nat.le_of_ble_eq_true rfl), (Nat.le_of_ble_eq_true rfl)⟩ hP hD hS (pA hA hS) (fun _ h => h) [] [] [0, 1] rfl rfl rfl rfl rfl (by decide) (fun u_1 H locs hP hD hS => ?_)
  have hP : va_P D vwCl [(a0, .inr (13, [.ref a1, .ref z0, .ref z1, .ref z2, .ref z3, .ref z4, .int 45, .ref z5, .ref z6, .ref z7, .int 0, .ref z8, .ref z9, .int 0, .int 0, .int 0, .int 0, .ref z10, .int 0, .null, .ref z11, .ref z12])), (a1, .inl (y 0, 3, .inl (fun _ => 0)))] H := hP
  have hD : va_D A [(a0, .inr (13, [.ref a1, .ref z0, .ref z1, .ref z2, .ref z3, .ref z4, .int 45, .ref z5, .ref z6, .ref z7, .int 0, .ref z8, .ref z9, .int 0, .int 0, .int 0, .int 0, .ref z10, .int 0, .null, .ref z11, .ref z12])), (a1, .inl (y 0, 3, .inl (fun _ => 0)))] := hD
  refine W.widen (k := 0) (n := 0) (Nat.le_of_ble_eq_true rfl) (Nat.le_of_ble_eq_true rfl) ?_
  refine W.eq (g2 := F0 m 13 ls [.int 0]) rfl ?_
  refine lv_istore_n (lv' := [(2, .int 0), (0, .ref a0), (1, .int p0)]) hx hb dX11_roomOf_13 rfl hl (by decide) rfl (fun ls hl => ?_)
  refine lv_iload_n hx hb dX11_roomOf_14 rfl (lv_at hl 0 rfl) ?_
  refine lv_if_eq (tgt := 33) hx hb dX11_roomOf_15 (by decide) (fun _ => ?_) (fun c => absurd (by decide) c)
  refine lv_iconst (v := 0) hx hb dX11_roomOf_33 (by decide) ?_
  refine lv_istore_n (lv' := [(3, .int 0), (2, .int 0), (0, .ref a0), (1, .int p0)]) hx hb dX11_roomOf_34 rfl hl (by decide) rfl (fun ls hl => ?_)
  refine lv_aload_n hx hb dX11_roomOf_35 rfl (lv_at hl 2 rfl) ?_
  refine lv_iload_n hx hb dX11_roomOf_36 rfl (lv_at hl 1 rfl) ?_
  refine lv_if_ne (tgt := 44) hx hb dX11_roomOf_37 (by decide) (fun c => absurd (by decide) c) (fun _ => ?_)
  refine lv_iconst (v := 1) hx hb dX11_roomOf_40 (by decide) ?_
  refine lv_goto (tgt := 45) hx hb dX11_roomOf_41 (by decide) ?_
  refine lv_iload_n hx hb dX11_roomOf_45 rfl (lv_at hl 0 rfl) ?_
  refine lv_iload_n hx hb dX11_roomOf_46 rfl (lv_at hl 1 rfl) ?_
  refine lv_if_eq (tgt := 65) hx hb dX11_roomOf_47 (by decide) (fun _ => ?_) (fun c => absurd (by decide) c)
  refine lv_iconst (v := 0) hx hb dX11_roomOf_65 (by decide) ?_
  refine cV (l := l) (yM := yX11_fails) (C := RX11) (As := [.int 1, .int 0, .int 0]) (rest := []) (wr := [(a1, .inl (y 0, 3, .inl (fun _ => 0)))]) hF (c67_X11_fails l a0 a1 z0 z1 z2 z3 z4 z5 z6 z7 z8 z9 z10 z11 z12) gv_RX11_128 3 (by decide +kernel) rfl ⟨(Nat.le_of_ble_eq_true rfl), (Nat.le_of_ble_eq_true rfl)⟩ hl.1 rfl (Nat.le_of_ble_eq_true rfl) dX11_roomOf_66 ⟨(Nat.le_of_ble_eq_true rfl), (Nat.le_of_ble_eq_true rfl)⟩ hP hD hS (va_free (wc := [(a0, .inr (13, [.ref a1, .ref z0, .ref z1, .ref z2, .ref z3, .ref z4, .int 45, .ref z5, .ref z6, .ref z7, .int 0, .ref z8, .ref z9, .int 0, .int 0, .int 0, .int 0, .ref z10, .int 0, .null, .ref z11, .ref z12]))]) hD hS hA [0] rfl) (fun _ h => h) [0] [0] [1] rfl rfl rfl rfl rfl (by decide) 0 (ci := 13) rfl rfl rfl (fun u_2 H locs hP hD hS => ?_)
  have hP : va_P D vwCl [(a1, .inl (y 0, 3, .inl (fun _ => 0))), (a0, .inr (13, [.ref a1, .ref z0, .ref z1, .ref z2, .ref z3, .ref z4, .int 45, .ref z5, .ref z6, .ref z7, .int 0, .ref z8, .ref z9, .int 0, .int 0, .int 1, .int 0, .ref z10, .int 0, .null, .ref z11, .ref z12]))] H := hP
  have hD : va_D A [(a1, .inl (y 0, 3, .inl (fun _ => 0))), (a0, .inr (13, [.ref a1, .ref z0, .ref z1, .ref z2, .ref z3, .ref z4, .int 45, .ref z5, .ref z6, .ref z7, .int 0, .ref z8, .ref z9, .int 0, .int 0, .int 1, .int 0, .ref z10, .int 0, .null, .ref z11, .ref z12]))] := hD
  refine W.widen (k := 0) (n := 0) (Nat.le_of_ble_eq_true rfl) (Nat.le_of_ble_eq_true rfl) ?_
  refine W.eq (g2 := F0 m 69 ls [.int 1]) rfl ?_
  refine lv_if_eq (tgt := 76) hx hb dX11_roomOf_69 (by decide) (fun c => absurd c (by decide)) (fun _ => ?_)
  refine lv_iconst (v := 0) hx hb dX11_roomOf_72 (by decide) ?_
  refine lv_goto (tgt := 82) hx hb dX11_roomOf_73 (by decide) ?_
  exact e_i hF hr (Nat.le_of_ble_eq_true rfl) (Nat.le_of_ble_eq_true rfl) hS (qg_end hS (fun _ => 0) rfl [1, 0] hP rfl (hD.sub [1, 0] rfl rfl)) dX11_roomOf_82

set_option maxHeartbeats 4000000 in
set_option maxRecDepth 100000 in
theorem c395_X10_needOwners (l : Launch) (a0 : Nat) (a1 : Nat) (a2 : Nat) (a3 : Nat) (z0 : Nat) (z1 : Nat) (z2 : Nat) (z3 : Nat) (z4 : Nat) (z5 : Nat) (z6 : Nat) (z7 : Nat) (z8 : Nat) (z9 : Nat) (z10 : Nat) (z11 : Nat) (z12 : Nat) (z13 : Nat) (z14 : Nat) (z15 : Nat) (z16 : Nat) (z17 : Nat) (z18 : Nat) (z19 : Nat) (z20 : Nat) : CT l (.code yX10_needOwners cX10_needOwners 1 none) yX10_needOwners { frames := 0, cells := 0, slots := 0, locals := 0 } [.ref a0] (fun y => [(a0, .inr (12, [.ref a1, .ref z0, .ref z1, .ref z2, .ref z3, .ref z4, .ref z5, .ref z6, .ref z7, .ref z8, .ref z9, .ref z10, .ref z11, .ref z12, .ref z13])), (a1, .inr (5, [.ref a2, .ref a3, .ref z14])), (a2, .inr (4, [.int 0, .ref z15, .ref z16, .ref z17])), (a3, .inr (4, [.int 0, .ref z18, .ref z19, .ref z20]))]) (fun _ => []) (fun u => none) (fun y u => []) := by
  refine mkM (by decide) (Nat.le_of_ble_eq_true rfl) ?_
  intro p e s m args below meth c D y A ls hF hr hAe hP hD hS hl
  have hF : FX p e s m args meth c cX10_needOwners 1 RX10 "needOwners" D y A := hF
  obtain ⟨⟨hx, hb, hml, hown, hts⟩, hev, heh, hA, hlk, hnm⟩ := id hF
  have hK := hev.1
  have hP : va_P D vwCl [(a0, .inr (12, [.ref a1, .ref z0, .ref z1, .ref z2, .ref z3, .ref z4, .ref z5, .ref z6, .ref z7, .ref z8, .ref z9, .ref z10, .ref z11, .ref z12, .ref z13])), (a1, .inr (5, [.ref a2, .ref a3, .ref z14])), (a2, .inr (4, [.int 0, .ref z15, .ref z16, .ref z17])), (a3, .inr (4, [.int 0, .ref z18, .ref z19, .ref z20]))] s.heap := hP
  have hD : va_D (fun _ => True) [(a0, .inr (12, [.ref a1, .ref z0, .ref z1, .ref z2, .ref z3, .ref z4, .ref z5, .ref z6, .ref z7, .ref z8, .ref z9, .ref z10, .ref z11, .ref z12, .ref z13])), (a1, .inr (5, [.ref a2, .ref a3, .ref z14])), (a2, .inr (4, [.int 0, .ref z15, .ref z16, .ref z17])), (a3, .inr (4, [.int 0, .ref z18, .ref z19, .ref z20]))] := hD
  have hl : lv_has ls 1 [(0, .ref a0)] := hl
  refine lv_aload_n hx hb dX10_needOwners_0 rfl (lv_at hl 0 rfl) ?_
  refine va_get (D := D) (ci := 12) (v := .ref a1) (C := RX10) (T := TX10) (N := 15) hx hb hts inX10 hown hK hP 0 rfl rfl 0 (by decide) (hts _ wd_24) (fun _ h9 => h9) rfl dX10_needOwners_1 ?_
  refine va_getN (D := D) (ci := 5) (v := .ref a2) (C := RX3) (T := TX3) (N := 3) hx hb hts inX3 hown hK hP 1 rfl rfl 0 (by decide) (va_Nw.use (A := args) rfl (hev.2.1 (RX10, 352, RX3, "persons", "LStablepairBureau$Lists;") (List.mem_of_getElem? (i := 8) rfl))) (fun _ h9 => h9) rfl dX10_needOwners_4 ?_
  refine va_getN (D := D) (ci := 4) (v := .int 0) (C := RX2) (T := TX2) (N := 4) hx hb hts inX2 hown hK hP 2 rfl rfl 0 (by decide) (va_Nw.use (A := args) rfl (hev.2.1 (RX10, 99, RX2, "count", "I") (List.mem_of_getElem? (i := 0) rfl))) (fun _ h9 => h9) rfl dX10_needOwners_7 ?_
  refine lv_aload_n hx hb dX10_needOwners_10 rfl (lv_at hl 0 rfl) ?_
  refine va_get (D := D) (ci := 12) (v := .ref a1) (C := RX10) (T := TX10) (N := 15) hx hb hts inX10 hown hK hP 0 rfl rfl 0 (by decide) (hts _ wd_24) (fun _ h9 => h9) rfl dX10_needOwners_11 ?_
  refine va_getN (D := D) (ci := 5) (v := .ref a3) (C := RX3) (T := TX3) (N := 3) hx hb hts inX3 hown hK hP 1 rfl rfl 1 (by decide) (va_Nw.use (A := args) rfl (hev.2.1 (RX10, 368, RX3, "houses", "LStablepairBureau$Lists;") (List.mem_of_getElem? (i := 12) rfl))) (fun _ h9 => h9) rfl dX10_needOwners_14 ?_
  refine va_getN (D := D) (ci := 4) (v := .int 0) (C := RX2) (T := TX2) (N := 4) hx hb hts inX2 hown hK hP 3 rfl rfl 0 (by decide) (va_Nw.use (A := args) rfl (hev.2.1 (RX10, 99, RX2, "count", "I") (List.mem_of_getElem? (i := 0) rfl))) (fun _ h9 => h9) rfl dX10_needOwners_17 ?_
  refine lv_icmp_eq (tgt := 34) hx hb dX10_needOwners_20 (by decide) (fun _ => ?_) (fun c => absurd (by decide) c)
  exact e_v hF hr (Nat.le_of_ble_eq_true rfl) (Nat.le_of_ble_eq_true rfl) hS (qg_end hS (fun _ => 0) rfl [] hP rfl d_nil) dX10_needOwners_34

set_option maxHeartbeats 4000000 in
set_option maxRecDepth 100000 in
theorem c396_X9_settleAll (l : Launch) (a0 : Nat) (a1 : Nat) (a2 : Nat) (z0 : Nat) (z1 : Nat) (z2 : Nat) (z3 : Nat) : CT l (.code yX9_settleAll cX9_settleAll 3 none) yX9_settleAll { frames := 1, cells := 0, slots := 0, locals := 23 } [.ref a1, .ref a0] (fun y => [(a0, .inr (4, [.int 0, .ref z0, .ref z1, .ref z2])), (a1, .inr (11, [.int 0, .ref z3, .ref a2])), (a2, .inl (y 0, 10, .inl (fun _ => 0)))]) (fun y => [(a0, .inr (4, [.int 0, .ref z0, .ref z1, .ref z2])), (a1, .inr (11, [.int 0, .ref z3, .ref a2])), (a2, .inl (y 0, 10, .inl (fun _ => 0)))]) (fun u => none) (fun y u => [(a0, .inr (4, [.int 0, .ref z0, .ref z1, .ref z2])), (a1, .inr (11, [.int 0, .ref z3, .ref a2])), (a2, .inl (y 0, 10, .inl (fun _ => 0)))]) := by
  refine mkM (by decide) (Nat.le_of_ble_eq_true rfl) ?_
  intro p e s m args below meth c D y A ls hF hr hAe hP hD hS hl
  have hF : FX p e s m args meth c cX9_settleAll 3 RX9 "settleAll" D y A := hF
  obtain ⟨⟨hx, hb, hml, hown, hts⟩, hev, heh, hA, hlk, hnm⟩ := id hF
  have hK := hev.1
  have hP : va_P D vwCl [(a0, .inr (4, [.int 0, .ref z0, .ref z1, .ref z2])), (a1, .inr (11, [.int 0, .ref z3, .ref a2])), (a2, .inl (y 0, 10, .inl (fun _ => 0)))] s.heap := hP
  have hD : va_D A [(a0, .inr (4, [.int 0, .ref z0, .ref z1, .ref z2])), (a1, .inr (11, [.int 0, .ref z3, .ref a2])), (a2, .inl (y 0, 10, .inl (fun _ => 0)))] := by rw [← hAe]; exact hD.self
  have hl : lv_has ls 3 [(0, .ref a1), (1, .ref a0)] := hl
  refine lv_aload_n hx hb dX9_settleAll_0 rfl (lv_at hl 0 rfl) ?_
  refine lv_iconst (v := 0) hx hb dX9_settleAll_1 (by decide) ?_
  refine va_put (D := D) (ci := 11) (v := .int 0) (ty := .int) (C := RX9) (T := TX9) (N := 3) hx hb hts inX9 tyX9 tyX9_ok nmX9 hown hK hP hD hS 1 rfl rfl 0 (by decide) (hts _ wd_996) (fun _ h9 => h9) rfl (by decide +kernel) rfl rfl (Nat.le_of_ble_eq_true rfl) dX9_settleAll_2 (fun H locs hP hD hS => ?_)
  have hP : va_P D vwCl [(a0, .inr (4, [.int 0, .ref z0, .ref z1, .ref z2])), (a1, .inr (11, [.int 0, .ref z3, .ref a2])), (a2, .inl (y 0, 10, .inl (fun _ => 0)))] H := hP
  have hD : va_D A [(a0, .inr (4, [.int 0, .ref z0, .ref z1, .ref z2])), (a1, .inr (11, [.int 0, .ref z3, .ref a2])), (a2, .inl (y 0, 10, .inl (fun _ => 0)))] := hD
  refine lv_aload_n hx hb dX9_settleAll_5 rfl (lv_at hl 0 rfl) ?_
  refine va_get (D := D) (ci := 11) (v := .ref a2) (C := RX9) (T := TX9) (N := 3) hx hb hts inX9 hown hK hP 1 rfl rfl 2 (by decide) (hts _ wd_110) (fun _ h9 => h9) rfl dX9_settleAll_6 ?_
  refine lv_iconst (v := 0) hx hb dX9_settleAll_9 (by decide) ?_
  refine cS (l := l) (yM := yJ7_fill_53178) (As := [.ref a2, .int 0]) (rest := []) (wr := [(a0, .inr (4, [.int 0, .ref z0, .ref z1, .ref z2])), (a1, .inr (11, [.int 0, .ref z3, .ref a2]))]) hF (c17_J7_fill_53178 l a2) gs_RX9_22 2 (by decide +kernel) rfl ⟨(Nat.le_of_ble_eq_true rfl), (Nat.le_of_ble_eq_true rfl)⟩ hl.1 rfl (Nat.le_of_ble_eq_true rfl) dX9_settleAll_10 ⟨(Nat.le_of_ble_eq_true rfl), (Nat.le_of_ble_eq_true rfl)⟩ hP hD hS (va_free (wc := [(a2, .inl (y 0, 10, .inl (fun _ => 0)))]) hD hS hA [2] rfl) (fun _ h => h) [2] [2] [0, 1] rfl rfl rfl rfl rfl (by decide) (fun u_1 H locs hP hD hS => ?_)
  have hP : va_P D vwCl [(a0, .inr (4, [.int 0, .ref z0, .ref z1, .ref z2])), (a1, .inr (11, [.int 0, .ref z3, .ref a2])), (a2, .inl (y 0, 10, .inl (fun _ => 0)))] H := hP
  have hD : va_D A [(a0, .inr (4, [.int 0, .ref z0, .ref z1, .ref z2])), (a1, .inr (11, [.int 0, .ref z3, .ref a2])), (a2, .inl (y 0, 10, .inl (fun _ => 0)))] := hD
  refine W.widen (k := 0) (n := 0) (Nat.le_of_ble_eq_true rfl) (Nat.le_of_ble_eq_true rfl) ?_
  refine W.eq (g2 := F0 m 13 ls []) rfl ?_
  refine lv_iconst (v := 1) hx hb dX9_settleAll_13 (by decide) ?_
  refine lv_istore_n (lv' := [(2, .int 1), (0, .ref a1), (1, .ref a0)]) hx hb dX9_settleAll_14 rfl hl (by decide) rfl (fun ls hl => ?_)
  refine lv_iload_n hx hb dX9_settleAll_15 rfl (lv_at hl 0 rfl) ?_
  refine lv_aload_n hx hb dX9_settleAll_16 rfl (lv_at hl 2 rfl) ?_
  refine va_getN (D := D) (ci := 4) (v := .int 0) (C := RX2) (T := TX2) (N := 4) hx hb hts inX2 hown hK hP 0 rfl rfl 0 (by decide) (va_Nw.use (A := args) rfl (hev.2.1 (RX9, 28, RX2, "count", "I") (List.mem_of_getElem? (i := 1) rfl))) (fun _ h9 => h9) rfl dX9_settleAll_17 ?_
  refine lv_icmp_gt (tgt := 35) hx hb dX9_settleAll_20 (by decide) (fun _ => ?_) (fun c => absurd (by decide) c)
  exact e_v hF hr (Nat.le_of_ble_eq_true rfl) (Nat.le_of_ble_eq_true rfl) hS (qg_end hS (fun _ => 0) rfl [0, 1, 2] hP rfl (hD.sub [0, 1, 2] rfl rfl)) dX9_settleAll_35

set_option maxHeartbeats 4000000 in
set_option maxRecDepth 100000 in
theorem c395_X10_trade (l : Launch) (a0 : Nat) (a1 : Nat) (a2 : Nat) (a3 : Nat) (a4 : Nat) (a5 : Nat) (z0 : Nat) (z1 : Nat) (z2 : Nat) (z3 : Nat) (z4 : Nat) (z5 : Nat) (z6 : Nat) (z7 : Nat) (z8 : Nat) (z9 : Nat) (z10 : Nat) (z11 : Nat) (z12 : Nat) (z13 : Nat) (z14 : Nat) (z15 : Nat) (z16 : Nat) (z17 : Nat) (z18 : Nat) (z19 : Nat) (z20 : Nat) : CT l (.code yX10_trade cX10_trade 1 (some .int)) yX10_trade { frames := 2, cells := 0, slots := 0, locals := 45 } [.ref a0] (fun y => [(a0, .inr (12, [.ref a1, .ref z0, .ref z1, .ref z2, .ref z3, .ref z4, .ref z5, .ref z6, .ref z7, .ref z8, .ref z9, .ref z10, .ref z11, .ref z12, .ref a4])), (a1, .inr (5, [.ref a2, .ref a3, .ref z13])), (a2, .inr (4, [.int 0, .ref z14, .ref z15, .ref z16])), (a3, .inr (4, [.int 0, .ref z17, .ref z18, .ref z19])), (a4, .inr (11, [.int 0, .ref z20, .ref a5])), (a5, .inl (y 0, 10, .inl (fun _ => 0)))]) (fun y => [(a0, .inr (12, [.ref a1, .ref z0, .ref z1, .ref z2, .ref z3, .ref z4, .ref z5, .ref z6, .ref z7, .ref z8, .ref z9, .ref z10, .ref z11, .ref z12, .ref a4])), (a1, .inr (5, [.ref a2, .ref a3, .ref z13])), (a2, .inr (4, [.int 0, .ref z14, .ref z15, .ref z16])), (a3, .inr (4, [.int 0, .ref z17, .ref z18, .ref z19])), (a4, .inr (11, [.int 0, .ref z20, .ref a5])), (a5, .inl (y 0, 10, .inl (fun _ => 0)))]) (fun u => some (.int 0)) (fun y u => [(a0, .inr (12, [.ref a1, .ref z0, .ref z1, .ref z2, .ref z3, .ref z4, .ref z5, .ref z6, .ref z7, .ref z8, .ref z9, .ref z10, .ref z11, .ref z12, .ref a4])), (a1, .inr (5, [.ref a2, .ref a3, .ref z13])), (a2, .inr (4, [.int 0, .ref z14, .ref z15, .ref z16])), (a3, .inr (4, [.int 0, .ref z17, .ref z18, .ref z19])), (a4, .inr (11, [.int 0, .ref z20, .ref a5])), (a5, .inl (y 0, 10, .inl (fun _ => 0)))]) := by
  refine mkM (by decide) (Nat.le_of_ble_eq_true rfl) ?_
  intro p e s m args below meth c D y A ls hF hr hAe hP hD hS hl
  have hF : FX p e s m args meth c cX10_trade 1 RX10 "trade" D y A := hF
  obtain ⟨⟨hx, hb, hml, hown, hts⟩, hev, heh, hA, hlk, hnm⟩ := id hF
  have hK := hev.1
  have hP : va_P D vwCl [(a0, .inr (12, [.ref a1, .ref z0, .ref z1, .ref z2, .ref z3, .ref z4, .ref z5, .ref z6, .ref z7, .ref z8, .ref z9, .ref z10, .ref z11, .ref z12, .ref a4])), (a1, .inr (5, [.ref a2, .ref a3, .ref z13])), (a2, .inr (4, [.int 0, .ref z14, .ref z15, .ref z16])), (a3, .inr (4, [.int 0, .ref z17, .ref z18, .ref z19])), (a4, .inr (11, [.int 0, .ref z20, .ref a5])), (a5, .inl (y 0, 10, .inl (fun _ => 0)))] s.heap := hP
  have hD : va_D A [(a0, .inr (12, [.ref a1, .ref z0, .ref z1, .ref z2, .ref z3, .ref z4, .ref z5, .ref z6, .ref z7, .ref z8, .ref z9, .ref z10, .ref z11, .ref z12, .ref a4])), (a1, .inr (5, [.ref a2, .ref a3, .ref z13])), (a2, .inr (4, [.int 0, .ref z14, .ref z15, .ref z16])), (a3, .inr (4, [.int 0, .ref z17, .ref z18, .ref z19])), (a4, .inr (11, [.int 0, .ref z20, .ref a5])), (a5, .inl (y 0, 10, .inl (fun _ => 0)))] := by rw [← hAe]; exact hD.self
  have hl : lv_has ls 1 [(0, .ref a0)] := hl
  refine lv_aload_n hx hb dX10_trade_0 rfl (lv_at hl 0 rfl) ?_
  refine cV (l := l) (yM := yX10_needOwners) (C := RX10) (As := []) (rest := []) (wr := [(a0, .inr (12, [.ref a1, .ref z0, .ref z1, .ref z2, .ref z3, .ref z4, .ref z5, .ref z6, .ref z7, .ref z8, .ref z9, .ref z10, .ref z11, .ref z12, .ref a4])), (a1, .inr (5, [.ref a2, .ref a3, .ref z13])), (a2, .inr (4, [.int 0, .ref z14, .ref z15, .ref z16])), (a3, .inr (4, [.int 0, .ref z17, .ref z18, .ref z19])), (a4, .inr (11, [.int 0, .ref z20, .ref a5])), (a5, .inl (y 0, 10, .inl (fun _ => 0)))]) hF (c395_X10_needOwners l a0 a1 a2 a3 z0 z1 z2 z3 z4 z5 z6 z7 z8 z9 z10 z11 z12 a4 z13 z14 z15 z16 z17 z18 z19) gv_RX10_400 0 (by decide +kernel) rfl ⟨(Nat.le_of_ble_eq_true rfl), (Nat.le_of_ble_eq_true rfl)⟩ hl.1 rfl (Nat.le_of_ble_eq_true rfl) dX10_trade_1 ⟨(Nat.le_of_ble_eq_true rfl), (Nat.le_of_ble_eq_true rfl)⟩ hP hD hS (pA hA hS) (fun _ h => h) [0, 1, 2, 3] [] [0, 1, 2, 3, 4, 5] rfl rfl rfl rfl rfl (by decide) 0 (ci := 12) rfl rfl rfl (fun u_1 H locs hP hD hS => ?_)
  have hP : va_P D vwCl [(a0, .inr (12, [.ref a1, .ref z0, .ref z1, .ref z2, .ref z3, .ref z4, .ref z5, .ref z6, .ref z7, .ref z8, .ref z9, .ref z10, .ref z11, .ref z12, .ref a4])), (a1, .inr (5, [.ref a2, .ref a3, .ref z13])), (a2, .inr (4, [.int 0, .ref z14, .ref z15, .ref z16])), (a3, .inr (4, [.int 0, .ref z17, .ref z18, .ref z19])), (a4, .inr (11, [.int 0, .ref z20, .ref a5])), (a5, .inl (y 0, 10, .inl (fun _ => 0)))] H := hP
  have hD : va_D A [(a0, .inr (12, [.ref a1, .ref z0, .ref z1, .ref z2, .ref z3, .ref z4, .ref z5, .ref z6, .ref z7, .ref z8, .ref z9, .ref z10, .ref z11, .ref z12, .ref a4])), (a1, .inr (5, [.ref a2, .ref a3, .ref z13])), (a2, .inr (4, [.int 0, .ref z14, .ref z15, .ref z16])), (a3, .inr (4, [.int 0, .ref z17, .ref z18, .ref z19])), (a4, .inr (11, [.int 0, .ref z20, .ref a5])), (a5, .inl (y 0, 10, .inl (fun _ => 0)))] := hD
  refine W.widen (k := 0) (n := 0) (Nat.le_of_ble_eq_true rfl) (Nat.le_of_ble_eq_true rfl) ?_
  refine W.eq (g2 := F0 m 4 ls []) rfl ?_
  refine lv_aload_n hx hb dX10_trade_4 rfl (lv_at hl 0 rfl) ?_
  refine va_get (D := D) (ci := 12) (v := .ref a4) (C := RX10) (T := TX10) (N := 15) hx hb hts inX10 hown hK hP 0 rfl rfl 14 (by decide) (hts _ wd_113) (fun _ h9 => h9) rfl dX10_trade_5 ?_
  refine lv_aload_n hx hb dX10_trade_8 rfl (lv_at hl 0 rfl) ?_
  refine va_get (D := D) (ci := 12) (v := .ref a1) (C := RX10) (T := TX10) (N := 15) hx hb hts inX10 hown hK hP 0 rfl rfl 0 (by decide) (hts _ wd_24) (fun _ h9 => h9) rfl dX10_trade_9 ?_
  refine va_getN (D := D) (ci := 5) (v := .ref a2) (C := RX3) (T := TX3) (N := 3) hx hb hts inX3 hown hK hP 1 rfl rfl 0 (by decide) (va_Nw.use (A := args) rfl (hev.2.1 (RX10, 352, RX3, "persons", "LStablepairBureau$Lists;") (List.mem_of_getElem? (i := 8) rfl))) (fun _ h9 => h9) rfl dX10_trade_12 ?_
  refine cV (l := l) (yM := yX9_settleAll) (C := RX9) (As := [.ref a2]) (rest := []) (wr := [(a0, .inr (12, [.ref a1, .ref z0, .ref z1, .ref z2, .ref z3, .ref z4, .ref z5, .ref z6, .ref z7, .ref z8, .ref z9, .ref z10, .ref z11, .ref z12, .ref a4])), (a1, .inr (5, [.ref a2, .ref a3, .ref z13])), (a3, .inr (4, [.int 0, .ref z17, .ref z18, .ref z19]))]) hF (c396_X9_settleAll l a2 a4 a5 z14 z15 z16 z20) gv_RX10_403 1 (by decide +kernel) rfl ⟨(Nat.le_of_ble_eq_true rfl), (Nat.le_of_ble_eq_true rfl)⟩ hl.1 rfl (Nat.le_of_ble_eq_true rfl) dX10_trade_15 ⟨(Nat.le_of_ble_eq_true rfl), (Nat.le_of_ble_eq_true rfl)⟩ hP hD hS (va_free (wc := [(a2, .inr (4, [.int 0, .ref z14, .ref z15, .ref z16])), (a4, .inr (11, [.int 0, .ref z20, .ref a5])), (a5, .inl (y 0, 10, .inl (fun _ => 0)))]) hD hS hA [2, 4, 5] rfl) (fun _ h => h) [2, 4, 5] [2, 4, 5] [0, 1, 3] rfl rfl rfl rfl rfl (by decide) 4 (ci := 11) rfl rfl rfl (fun u_2 H locs hP hD hS => ?_)
  have hP : va_P D vwCl [(a0, .inr (12, [.ref a1, .ref z0, .ref z1, .ref z2, .ref z3, .ref z4, .ref z5, .ref z6, .ref z7, .ref z8, .ref z9, .ref z10, .ref z11, .ref z12, .ref a4])), (a1, .inr (5, [.ref a2, .ref a3, .ref z13])), (a3, .inr (4, [.int 0, .ref z17, .ref z18, .ref z19])), (a2, .inr (4, [.int 0, .ref z14, .ref z15, .ref z16])), (a4, .inr (11, [.int 0, .ref z20, .ref a5])), (a5, .inl (y 0, 10, .inl (fun _ => 0)))] H := hP
  have hD : va_D A [(a0, .inr (12, [.ref a1, .ref z0, .ref z1, .ref z2, .ref z3, .ref z4, .ref z5, .ref z6, .ref z7, .ref z8, .ref z9, .ref z10, .ref z11, .ref z12, .ref a4])), (a1, .inr (5, [.ref a2, .ref a3, .ref z13])), (a3, .inr (4, [.int 0, .ref z17, .ref z18, .ref z19])), (a2, .inr (4, [.int 0, .ref z14, .ref z15, .ref z16])), (a4, .inr (11, [.int 0, .ref z20, .ref a5])), (a5, .inl (y 0, 10, .inl (fun _ => 0)))] := hD
  refine W.widen (k := 0) (n := 0) (Nat.le_of_ble_eq_true rfl) (Nat.le_of_ble_eq_true rfl) ?_
  refine W.eq (g2 := F0 m 18 ls []) rfl ?_
  refine lv_aload_n hx hb dX10_trade_18 rfl (lv_at hl 0 rfl) ?_
  refine va_get (D := D) (ci := 12) (v := .ref a4) (C := RX10) (T := TX10) (N := 15) hx hb hts inX10 hown hK hP 0 rfl rfl 14 (by decide) (hts _ wd_113) (fun _ h9 => h9) rfl dX10_trade_19 ?_
  refine va_getN (D := D) (ci := 11) (v := .int 0) (C := RX9) (T := TX9) (N := 3) hx hb hts inX9 hown hK hP 4 rfl rfl 0 (by decide) (va_Nw.use (A := args) rfl (hev.2.1 (RX10, 406, RX9, "rings", "I") (List.mem_of_getElem? (i := 22) rfl))) (fun _ h9 => h9) rfl dX10_trade_22 ?_
  exact e_i hF hr (Nat.le_of_ble_eq_true rfl) (Nat.le_of_ble_eq_true rfl) hS (qg_end hS (fun _ => 0) rfl [0, 1, 3, 2, 4, 5] hP rfl (hD.sub [0, 1, 3, 2, 4, 5] rfl rfl)) dX10_trade_25

set_option maxHeartbeats 4000000 in
set_option maxRecDepth 100000 in
theorem c395_L_trade (l : Launch) (a0 : Nat) (a1 : Nat) (a2 : Nat) (a3 : Nat) (a4 : Nat) (a5 : Nat) (a6 : Nat) (z0 : Nat) (z1 : Nat) (z2 : Nat) (z3 : Nat) (z4 : Nat) (z5 : Nat) (z6 : Nat) (z7 : Nat) (z8 : Nat) (z9 : Nat) (z10 : Nat) (z11 : Nat) (z12 : Nat) (z13 : Nat) (z14 : Nat) (z15 : Nat) (z16 : Nat) (z17 : Nat) (z18 : Nat) (z19 : Nat) (z20 : Nat) : CT l (.codeWith yL_trade cL_trade 3 (some .int) [(0, 8, 11, 61)]) yL_trade { frames := 3, cells := 0, slots := 0, locals := 65 } [.ref a0, .ref a6] (fun y => [(a0, .inr (12, [.ref a1, .ref z0, .ref z1, .ref z2, .ref z3, .ref z4, .ref z5, .ref z6, .ref z7, .ref z8, .ref z9, .ref z10, .ref z11, .ref z12, .ref a4])), (a1, .inr (5, [.ref a2, .ref a3, .ref z13])), (a2, .inr (4, [.int 0, .ref z14, .ref z15, .ref z16])), (a3, .inr (4, [.int 0, .ref z17, .ref z18, .ref z19])), (a4, .inr (11, [.int 0, .ref z20, .ref a5])), (a5, .inl (y 0, 10, .inl (fun _ => 0))), (a6, .inl (y 2, 1, .inr (.inl (fun _ => 0))))]) (fun y => [(a0, .inr (12, [.ref a1, .ref z0, .ref z1, .ref z2, .ref z3, .ref z4, .ref z5, .ref z6, .ref z7, .ref z8, .ref z9, .ref z10, .ref z11, .ref z12, .ref a4])), (a1, .inr (5, [.ref a2, .ref a3, .ref z13])), (a2, .inr (4, [.int 0, .ref z14, .ref z15, .ref z16])), (a3, .inr (4, [.int 0, .ref z17, .ref z18, .ref z19])), (a4, .inr (11, [.int 0, .ref z20, .ref a5])), (a5, .inl (y 0, 10, .inl (fun _ => 0))), (a6, .inl (y 2, 1, .inr (.inl (fun _ => 0))))]) (fun u => some (.int 0)) (fun y u => [(a0, .inr (12, [.ref a1, .ref z0, .ref z1, .ref z2, .ref z3, .ref z4, .ref z5, .ref z6, .ref z7, .ref z8, .ref z9, .ref z10, .ref z11, .ref z12, .ref a4])), (a1, .inr (5, [.ref a2, .ref a3, .ref z13])), (a2, .inr (4, [.int 0, .ref z14, .ref z15, .ref z16])), (a3, .inr (4, [.int 0, .ref z17, .ref z18, .ref z19])), (a4, .inr (11, [.int 0, .ref z20, .ref a5])), (a5, .inl (y 0, 10, .inl (fun _ => 0))), (a6, .inl (y 2, 1, .inr (.inl (fun _ => 0))))]) := by
  refine mkH (by decide) (Nat.le_of_ble_eq_true rfl) ?_
  intro p e s m args below meth c D y A ls hF htab hr hAe hP hD hS hl
  have hF : FX p e s m args meth c cL_trade 3 RL "trade" D y A := hF
  obtain ⟨⟨hx, hb, hml, hown, hts⟩, hev, heh, hA, hlk, hnm⟩ := id hF
  have hK := hev.1
  have hP : va_P D vwCl [(a0, .inr (12, [.ref a1, .ref z0, .ref z1, .ref z2, .ref z3, .ref z4, .ref z5, .ref z6, .ref z7, .ref z8, .ref z9, .ref z10, .ref z11, .ref z12, .ref a4])), (a1, .inr (5, [.ref a2, .ref a3, .ref z13])), (a2, .inr (4, [.int 0, .ref z14, .ref z15, .ref z16])), (a3, .inr (4, [.int 0, .ref z17, .ref z18, .ref z19])), (a4, .inr (11, [.int 0, .ref z20, .ref a5])), (a5, .inl (y 0, 10, .inl (fun _ => 0))), (a6, .inl (y 2, 1, .inr (.inl (fun _ => 0))))] s.heap := hP
  have hD : va_D A [(a0, .inr (12, [.ref a1, .ref z0, .ref z1, .ref z2, .ref z3, .ref z4, .ref z5, .ref z6, .ref z7, .ref z8, .ref z9, .ref z10, .ref z11, .ref z12, .ref a4])), (a1, .inr (5, [.ref a2, .ref a3, .ref z13])), (a2, .inr (4, [.int 0, .ref z14, .ref z15, .ref z16])), (a3, .inr (4, [.int 0, .ref z17, .ref z18, .ref z19])), (a4, .inr (11, [.int 0, .ref z20, .ref a5])), (a5, .inl (y 0, 10, .inl (fun _ => 0))), (a6, .inl (y 2, 1, .inr (.inl (fun _ => 0))))] := by rw [← hAe]; exact hD.self
  have hl : lv_has ls 3 [(0, .ref a0), (1, .ref a6)] := hl
  refine lv_aload_n hx hb dL_trade_0 rfl (lv_at hl 1 rfl) ?_
  refine lv_iconst (v := 0) hx hb dL_trade_1 (by decide) ?_
  refine lv_aload_n hx hb dL_trade_2 rfl (lv_at hl 0 rfl) ?_
  refine cV (l := l) (yM := yX10_trade) (C := RX10) (As := []) (rest := [.int 0, .ref a6]) (wr := [(a6, .inl (y 2, 1, .inr (.inl (fun _ => 0))))]) hF (c395_X10_trade l a0 a1 a2 a3 a4 a5 z0 z1 z2 z3 z4 z5 z6 z7 z8 z9 z10 z11 z12 z13 z14 z15 z16 z17 z18 z19 z20) gv_RL_143 0 (by decide +kernel) rfl ⟨(Nat.le_of_ble_eq_true rfl), (Nat.le_of_ble_eq_true rfl)⟩ hl.1 rfl (Nat.le_of_ble_eq_true rfl) dL_trade_3 ⟨(Nat.le_of_ble_eq_true rfl), (Nat.le_of_ble_eq_true rfl)⟩ hP hD hS (va_free (wc := [(a0, .inr (12, [.ref a1, .ref z0, .ref z1, .ref z2, .ref z3, .ref z4, .ref z5, .ref z6, .ref z7, .ref z8, .ref z9, .ref z10, .ref z11, .ref z12, .ref a4])), (a1, .inr (5, [.ref a2, .ref a3, .ref z13])), (a2, .inr (4, [.int 0, .ref z14, .ref z15, .ref z16])), (a3, .inr (4, [.int 0, .ref z17, .ref z18, .ref z19])), (a4, .inr (11, [.int 0, .ref z20, .ref a5])), (a5, .inl (y 0, 10, .inl (fun _ => 0)))]) hD hS hA [0, 1, 2, 3, 4, 5] rfl) (fun _ h => h) [0, 1, 2, 3, 4, 5] [0, 1, 2, 3, 4, 5] [6] rfl rfl rfl rfl rfl (by decide) 0 (ci := 12) rfl rfl rfl (fun u_1 H locs hP hD hS => ?_)
  have hP : va_P D vwCl [(a6, .inl (y 2, 1, .inr (.inl (fun _ => 0)))), (a0, .inr (12, [.ref a1, .ref z0, .ref z1, .ref z2, .ref z3, .ref z4, .ref z5, .ref z6, .ref z7, .ref z8, .ref z9, .ref z10, .ref z11, .ref z12, .ref a4])), (a1, .inr (5, [.ref a2, .ref a3, .ref z13])), (a2, .inr (4, [.int 0, .ref z14, .ref z15, .ref z16])), (a3, .inr (4, [.int 0, .ref z17, .ref z18, .ref z19])), (a4, .inr (11, [.int 0, .ref z20, .ref a5])), (a5, .inl (y 0, 10, .inl (fun _ => 0)))] H := hP
  have hD : va_D A [(a6, .inl (y 2, 1, .inr (.inl (fun _ => 0)))), (a0, .inr (12, [.ref a1, .ref z0, .ref z1, .ref z2, .ref z3, .ref z4, .ref z5, .ref z6, .ref z7, .ref z8, .ref z9, .ref z10, .ref z11, .ref z12, .ref a4])), (a1, .inr (5, [.ref a2, .ref a3, .ref z13])), (a2, .inr (4, [.int 0, .ref z14, .ref z15, .ref z16])), (a3, .inr (4, [.int 0, .ref z17, .ref z18, .ref z19])), (a4, .inr (11, [.int 0, .ref z20, .ref a5])), (a5, .inl (y 0, 10, .inl (fun _ => 0)))] := hD
  refine W.widen (k := 0) (n := 0) (Nat.le_of_ble_eq_true rfl) (Nat.le_of_ble_eq_true rfl) ?_
  refine W.eq (g2 := F0 m 6 ls [.int 0, .int 0, .ref a6]) rfl ?_
  refine lv_i2l (v := 0) hx hb dL_trade_6 (by decide) ?_
  refine va_last hx hb hK hP hD hS 0 2 rfl rfl (vp_in_nI (n := 0) (by decide) (by decide)) dL_trade_7 (fun H locs hP hD hS => ?_)
  obtain ⟨hP, hD⟩ := same_l (g := (fun _ => 0)) hP hD 0 rfl (fun j _ => up_l rfl)
  have hP : va_P D vwCl [(a6, .inl (y 2, 1, .inr (.inl (fun _ => 0)))), (a0, .inr (12, [.ref a1, .ref z0, .ref z1, .ref z2, .ref z3, .ref z4, .ref z5, .ref z6, .ref z7, .ref z8, .ref z9, .ref z10, .ref z11, .ref z12, .ref a4])), (a1, .inr (5, [.ref a2, .ref a3, .ref z13])), (a2, .inr (4, [.int 0, .ref z14, .ref z15, .ref z16])), (a3, .inr (4, [.int 0, .ref z17, .ref z18, .ref z19])), (a4, .inr (11, [.int 0, .ref z20, .ref a5])), (a5, .inl (y 0, 10, .inl (fun _ => 0)))] H := hP
  have hD : va_D A [(a6, .inl (y 2, 1, .inr (.inl (fun _ => 0)))), (a0, .inr (12, [.ref a1, .ref z0, .ref z1, .ref z2, .ref z3, .ref z4, .ref z5, .ref z6, .ref z7, .ref z8, .ref z9, .ref z10, .ref z11, .ref z12, .ref a4])), (a1, .inr (5, [.ref a2, .ref a3, .ref z13])), (a2, .inr (4, [.int 0, .ref z14, .ref z15, .ref z16])), (a3, .inr (4, [.int 0, .ref z17, .ref z18, .ref z19])), (a4, .inr (11, [.int 0, .ref z20, .ref a5])), (a5, .inl (y 0, 10, .inl (fun _ => 0)))] := hD
  refine lv_goto (tgt := 14) hx hb dL_trade_8 (by decide) ?_
  refine lv_iconst (v := 0) hx hb dL_trade_14 (by decide) ?_
  exact e_i hF hr (Nat.le_of_ble_eq_true rfl) (Nat.le_of_ble_eq_true rfl) hS (qg_end hS (fun _ => 0) rfl [1, 2, 3, 4, 5, 6, 0] hP rfl (hD.sub [1, 2, 3, 4, 5, 6, 0] rfl rfl)) dL_trade_15

set_option maxHeartbeats 4000000 in
set_option maxRecDepth 100000 in
theorem c399_X11_trades (l : Launch) (a0 : Nat) (a1 : Nat) (a2 : Nat) (z0 : Nat) (z1 : Nat) (z2 : Nat) (z3 : Nat) (z4 : Nat) (z5 : Nat) (z6 : Nat) (z7 : Nat) (z8 : Nat) (z9 : Nat) (z10 : Nat) (z11 : Nat) : CT l (.code yX11_trades cX11_trades 9 (some .int)) yX11_trades { frames := 0, cells := 0, slots := 0, locals := 0 } [.ref a0] (fun y => [(a0, .inr (13, [.ref a1, .ref z0, .ref z1, .ref z2, .ref z3, .ref z4, .int 45, .ref z5, .ref z6, .ref z7, .int 0, .ref z8, .ref z9, .int 0, .int 0, .int 0, .int 0, .ref z10, .int 0, .null, .ref a2, .ref z11])), (a1, .inl (y 0, 3, .inl (fun _ => 0))), (a2, .inl (y 0, 10, .inl (fun _ => 0)))]) (fun y => [(a0, .inr (13, [.ref a1, .ref z0, .ref z1, .ref z2, .ref z3, .ref z4, .int 45, .ref z5, .ref z6, .ref z7, .int 0, .ref z8, .ref z9, .int 0, .int 0, .int 0, .int 0, .ref z10, .int 0, .null, .ref a2, .ref z11])), (a1, .inl (y 0, 3, .inl (fun _ => 0))), (a2, .inl (y 0, 10, .inl (fun _ => 0)))]) (fun u => some (.int 0)) (fun y u => [(a0, .inr (13, [.ref a1, .ref z0, .ref z1, .ref z2, .ref z3, .ref z4, .int 45, .ref z5, .ref z6, .ref z7, .int 0, .ref z8, .ref z9, .int 0, .int 0, .int 0, .int 0, .ref z10, .int 0, .null, .ref a2, .ref z11])), (a1, .inl (y 0, 3, .inl (fun _ => 0))), (a2, .inl (y 0, 10, .inl (fun _ => 0)))]) := by
  refine mkM (by decide) (Nat.le_of_ble_eq_true rfl) ?_
  intro p e s m args below meth c D y A ls hF hr hAe hP hD hS hl
  have hF : FX p e s m args meth c cX11_trades 9 RX11 "trades" D y A := hF
  obtain ⟨⟨hx, hb, hml, hown, hts⟩, hev, heh, hA, hlk, hnm⟩ := id hF
  have hK := hev.1
  have hP : va_P D vwCl [(a0, .inr (13, [.ref a1, .ref z0, .ref z1, .ref z2, .ref z3, .ref z4, .int 45, .ref z5, .ref z6, .ref z7, .int 0, .ref z8, .ref z9, .int 0, .int 0, .int 0, .int 0, .ref z10, .int 0, .null, .ref a2, .ref z11])), (a1, .inl (y 0, 3, .inl (fun _ => 0))), (a2, .inl (y 0, 10, .inl (fun _ => 0)))] s.heap := hP
  have hD : va_D A [(a0, .inr (13, [.ref a1, .ref z0, .ref z1, .ref z2, .ref z3, .ref z4, .int 45, .ref z5, .ref z6, .ref z7, .int 0, .ref z8, .ref z9, .int 0, .int 0, .int 0, .int 0, .ref z10, .int 0, .null, .ref a2, .ref z11])), (a1, .inl (y 0, 3, .inl (fun _ => 0))), (a2, .inl (y 0, 10, .inl (fun _ => 0)))] := by rw [← hAe]; exact hD.self
  have hl : lv_has ls 9 [(0, .ref a0)] := hl
  refine lv_iconst (v := 0) hx hb dX11_trades_0 (by decide) ?_
  refine lv_istore_n (lv' := [(1, .int 0), (0, .ref a0)]) hx hb dX11_trades_1 rfl hl (by decide) rfl (fun ls hl => ?_)
  refine lpF (lo := 0) (N := 10) (by decide) (Wd := fun i => [(a0, .inr (13, [.ref a1, .ref z0, .ref z1, .ref z2, .ref z3, .ref z4, .int 45, .ref z5, .ref z6, .ref z7, .int 0, .ref z8, .ref z9, .int 0, .int 0, .int 0, .int 0, .ref z10, .int 0, .null, .ref a2, .ref z11])), (a1, .inl (y 0, 3, .inl (fun _ => 0))), (a2, .inl (y 0, 10, .inl (fun _ => 0)))]) (Lv := fun i => [(1, .int (nI i)), (0, .ref a0)]) hP hD hS (lv_sub hl [0, 1] rfl) (fun i hlo_i hi ih_i H locs ls hP hD hS hl => ?_) (fun H locs ls hP hD hS hl => ?_)
  · have hP : va_P D vwCl [(a0, .inr (13, [.ref a1, .ref z0, .ref z1, .ref z2, .ref z3, .ref z4, .int 45, .ref z5, .ref z6, .ref z7, .int 0, .ref z8, .ref z9, .int 0, .int 0, .int 0, .int 0, .ref z10, .int 0, .null, .ref a2, .ref z11])), (a1, .inl (y 0, 3, .inl (fun _ => 0))), (a2, .inl (y 0, 10, .inl (fun _ => 0)))] H := hP
    have hD : va_D A [(a0, .inr (13, [.ref a1, .ref z0, .ref z1, .ref z2, .ref z3, .ref z4, .int 45, .ref z5, .ref z6, .ref z7, .int 0, .ref z8, .ref z9, .int 0, .int 0, .int 0, .int 0, .ref z10, .int 0, .null, .ref a2, .ref z11])), (a1, .inl (y 0, 3, .inl (fun _ => 0))), (a2, .inl (y 0, 10, .inl (fun _ => 0)))] := hD
    have hl : lv_has ls 9 [(1, .int (nI i)), (0, .ref a0)] := hl
    have hi_1 : (nI i) < (10 : Int32) := nI_lt hi (by decide)
    have hi_0 : ¬ (nI i) < (0 : Int32) := nI_pos (by omega)
    refine lv_iload_n hx hb dX11_trades_2 rfl (lv_at hl 0 rfl) ?_
    refine lv_bipush (v := 10) hx hb dX11_trades_3 (by decide) ?_
    refine lv_icmp_ge (tgt := 21) hx hb dX11_trades_5 (by decide) (fun c => absurd c (by have e0 : (0 : Int32).toInt = 0 := (by decide); have e1 : (10 : Int32).toInt = 10 := (by decide); have h9 := And.intro hi_1 hi_0; simp only [Int32.lt_iff_toInt_lt, Int32.le_iff_toInt_le, ← Int32.toInt_inj, e0, e1] at h9 ⊢; omega)) (fun _ => ?_)
    refine lv_aload_n hx hb dX11_trades_8 rfl (lv_at hl 1 rfl) ?_
    refine va_get (D := D) (ci := 13) (v := .ref a2) (C := RX11) (T := TX11) (N := 22) hx hb hts inX11 hown hK hP 0 rfl rfl 20 (by decide) (hts _ wd_135) (fun _ h9 => h9) rfl dX11_trades_9 ?_
    refine lv_iload_n hx hb dX11_trades_12 rfl (lv_at hl 0 rfl) ?_
    refine lv_iconst (v := 0) hx hb dX11_trades_13 (by decide) ?_
    refine va_iast hx hb hK hP hD hS 2 0 rfl rfl (vp_in_nI (by omega) (by decide)) dX11_trades_14 (fun H locs hP hD hS => ?_)
    obtain ⟨hP, hD⟩ := same_c (g := (fun _ => 0)) hP hD 2 rfl (fun j _ => up_c rfl)
    have hP : va_P D vwCl [(a0, .inr (13, [.ref a1, .ref z0, .ref z1, .ref z2, .ref z3, .ref z4, .int 45, .ref z5, .ref z6, .ref z7, .int 0, .ref z8, .ref z9, .int 0, .int 0, .int 0, .int 0, .ref z10, .int 0, .null, .ref a2, .ref z11])), (a1, .inl (y 0, 3, .inl (fun _ => 0))), (a2, .inl (y 0, 10, .inl (fun _ => 0)))] H := hP
    have hD : va_D A [(a0, .inr (13, [.ref a1, .ref z0, .ref z1, .ref z2, .ref z3, .ref z4, .int 45, .ref z5, .ref z6, .ref z7, .int 0, .ref z8, .ref z9, .int 0, .int 0, .int 0, .int 0, .ref z10, .int 0, .null, .ref a2, .ref z11])), (a1, .inl (y 0, 3, .inl (fun _ => 0))), (a2, .inl (y 0, 10, .inl (fun _ => 0)))] := hD
    refine lv_iinc (v := nI (i + 1)) (lv' := [(1, .int (nI (i + 1))), (0, .ref a0)]) hx hb dX11_trades_15 hl (k := 0) rfl (nI_inc i) (by decide) rfl (fun ls hl => ?_)
    refine lv_goto (tgt := 2) hx hb dX11_trades_18 (by decide) ?_
    exact ih_i _ _ _ hP hD hS (lv_sub hl [0, 1] rfl)
  · have hP : va_P D vwCl [(a0, .inr (13, [.ref a1, .ref z0, .ref z1, .ref z2, .ref z3, .ref z4, .int 45, .ref z5, .ref z6, .ref z7, .int 0, .ref z8, .ref z9, .int 0, .int 0, .int 0, .int 0, .ref z10, .int 0, .null, .ref a2, .ref z11])), (a1, .inl (y 0, 3, .inl (fun _ => 0))), (a2, .inl (y 0, 10, .inl (fun _ => 0)))] H := hP
    have hD : va_D A [(a0, .inr (13, [.ref a1, .ref z0, .ref z1, .ref z2, .ref z3, .ref z4, .int 45, .ref z5, .ref z6, .ref z7, .int 0, .ref z8, .ref z9, .int 0, .int 0, .int 0, .int 0, .ref z10, .int 0, .null, .ref a2, .ref z11])), (a1, .inl (y 0, 3, .inl (fun _ => 0))), (a2, .inl (y 0, 10, .inl (fun _ => 0)))] := hD
    have hl : lv_has ls 9 [(1, .int 10), (0, .ref a0)] := hl
    refine lv_iload_n hx hb dX11_trades_2 rfl (lv_at hl 0 rfl) ?_
    refine lv_bipush (v := 10) hx hb dX11_trades_3 (by decide) ?_
    refine lv_icmp_ge (tgt := 21) hx hb dX11_trades_5 (by decide) (fun _ => ?_) (fun c => absurd (by decide) c)
    refine lv_iconst (v := 0) hx hb dX11_trades_21 (by decide) ?_
    refine lv_istore_n (lv' := [(1, .int 0), (0, .ref a0)]) hx hb dX11_trades_22 rfl hl (by decide) rfl (fun ls hl => ?_)
    refine lv_aload_n hx hb dX11_trades_23 rfl (lv_at hl 1 rfl) ?_
    refine va_get (D := D) (ci := 13) (v := .ref a1) (C := RX11) (T := TX11) (N := 22) hx hb hts inX11 hown hK hP 0 rfl rfl 0 (by decide) (hts _ wd_115) (fun _ h9 => h9) rfl dX11_trades_24 ?_
    refine lv_iconst (v := 0) hx hb dX11_trades_27 (by decide) ?_
    refine va_iald hx hb hK hP 1 0 rfl rfl (vp_in_nI (n := 0) (by decide) (by decide)) dX11_trades_28 ?_
    refine tp_i (v := 0) rfl ?_
    refine lv_istore_n (lv' := [(2, .int 0), (1, .int 0), (0, .ref a0)]) hx hb dX11_trades_29 rfl hl (by decide) rfl (fun ls hl => ?_)
    refine lv_iconst (v := 1) hx hb dX11_trades_30 (by decide) ?_
    refine lv_istore_n (lv' := [(3, .int 1), (2, .int 0), (1, .int 0), (0, .ref a0)]) hx hb dX11_trades_31 rfl hl (by decide) rfl (fun ls hl => ?_)
    refine lv_iload_n hx hb dX11_trades_32 rfl (lv_at hl 1 rfl) ?_
    refine lv_if_le (tgt := 226) hx hb dX11_trades_33 (by decide) (fun _ => ?_) (fun c => absurd (by decide) c)
    refine lv_iload_n hx hb dX11_trades_226 rfl (lv_at hl 2 rfl) ?_
    exact e_i hF hr (Nat.le_of_ble_eq_true rfl) (Nat.le_of_ble_eq_true rfl) hS (qg_end hS (fun _ => 0) rfl [0, 1, 2] hP rfl (hD.sub [0, 1, 2] rfl rfl)) dX11_trades_227

set_option maxHeartbeats 4000000 in
set_option maxRecDepth 100000 in
theorem c399_X11_trade (l : Launch) (a0 : Nat) (a1 : Nat) (a2 : Nat) (z0 : Nat) (z1 : Nat) (z2 : Nat) (z3 : Nat) (z4 : Nat) (z5 : Nat) (z6 : Nat) (z7 : Nat) (z8 : Nat) (z9 : Nat) (z10 : Nat) (z11 : Nat) : CT l (.code yX11_trade cX11_trade 1 (some .int)) yX11_trade { frames := 1, cells := 0, slots := 0, locals := 28 } [.ref a0] (fun y => [(a0, .inr (13, [.ref a1, .ref z0, .ref z1, .ref z2, .ref z3, .ref z4, .int 45, .ref z5, .ref z6, .ref z7, .int 0, .ref z8, .ref z9, .int 0, .int 0, .int 0, .int 0, .ref z10, .int 0, .null, .ref a2, .ref z11])), (a1, .inl (y 0, 3, .inl (fun _ => 0))), (a2, .inl (y 0, 10, .inl (fun _ => 0)))]) (fun y => [(a0, .inr (13, [.ref a1, .ref z0, .ref z1, .ref z2, .ref z3, .ref z4, .int 45, .ref z5, .ref z6, .ref z7, .int 0, .ref z8, .ref z9, .int 0, .int 0, .int 0, .int 0, .ref z10, .int 0, .null, .ref a2, .ref z11])), (a1, .inl (y 0, 3, .inl (fun _ => 0))), (a2, .inl (y 0, 10, .inl (fun _ => 0)))]) (fun u => some (.int 0)) (fun y u => [(a0, .inr (13, [.ref a1, .ref z0, .ref z1, .ref z2, .ref z3, .ref z4, .int 45, .ref z5, .ref z6, .ref z7, .int 0, .ref z8, .ref z9, .int 0, .int 0, .int 0, .int 0, .ref z10, .int 0, .null, .ref a2, .ref z11])), (a1, .inl (y 0, 3, .inl (fun _ => 0))), (a2, .inl (y 0, 10, .inl (fun _ => 0)))]) := by
  refine mkM (by decide) (Nat.le_of_ble_eq_true rfl) ?_
  intro p e s m args below meth c D y A ls hF hr hAe hP hD hS hl
  have hF : FX p e s m args meth c cX11_trade 1 RX11 "trade" D y A := hF
  obtain ⟨⟨hx, hb, hml, hown, hts⟩, hev, heh, hA, hlk, hnm⟩ := id hF
  have hK := hev.1
  have hP : va_P D vwCl [(a0, .inr (13, [.ref a1, .ref z0, .ref z1, .ref z2, .ref z3, .ref z4, .int 45, .ref z5, .ref z6, .ref z7, .int 0, .ref z8, .ref z9, .int 0, .int 0, .int 0, .int 0, .ref z10, .int 0, .null, .ref a2, .ref z11])), (a1, .inl (y 0, 3, .inl (fun _ => 0))), (a2, .inl (y 0, 10, .inl (fun _ => 0)))] s.heap := hP
  have hD : va_D A [(a0, .inr (13, [.ref a1, .ref z0, .ref z1, .ref z2, .ref z3, .ref z4, .int 45, .ref z5, .ref z6, .ref z7, .int 0, .ref z8, .ref z9, .int 0, .int 0, .int 0, .int 0, .ref z10, .int 0, .null, .ref a2, .ref z11])), (a1, .inl (y 0, 3, .inl (fun _ => 0))), (a2, .inl (y 0, 10, .inl (fun _ => 0)))] := by rw [← hAe]; exact hD.self
  have hl : lv_has ls 1 [(0, .ref a0)] := hl
  refine lv_aload_n hx hb dX11_trade_0 rfl (lv_at hl 0 rfl) ?_
  refine lv_aload_n hx hb dX11_trade_1 rfl (lv_at hl 0 rfl) ?_
  refine va_get (D := D) (ci := 13) (v := .ref a1) (C := RX11) (T := TX11) (N := 22) hx hb hts inX11 hown hK hP 0 rfl rfl 0 (by decide) (hts _ wd_115) (fun _ h9 => h9) rfl dX11_trade_2 ?_
  refine lv_iconst (v := 0) hx hb dX11_trade_5 (by decide) ?_
  refine va_iald hx hb hK hP 1 0 rfl rfl (vp_in_nI (n := 0) (by decide) (by decide)) dX11_trade_6 ?_
  refine tp_i (v := 0) rfl ?_
  refine lv_aload_n hx hb dX11_trade_7 rfl (lv_at hl 0 rfl) ?_
  refine va_get (D := D) (ci := 13) (v := .ref a1) (C := RX11) (T := TX11) (N := 22) hx hb hts inX11 hown hK hP 0 rfl rfl 0 (by decide) (hts _ wd_115) (fun _ h9 => h9) rfl dX11_trade_8 ?_
  refine lv_iconst (v := 1) hx hb dX11_trade_11 (by decide) ?_
  refine va_iald hx hb hK hP 1 0 rfl rfl (vp_in_nI (n := 1) (by decide) (by decide)) dX11_trade_12 ?_
  refine tp_i (v := 0) rfl ?_
  refine lv_icmp_eq (tgt := 20) hx hb dX11_trade_13 (by decide) (fun _ => ?_) (fun c => absurd (by decide) c)
  refine lv_iconst (v := 0) hx hb dX11_trade_20 (by decide) ?_
  refine lv_iconst (v := 0) hx hb dX11_trade_21 (by decide) ?_
  refine lv_iconst (v := 0) hx hb dX11_trade_22 (by decide) ?_
  refine cV (l := l) (yM := yX11_fails) (C := RX11) (As := [.int 0, .int 0, .int 0]) (rest := []) (wr := [(a1, .inl (y 0, 3, .inl (fun _ => 0))), (a2, .inl (y 0, 10, .inl (fun _ => 0)))]) hF (c32_X11_fails l a0 a1 z0 z1 z2 z3 z4 z5 z6 z7 z8 z9 z10 a2 z11) gv_RX11_128 3 (by decide +kernel) rfl ⟨(Nat.le_of_ble_eq_true rfl), (Nat.le_of_ble_eq_true rfl)⟩ hl.1 rfl (Nat.le_of_ble_eq_true rfl) dX11_trade_23 ⟨(Nat.le_of_ble_eq_true rfl), (Nat.le_of_ble_eq_true rfl)⟩ hP hD hS (va_free (wc := [(a0, .inr (13, [.ref a1, .ref z0, .ref z1, .ref z2, .ref z3, .ref z4, .int 45, .ref z5, .ref z6, .ref z7, .int 0, .ref z8, .ref z9, .int 0, .int 0, .int 0, .int 0, .ref z10, .int 0, .null, .ref a2, .ref z11]))]) hD hS hA [0] rfl) (fun _ h => h) [0] [0] [1, 2] rfl rfl rfl rfl rfl (by decide) 0 (ci := 13) rfl rfl rfl (fun u_1 H locs hP hD hS => ?_)
  have hP : va_P D vwCl [(a1, .inl (y 0, 3, .inl (fun _ => 0))), (a2, .inl (y 0, 10, .inl (fun _ => 0))), (a0, .inr (13, [.ref a1, .ref z0, .ref z1, .ref z2, .ref z3, .ref z4, .int 45, .ref z5, .ref z6, .ref z7, .int 0, .ref z8, .ref z9, .int 0, .int 0, .int 0, .int 0, .ref z10, .int 0, .null, .ref a2, .ref z11]))] H := hP
  have hD : va_D A [(a1, .inl (y 0, 3, .inl (fun _ => 0))), (a2, .inl (y 0, 10, .inl (fun _ => 0))), (a0, .inr (13, [.ref a1, .ref z0, .ref z1, .ref z2, .ref z3, .ref z4, .int 45, .ref z5, .ref z6, .ref z7, .int 0, .ref z8, .ref z9, .int 0, .int 0, .int 0, .int 0, .ref z10, .int 0, .null, .ref a2, .ref z11]))] := hD
  refine W.widen (k := 0) (n := 0) (Nat.le_of_ble_eq_true rfl) (Nat.le_of_ble_eq_true rfl) ?_
  refine W.eq (g2 := F0 m 26 ls [.int 0]) rfl ?_
  refine lv_if_eq (tgt := 33) hx hb dX11_trade_26 (by decide) (fun _ => ?_) (fun c => absurd (by decide) c)
  refine lv_aload_n hx hb dX11_trade_33 rfl (lv_at hl 0 rfl) ?_
  refine cV (l := l) (yM := yX11_trades) (C := RX11) (As := []) (rest := []) (wr := []) hF (c399_X11_trades l a0 a1 a2 z0 z1 z2 z3 z4 z5 z6 z7 z8 z9 z10 z11) gv_RX11_266 0 (by decide +kernel) rfl ⟨(Nat.le_of_ble_eq_true rfl), (Nat.le_of_ble_eq_true rfl)⟩ hl.1 rfl (Nat.le_of_ble_eq_true rfl) dX11_trade_34 ⟨(Nat.le_of_ble_eq_true rfl), (Nat.le_of_ble_eq_true rfl)⟩ hP hD hS (va_free (wc := [(a0, .inr (13, [.ref a1, .ref z0, .ref z1, .ref z2, .ref z3, .ref z4, .int 45, .ref z5, .ref z6, .ref z7, .int 0, .ref z8, .ref z9, .int 0, .int 0, .int 0, .int 0, .ref z10, .int 0, .null, .ref a2, .ref z11])), (a1, .inl (y 0, 3, .inl (fun _ => 0))), (a2, .inl (y 0, 10, .inl (fun _ => 0)))]) hD hS hA [2, 0, 1] rfl) (fun _ h => h) [2, 0, 1] [2, 0, 1] [] rfl rfl rfl rfl rfl (by decide) 2 (ci := 13) rfl rfl rfl (fun u_2 H locs hP hD hS => ?_)
  have hP : va_P D vwCl [(a0, .inr (13, [.ref a1, .ref z0, .ref z1, .ref z2, .ref z3, .ref z4, .int 45, .ref z5, .ref z6, .ref z7, .int 0, .ref z8, .ref z9, .int 0, .int 0, .int 0, .int 0, .ref z10, .int 0, .null, .ref a2, .ref z11])), (a1, .inl (y 0, 3, .inl (fun _ => 0))), (a2, .inl (y 0, 10, .inl (fun _ => 0)))] H := hP
  have hD : va_D A [(a0, .inr (13, [.ref a1, .ref z0, .ref z1, .ref z2, .ref z3, .ref z4, .int 45, .ref z5, .ref z6, .ref z7, .int 0, .ref z8, .ref z9, .int 0, .int 0, .int 0, .int 0, .ref z10, .int 0, .null, .ref a2, .ref z11])), (a1, .inl (y 0, 3, .inl (fun _ => 0))), (a2, .inl (y 0, 10, .inl (fun _ => 0)))] := hD
  refine W.widen (k := 0) (n := 0) (Nat.le_of_ble_eq_true rfl) (Nat.le_of_ble_eq_true rfl) ?_
  refine W.eq (g2 := F0 m 37 ls [.int 0]) rfl ?_
  exact e_i hF hr (Nat.le_of_ble_eq_true rfl) (Nat.le_of_ble_eq_true rfl) hS (qg_end hS (fun _ => 0) rfl [0, 1, 2] hP rfl (hD.sub [0, 1, 2] rfl rfl)) dX11_trade_37

set_option maxHeartbeats 4000000 in
set_option maxRecDepth 100000 in
theorem c401_X10_tradeOf (l : Launch) (hlt : l.stackTraces = false) (a0 : Nat) (a1 : Nat) (a2 : Nat) (z0 : Nat) (z1 : Nat) (z2 : Nat) (z3 : Nat) (z4 : Nat) (z5 : Nat) (z6 : Nat) (z7 : Nat) (z8 : Nat) (z9 : Nat) (z10 : Nat) (z11 : Nat) (z12 : Nat) (z13 : Nat) (z14 : Nat) (z15 : Nat) (z16 : Nat) (z17 : Nat) (z18 : Nat) (p0 : Int32) : CX l (.code yX10_tradeOf cX10_tradeOf 2 (some .int)) yX10_tradeOf { frames := 7, cells := 1, slots := 6, locals := 111 } [.ref a0, .int p0] (fun y => [(a0, .inr (12, [.ref a1, .ref z0, .ref z1, .ref z2, .ref z3, .ref z4, .ref z5, .ref z6, .ref z7, .ref z8, .ref z9, .ref z10, .ref z11, .ref z12, .ref z13])), (a1, .inr (5, [.ref a2, .ref z14, .ref z15])), (a2, .inr (4, [.int 0, .ref z16, .ref z17, .ref z18]))]) (fun _ => []) "java/util/NoSuchElementException" := by
  refine mkX (by decide) (Nat.le_of_ble_eq_true rfl) ?_
  intro p e s m args below meth c D y A ls hF htb hAe hP hD hS hl
  have hF : FX p e s m args meth c cX10_tradeOf 2 RX10 "tradeOf" D y A := hF
  obtain ⟨⟨hx, hb, hml, hown, hts⟩, hev, heh, hA, hlk, hnm⟩ := id hF
  have hK := hev.1
  have hP : va_P D vwCl [(a0, .inr (12, [.ref a1, .ref z0, .ref z1, .ref z2, .ref z3, .ref z4, .ref z5, .ref z6, .ref z7, .ref z8, .ref z9, .ref z10, .ref z11, .ref z12, .ref z13])), (a1, .inr (5, [.ref a2, .ref z14, .ref z15])), (a2, .inr (4, [.int 0, .ref z16, .ref z17, .ref z18]))] s.heap := hP
  have hD : va_D (fun _ => True) [(a0, .inr (12, [.ref a1, .ref z0, .ref z1, .ref z2, .ref z3, .ref z4, .ref z5, .ref z6, .ref z7, .ref z8, .ref z9, .ref z10, .ref z11, .ref z12, .ref z13])), (a1, .inr (5, [.ref a2, .ref z14, .ref z15])), (a2, .inr (4, [.int 0, .ref z16, .ref z17, .ref z18]))] := hD
  have hl : lv_has ls 2 [(0, .ref a0), (1, .int p0)] := hl
  refine lv_aload_n hx hb dX10_tradeOf_0 rfl (lv_at hl 0 rfl) ?_
  refine lv_iload_n hx hb dX10_tradeOf_1 rfl (lv_at hl 1 rfl) ?_
  exact xV (l := l) (yM := yX10_needPerson) (C := RX10) (As := [.int p0]) (rest := []) hF htb (c249_X10_needPerson l hlt a0 a1 a2 z0 z1 z2 z3 z4 z5 z6 z7 z8 z9 z10 z11 z12 z13 z14 z15 z16 z17 z18 p0) gv_RX10_254 1 (by decide +kernel) rfl ⟨(Nat.le_of_ble_eq_true rfl), (Nat.le_of_ble_eq_true rfl)⟩ hl.1 rfl (Nat.le_of_ble_eq_true rfl) dX10_tradeOf_2 ⟨(Nat.le_of_ble_eq_true rfl), (Nat.le_of_ble_eq_true rfl)⟩ hP hD hS (pA hA hS) [0, 1, 2] rfl rfl 0 (ci := 12) rfl rfl rfl ⟨(Nat.le_of_ble_eq_true rfl), (Nat.le_of_ble_eq_true rfl)⟩

set_option maxHeartbeats 4000000 in
set_option maxRecDepth 100000 in
theorem c401_L_tradeOf (l : Launch) (hlt : l.stackTraces = false) (a0 : Nat) (a1 : Nat) (a2 : Nat) (z0 : Nat) (z1 : Nat) (z2 : Nat) (z3 : Nat) (z4 : Nat) (z5 : Nat) (z6 : Nat) (z7 : Nat) (z8 : Nat) (z9 : Nat) (z10 : Nat) (z11 : Nat) (z12 : Nat) (z13 : Nat) (z14 : Nat) (z15 : Nat) (z16 : Nat) (z17 : Nat) (z18 : Nat) (p0 : Int32) (z19 : Nat) : CT l (.codeWith yL_tradeOf cL_tradeOf 4 (some .int) [(0, 9, 12, 24), (0, 9, 15, 61)]) yL_tradeOf { frames := 8, cells := 1, slots := 6, locals := 132 } [.ref a0, .int p0, .ref z19] (fun y => [(a0, .inr (12, [.ref a1, .ref z0, .ref z1, .ref z2, .ref z3, .ref z4, .ref z5, .ref z6, .ref z7, .ref z8, .ref z9, .ref z10, .ref z11, .ref z12, .ref z13])), (a1, .inr (5, [.ref a2, .ref z14, .ref z15])), (a2, .inr (4, [.int 0, .ref z16, .ref z17, .ref z18]))]) (fun _ => []) (fun u => some (.int 1)) (fun y u => []) := by
  refine mkH (by decide) (Nat.le_of_ble_eq_true rfl) ?_
  intro p e s m args below meth c D y A ls hF htab hr hAe hP hD hS hl
  have hF : FX p e s m args meth c cL_tradeOf 4 RL "tradeOf" D y A := hF
  obtain ⟨⟨hx, hb, hml, hown, hts⟩, hev, heh, hA, hlk, hnm⟩ := id hF
  have hK := hev.1
  have hP : va_P D vwCl [(a0, .inr (12, [.ref a1, .ref z0, .ref z1, .ref z2, .ref z3, .ref z4, .ref z5, .ref z6, .ref z7, .ref z8, .ref z9, .ref z10, .ref z11, .ref z12, .ref z13])), (a1, .inr (5, [.ref a2, .ref z14, .ref z15])), (a2, .inr (4, [.int 0, .ref z16, .ref z17, .ref z18]))] s.heap := hP
  have hD : va_D (fun _ => True) [(a0, .inr (12, [.ref a1, .ref z0, .ref z1, .ref z2, .ref z3, .ref z4, .ref z5, .ref z6, .ref z7, .ref z8, .ref z9, .ref z10, .ref z11, .ref z12, .ref z13])), (a1, .inr (5, [.ref a2, .ref z14, .ref z15])), (a2, .inr (4, [.int 0, .ref z16, .ref z17, .ref z18]))] := hD
  have hl : lv_has ls 4 [(0, .ref a0), (1, .int p0), (2, .ref z19)] := hl
  refine lv_aload_n hx hb dL_tradeOf_0 rfl (lv_at hl 2 rfl) ?_
  refine lv_iconst (v := 0) hx hb dL_tradeOf_1 (by decide) ?_
  refine lv_aload_n hx hb dL_tradeOf_2 rfl (lv_at hl 0 rfl) ?_
  refine lv_iload_n hx hb dL_tradeOf_3 rfl (lv_at hl 1 rfl) ?_
  refine hV (wr := [(a0, .inr (12, [.ref a1, .ref z0, .ref z1, .ref z2, .ref z3, .ref z4, .ref z5, .ref z6, .ref z7, .ref z8, .ref z9, .ref z10, .ref z11, .ref z12, .ref z13])), (a1, .inr (5, [.ref a2, .ref z14, .ref z15])), (a2, .inr (4, [.int 0, .ref z16, .ref z17, .ref z18]))]) (name := "java/util/NoSuchElementException") (E0 := "java/util/NoSuchElementException") (l := l) (yM := yX10_tradeOf) (C := RX10) (As := [.int p0]) (rest := [.int 0, .ref z19]) hF (c401_X10_tradeOf l hlt a0 a1 a2 z0 z1 z2 z3 z4 z5 z6 z7 z8 z9 z10 z11 z12 z13 z14 z15 z16 z17 z18 p0) gv_RL_146 1 (by decide +kernel) rfl ⟨(Nat.le_of_ble_eq_true rfl), (Nat.le_of_ble_eq_true rfl)⟩ hl.1 rfl (Nat.le_of_ble_eq_true rfl) dL_tradeOf_4 ⟨(Nat.le_of_ble_eq_true rfl), (Nat.le_of_ble_eq_true rfl)⟩ hP hD hS (pA hA hS) (fun _ _ => trivial) [0, 1, 2] [] [0, 1, 2] rfl rfl rfl rfl rfl (by decide) 0 (ci := 12) rfl rfl rfl [] ⟨0, 9, 12, 24⟩ [⟨0, 9, 15, 61⟩] htab (fun z hz => nomatch hz) (by decide) (by decide) wd_261 (by decide) (fun q9 H locs hP hD hS => ?_)
  have hP : va_P D vwCl [(a0, .inr (12, [.ref a1, .ref z0, .ref z1, .ref z2, .ref z3, .ref z4, .ref z5, .ref z6, .ref z7, .ref z8, .ref z9, .ref z10, .ref z11, .ref z12, .ref z13])), (a1, .inr (5, [.ref a2, .ref z14, .ref z15])), (a2, .inr (4, [.int 0, .ref z16, .ref z17, .ref z18]))] H := hP
  have hD : va_D (fun _ => True) [(a0, .inr (12, [.ref a1, .ref z0, .ref z1, .ref z2, .ref z3, .ref z4, .ref z5, .ref z6, .ref z7, .ref z8, .ref z9, .ref z10, .ref z11, .ref z12, .ref z13])), (a1, .inr (5, [.ref a2, .ref z14, .ref z15])), (a2, .inr (4, [.int 0, .ref z16, .ref z17, .ref z18]))] := hD
  refine W.widen (k := 1) (n := 6) (Nat.le_of_ble_eq_true rfl) (Nat.le_of_ble_eq_true rfl) ?_
  refine W.eq (g2 := F0 m 12 ls [.ref q9]) rfl ?_
  refine lv_astore_n (lv' := [(3, .ref q9), (0, .ref a0), (1, .int p0), (2, .ref z19)]) hx hb dL_tradeOf_12 rfl hl (by decide) rfl (fun ls hl => ?_)
  refine lv_iconst (v := 1) hx hb dL_tradeOf_13 (by decide) ?_
  exact e_i hF hr (Nat.le_of_ble_eq_true rfl) (Nat.le_of_ble_eq_true rfl) hS (qg_end hS (fun _ => 0) rfl [] hP rfl d_nil) dL_tradeOf_14

set_option maxHeartbeats 4000000 in
set_option maxRecDepth 100000 in
theorem c403_X11_tradeOf (l : Launch) (a0 : Nat) (a1 : Nat) (z0 : Nat) (z1 : Nat) (z2 : Nat) (z3 : Nat) (z4 : Nat) (z5 : Nat) (z6 : Nat) (z7 : Nat) (z8 : Nat) (z9 : Nat) (z10 : Nat) (z11 : Nat) (z12 : Nat) (p0 : Int32) : CT l (.code yX11_tradeOf cX11_tradeOf 3 (some .int)) yX11_tradeOf { frames := 2, cells := 0, slots := 0, locals := 43 } [.ref a0, .int p0] (fun y => [(a0, .inr (13, [.ref a1, .ref z0, .ref z1, .ref z2, .ref z3, .ref z4, .int 45, .ref z5, .ref z6, .ref z7, .int 0, .ref z8, .ref z9, .int 0, .int 0, .int 0, .int 0, .ref z10, .int 0, .null, .ref z11, .ref z12])), (a1, .inl (y 0, 3, .inl (fun _ => 0)))]) (fun y => [(a0, .inr (13, [.ref a1, .ref z0, .ref z1, .ref z2, .ref z3, .ref z4, .int 45, .ref z5, .ref z6, .ref z7, .int 0, .ref z8, .ref z9, .int 0, .int 0, .int 0, .int 0, .ref z10, .int 0, .null, .ref z11, .ref z12])), (a1, .inl (y 0, 3, .inl (fun _ => 0)))]) (fun u => some (.int 0)) (fun y u => [(a0, .inr (13, [.ref a1, .ref z0, .ref z1, .ref z2, .ref z3, .ref z4, .int 45, .ref z5, .ref z6, .ref z7, .int 0, .ref z8, .ref z9, .int 0, .int 0, .int 1, .int 0, .ref z10, .int 0, .null, .ref z11, .ref z12])), (a1, .inl (y 0, 3, .inl (fun _ => 0)))]) := by
  refine mkM (by decide) (Nat.le_of_ble_eq_true rfl) ?_
  intro p e s m args below meth c D y A ls hF hr hAe hP hD hS hl
  have hF : FX p e s m args meth c cX11_tradeOf 3 RX11 "tradeOf" D y A := hF
  obtain ⟨⟨hx, hb, hml, hown, hts⟩, hev, heh, hA, hlk, hnm⟩ := id hF
  have hK := hev.1
  have hP : va_P D vwCl [(a0, .inr (13, [.ref a1, .ref z0, .ref z1, .ref z2, .ref z3, .ref z4, .int 45, .ref z5, .ref z6, .ref z7, .int 0, .ref z8, .ref z9, .int 0, .int 0, .int 0, .int 0, .ref z10, .int 0, .null, .ref z11, .ref z12])), (a1, .inl (y 0, 3, .inl (fun _ => 0)))] s.heap := hP
  have hD : va_D A [(a0, .inr (13, [.ref a1, .ref z0, .ref z1, .ref z2, .ref z3, .ref z4, .int 45, .ref z5, .ref z6, .ref z7, .int 0, .ref z8, .ref z9, .int 0, .int 0, .int 0, .int 0, .ref z10, .int 0, .null, .ref z11, .ref z12])), (a1, .inl (y 0, 3, .inl (fun _ => 0)))] := by rw [← hAe]; exact hD.self
  have hl : lv_has ls 3 [(0, .ref a0), (1, .int p0)] := hl
  refine lv_aload_n hx hb dX11_tradeOf_0 rfl (lv_at hl 0 rfl) ?_
  refine lv_aload_n hx hb dX11_tradeOf_1 rfl (lv_at hl 0 rfl) ?_
  refine lv_iload_n hx hb dX11_tradeOf_2 rfl (lv_at hl 1 rfl) ?_
  refine cV (l := l) (yM := yX11_isPerson) (C := RX11) (As := [.int p0]) (rest := [.ref a0]) (wr := [(a0, .inr (13, [.ref a1, .ref z0, .ref z1, .ref z2, .ref z3, .ref z4, .int 45, .ref z5, .ref z6, .ref z7, .int 0, .ref z8, .ref z9, .int 0, .int 0, .int 0, .int 0, .ref z10, .int 0, .null, .ref z11, .ref z12])), (a1, .inl (y 0, 3, .inl (fun _ => 0)))]) hF (c252_X11_isPerson l a0 a1 z0 z1 z2 z3 z4 z5 z6 z7 z8 z9 z10 z11 z12 p0) gv_RX11_176 1 (by decide +kernel) rfl ⟨(Nat.le_of_ble_eq_true rfl), (Nat.le_of_ble_eq_true rfl)⟩ hl.1 rfl (Nat.le_of_ble_eq_true rfl) dX11_tradeOf_3 ⟨(Nat.le_of_ble_eq_true rfl), (Nat.le_of_ble_eq_true rfl)⟩ hP hD hS (pA hA hS) (fun _ h => h) [0, 1] [] [0, 1] rfl rfl rfl rfl rfl (by decide) 0 (ci := 13) rfl rfl rfl (fun u_1 H locs hP hD hS => ?_)
  have hP : va_P D vwCl [(a0, .inr (13, [.ref a1, .ref z0, .ref z1, .ref z2, .ref z3, .ref z4, .int 45, .ref z5, .ref z6, .ref z7, .int 0, .ref z8, .ref z9, .int 0, .int 0, .int 0, .int 0, .ref z10, .int 0, .null, .ref z11, .ref z12])), (a1, .inl (y 0, 3, .inl (fun _ => 0)))] H := hP
  have hD : va_D A [(a0, .inr (13, [.ref a1, .ref z0, .ref z1, .ref z2, .ref z3, .ref z4, .int 45, .ref z5, .ref z6, .ref z7, .int 0, .ref z8, .ref z9, .int 0, .int 0, .int 0, .int 0, .ref z10, .int 0, .null, .ref z11, .ref z12])), (a1, .inl (y 0, 3, .inl (fun _ => 0)))] := hD
  refine W.widen (k := 0) (n := 0) (Nat.le_of_ble_eq_true rfl) (Nat.le_of_ble_eq_true rfl) ?_
  refine W.eq (g2 := F0 m 6 ls [.int 0, .ref a0]) rfl ?_
  refine lv_if_ne (tgt := 13) hx hb dX11_tradeOf_6 (by decide) (fun c => absurd (by decide) c) (fun _ => ?_)
  refine lv_iconst (v := 1) hx hb dX11_tradeOf_9 (by decide) ?_
  refine lv_goto (tgt := 14) hx hb dX11_tradeOf_10 (by decide) ?_
  refine lv_aload_n hx hb dX11_tradeOf_14 rfl (lv_at hl 0 rfl) ?_
  refine va_get (D := D) (ci := 13) (v := .ref a1) (C := RX11) (T := TX11) (N := 22) hx hb hts inX11 hown hK hP 0 rfl rfl 0 (by decide) (hts _ wd_115) (fun _ h9 => h9) rfl dX11_tradeOf_15 ?_
  refine lv_iconst (v := 0) hx hb dX11_tradeOf_18 (by decide) ?_
  refine va_iald hx hb hK hP 1 0 rfl rfl (vp_in_nI (n := 0) (by decide) (by decide)) dX11_tradeOf_19 ?_
  refine tp_i (v := 0) rfl ?_
  refine lv_aload_n hx hb dX11_tradeOf_20 rfl (lv_at hl 0 rfl) ?_
  refine va_get (D := D) (ci := 13) (v := .ref a1) (C := RX11) (T := TX11) (N := 22) hx hb hts inX11 hown hK hP 0 rfl rfl 0 (by decide) (hts _ wd_115) (fun _ h9 => h9) rfl dX11_tradeOf_21 ?_
  refine lv_iconst (v := 1) hx hb dX11_tradeOf_24 (by decide) ?_
  refine va_iald hx hb hK hP 1 0 rfl rfl (vp_in_nI (n := 1) (by decide) (by decide)) dX11_tradeOf_25 ?_
  refine tp_i (v := 0) rfl ?_
  refine lv_icmp_eq (tgt := 33) hx hb dX11_tradeOf_26 (by decide) (fun _ => ?_) (fun c => absurd (by decide) c)
  refine lv_iconst (v := 0) hx hb dX11_tradeOf_33 (by decide) ?_
  refine lv_iconst (v := 0) hx hb dX11_tradeOf_34 (by decide) ?_
  refine cV (l := l) (yM := yX11_fails) (C := RX11) (As := [.int 1, .int 0, .int 0]) (rest := []) (wr := [(a1, .inl (y 0, 3, .inl (fun _ => 0)))]) hF (c67_X11_fails l a0 a1 z0 z1 z2 z3 z4 z5 z6 z7 z8 z9 z10 z11 z12) gv_RX11_128 3 (by decide +kernel) rfl ⟨(Nat.le_of_ble_eq_true rfl), (Nat.le_of_ble_eq_true rfl)⟩ hl.1 rfl (Nat.le_of_ble_eq_true rfl) dX11_tradeOf_35 ⟨(Nat.le_of_ble_eq_true rfl), (Nat.le_of_ble_eq_true rfl)⟩ hP hD hS (va_free (wc := [(a0, .inr (13, [.ref a1, .ref z0, .ref z1, .ref z2, .ref z3, .ref z4, .int 45, .ref z5, .ref z6, .ref z7, .int 0, .ref z8, .ref z9, .int 0, .int 0, .int 0, .int 0, .ref z10, .int 0, .null, .ref z11, .ref z12]))]) hD hS hA [0] rfl) (fun _ h => h) [0] [0] [1] rfl rfl rfl rfl rfl (by decide) 0 (ci := 13) rfl rfl rfl (fun u_2 H locs hP hD hS => ?_)
  have hP : va_P D vwCl [(a1, .inl (y 0, 3, .inl (fun _ => 0))), (a0, .inr (13, [.ref a1, .ref z0, .ref z1, .ref z2, .ref z3, .ref z4, .int 45, .ref z5, .ref z6, .ref z7, .int 0, .ref z8, .ref z9, .int 0, .int 0, .int 1, .int 0, .ref z10, .int 0, .null, .ref z11, .ref z12]))] H := hP
  have hD : va_D A [(a1, .inl (y 0, 3, .inl (fun _ => 0))), (a0, .inr (13, [.ref a1, .ref z0, .ref z1, .ref z2, .ref z3, .ref z4, .int 45, .ref z5, .ref z6, .ref z7, .int 0, .ref z8, .ref z9, .int 0, .int 0, .int 1, .int 0, .ref z10, .int 0, .null, .ref z11, .ref z12]))] := hD
  refine W.widen (k := 0) (n := 0) (Nat.le_of_ble_eq_true rfl) (Nat.le_of_ble_eq_true rfl) ?_
  refine W.eq (g2 := F0 m 38 ls [.int 1]) rfl ?_
  refine lv_if_eq (tgt := 43) hx hb dX11_tradeOf_38 (by decide) (fun c => absurd c (by decide)) (fun _ => ?_)
  refine lv_iconst (v := 0) hx hb dX11_tradeOf_41 (by decide) ?_
  exact e_i hF hr (Nat.le_of_ble_eq_true rfl) (Nat.le_of_ble_eq_true rfl) hS (qg_end hS (fun _ => 0) rfl [1, 0] hP rfl (hD.sub [1, 0] rfl rfl)) dX11_tradeOf_42

set_option maxHeartbeats 4000000 in
set_option maxRecDepth 100000 in
theorem c404_X10_tradeRound (l : Launch) (hlt : l.stackTraces = false) (a0 : Nat) (a1 : Nat) (a2 : Nat) (z0 : Nat) (z1 : Nat) (z2 : Nat) (z3 : Nat) (z4 : Nat) (z5 : Nat) (z6 : Nat) (z7 : Nat) (z8 : Nat) (z9 : Nat) (z10 : Nat) (z11 : Nat) (z12 : Nat) (z13 : Nat) (z14 : Nat) (z15 : Nat) (z16 : Nat) (z17 : Nat) (z18 : Nat) (p0 : Int32) : CX l (.code yX10_tradeRound cX10_tradeRound 2 (some .int)) yX10_tradeRound { frames := 7, cells := 1, slots := 6, locals := 111 } [.ref a0, .int p0] (fun y => [(a0, .inr (12, [.ref a1, .ref z0, .ref z1, .ref z2, .ref z3, .ref z4, .ref z5, .ref z6, .ref z7, .ref z8, .ref z9, .ref z10, .ref z11, .ref z12, .ref z13])), (a1, .inr (5, [.ref a2, .ref z14, .ref z15])), (a2, .inr (4, [.int 0, .ref z16, .ref z17, .ref z18]))]) (fun _ => []) "java/util/NoSuchElementException" := by
  refine mkX (by decide) (Nat.le_of_ble_eq_true rfl) ?_
  intro p e s m args below meth c D y A ls hF htb hAe hP hD hS hl
  have hF : FX p e s m args meth c cX10_tradeRound 2 RX10 "tradeRound" D y A := hF
  obtain ⟨⟨hx, hb, hml, hown, hts⟩, hev, heh, hA, hlk, hnm⟩ := id hF
  have hK := hev.1
  have hP : va_P D vwCl [(a0, .inr (12, [.ref a1, .ref z0, .ref z1, .ref z2, .ref z3, .ref z4, .ref z5, .ref z6, .ref z7, .ref z8, .ref z9, .ref z10, .ref z11, .ref z12, .ref z13])), (a1, .inr (5, [.ref a2, .ref z14, .ref z15])), (a2, .inr (4, [.int 0, .ref z16, .ref z17, .ref z18]))] s.heap := hP
  have hD : va_D (fun _ => True) [(a0, .inr (12, [.ref a1, .ref z0, .ref z1, .ref z2, .ref z3, .ref z4, .ref z5, .ref z6, .ref z7, .ref z8, .ref z9, .ref z10, .ref z11, .ref z12, .ref z13])), (a1, .inr (5, [.ref a2, .ref z14, .ref z15])), (a2, .inr (4, [.int 0, .ref z16, .ref z17, .ref z18]))] := hD
  have hl : lv_has ls 2 [(0, .ref a0), (1, .int p0)] := hl
  refine lv_aload_n hx hb dX10_tradeRound_0 rfl (lv_at hl 0 rfl) ?_
  refine lv_iload_n hx hb dX10_tradeRound_1 rfl (lv_at hl 1 rfl) ?_
  exact xV (l := l) (yM := yX10_needPerson) (C := RX10) (As := [.int p0]) (rest := []) hF htb (c249_X10_needPerson l hlt a0 a1 a2 z0 z1 z2 z3 z4 z5 z6 z7 z8 z9 z10 z11 z12 z13 z14 z15 z16 z17 z18 p0) gv_RX10_254 1 (by decide +kernel) rfl ⟨(Nat.le_of_ble_eq_true rfl), (Nat.le_of_ble_eq_true rfl)⟩ hl.1 rfl (Nat.le_of_ble_eq_true rfl) dX10_tradeRound_2 ⟨(Nat.le_of_ble_eq_true rfl), (Nat.le_of_ble_eq_true rfl)⟩ hP hD hS (pA hA hS) [0, 1, 2] rfl rfl 0 (ci := 12) rfl rfl rfl ⟨(Nat.le_of_ble_eq_true rfl), (Nat.le_of_ble_eq_true rfl)⟩

set_option maxHeartbeats 4000000 in
set_option maxRecDepth 100000 in
theorem c404_L_tradeRound (l : Launch) (hlt : l.stackTraces = false) (a0 : Nat) (a1 : Nat) (a2 : Nat) (z0 : Nat) (z1 : Nat) (z2 : Nat) (z3 : Nat) (z4 : Nat) (z5 : Nat) (z6 : Nat) (z7 : Nat) (z8 : Nat) (z9 : Nat) (z10 : Nat) (z11 : Nat) (z12 : Nat) (z13 : Nat) (z14 : Nat) (z15 : Nat) (z16 : Nat) (z17 : Nat) (z18 : Nat) (p0 : Int32) (z19 : Nat) : CT l (.codeWith yL_tradeRound cL_tradeRound 4 (some .int) [(0, 9, 12, 24), (0, 9, 15, 61)]) yL_tradeRound { frames := 8, cells := 1, slots := 6, locals := 132 } [.ref a0, .int p0, .ref z19] (fun y => [(a0, .inr (12, [.ref a1, .ref z0, .ref z1, .ref z2, .ref z3, .ref z4, .ref z5, .ref z6, .ref z7, .ref z8, .ref z9, .ref z10, .ref z11, .ref z12, .ref z13])), (a1, .inr (5, [.ref a2, .ref z14, .ref z15])), (a2, .inr (4, [.int 0, .ref z16, .ref z17, .ref z18]))]) (fun _ => []) (fun u => some (.int 1)) (fun y u => []) := by
  refine mkH (by decide) (Nat.le_of_ble_eq_true rfl) ?_
  intro p e s m args below meth c D y A ls hF htab hr hAe hP hD hS hl
  have hF : FX p e s m args meth c cL_tradeRound 4 RL "tradeRound" D y A := hF
  obtain ⟨⟨hx, hb, hml, hown, hts⟩, hev, heh, hA, hlk, hnm⟩ := id hF
  have hK := hev.1
  have hP : va_P D vwCl [(a0, .inr (12, [.ref a1, .ref z0, .ref z1, .ref z2, .ref z3, .ref z4, .ref z5, .ref z6, .ref z7, .ref z8, .ref z9, .ref z10, .ref z11, .ref z12, .ref z13])), (a1, .inr (5, [.ref a2, .ref z14, .ref z15])), (a2, .inr (4, [.int 0, .ref z16, .ref z17, .ref z18]))] s.heap := hP
  have hD : va_D (fun _ => True) [(a0, .inr (12, [.ref a1, .ref z0, .ref z1, .ref z2, .ref z3, .ref z4, .ref z5, .ref z6, .ref z7, .ref z8, .ref z9, .ref z10, .ref z11, .ref z12, .ref z13])), (a1, .inr (5, [.ref a2, .ref z14, .ref z15])), (a2, .inr (4, [.int 0, .ref z16, .ref z17, .ref z18]))] := hD
  have hl : lv_has ls 4 [(0, .ref a0), (1, .int p0), (2, .ref z19)] := hl
  refine lv_aload_n hx hb dL_tradeRound_0 rfl (lv_at hl 2 rfl) ?_
  refine lv_iconst (v := 0) hx hb dL_tradeRound_1 (by decide) ?_
  refine lv_aload_n hx hb dL_tradeRound_2 rfl (lv_at hl 0 rfl) ?_
  refine lv_iload_n hx hb dL_tradeRound_3 rfl (lv_at hl 1 rfl) ?_
  refine hV (wr := [(a0, .inr (12, [.ref a1, .ref z0, .ref z1, .ref z2, .ref z3, .ref z4, .ref z5, .ref z6, .ref z7, .ref z8, .ref z9, .ref z10, .ref z11, .ref z12, .ref z13])), (a1, .inr (5, [.ref a2, .ref z14, .ref z15])), (a2, .inr (4, [.int 0, .ref z16, .ref z17, .ref z18]))]) (name := "java/util/NoSuchElementException") (E0 := "java/util/NoSuchElementException") (l := l) (yM := yX10_tradeRound) (C := RX10) (As := [.int p0]) (rest := [.int 0, .ref z19]) hF (c404_X10_tradeRound l hlt a0 a1 a2 z0 z1 z2 z3 z4 z5 z6 z7 z8 z9 z10 z11 z12 z13 z14 z15 z16 z17 z18 p0) gv_RL_149 1 (by decide +kernel) rfl ⟨(Nat.le_of_ble_eq_true rfl), (Nat.le_of_ble_eq_true rfl)⟩ hl.1 rfl (Nat.le_of_ble_eq_true rfl) dL_tradeRound_4 ⟨(Nat.le_of_ble_eq_true rfl), (Nat.le_of_ble_eq_true rfl)⟩ hP hD hS (pA hA hS) (fun _ _ => trivial) [0, 1, 2] [] [0, 1, 2] rfl rfl rfl rfl rfl (by decide) 0 (ci := 12) rfl rfl rfl [] ⟨0, 9, 12, 24⟩ [⟨0, 9, 15, 61⟩] htab (fun z hz => nomatch hz) (by decide) (by decide) wd_261 (by decide) (fun q9 H locs hP hD hS => ?_)
  have hP : va_P D vwCl [(a0, .inr (12, [.ref a1, .ref z0, .ref z1, .ref z2, .ref z3, .ref z4, .ref z5, .ref z6, .ref z7, .ref z8, .ref z9, .ref z10, .ref z11, .ref z12, .ref z13])), (a1, .inr (5, [.ref a2, .ref z14, .ref z15])), (a2, .inr (4, [.int 0, .ref z16, .ref z17, .ref z18]))] H := hP
  have hD : va_D (fun _ => True) [(a0, .inr (12, [.ref a1, .ref z0, .ref z1, .ref z2, .ref z3, .ref z4, .ref z5, .ref z6, .ref z7, .ref z8, .ref z9, .ref z10, .ref z11, .ref z12, .ref z13])), (a1, .inr (5, [.ref a2, .ref z14, .ref z15])), (a2, .inr (4, [.int 0, .ref z16, .ref z17, .ref z18]))] := hD
  refine W.widen (k := 1) (n := 6) (Nat.le_of_ble_eq_true rfl) (Nat.le_of_ble_eq_true rfl) ?_
  refine W.eq (g2 := F0 m 12 ls [.ref q9]) rfl ?_
  refine lv_astore_n (lv' := [(3, .ref q9), (0, .ref a0), (1, .int p0), (2, .ref z19)]) hx hb dL_tradeRound_12 rfl hl (by decide) rfl (fun ls hl => ?_)
  refine lv_iconst (v := 1) hx hb dL_tradeRound_13 (by decide) ?_
  exact e_i hF hr (Nat.le_of_ble_eq_true rfl) (Nat.le_of_ble_eq_true rfl) hS (qg_end hS (fun _ => 0) rfl [] hP rfl d_nil) dL_tradeRound_14

set_option maxHeartbeats 4000000 in
set_option maxRecDepth 100000 in
theorem c406_X11_tradeRound (l : Launch) (a0 : Nat) (a1 : Nat) (z0 : Nat) (z1 : Nat) (z2 : Nat) (z3 : Nat) (z4 : Nat) (z5 : Nat) (z6 : Nat) (z7 : Nat) (z8 : Nat) (z9 : Nat) (z10 : Nat) (z11 : Nat) (z12 : Nat) (p0 : Int32) : CT l (.code yX11_tradeRound cX11_tradeRound 3 (some .int)) yX11_tradeRound { frames := 2, cells := 0, slots := 0, locals := 43 } [.ref a0, .int p0] (fun y => [(a0, .inr (13, [.ref a1, .ref z0, .ref z1, .ref z2, .ref z3, .ref z4, .int 45, .ref z5, .ref z6, .ref z7, .int 0, .ref z8, .ref z9, .int 0, .int 0, .int 0, .int 0, .ref z10, .int 0, .null, .ref z11, .ref z12])), (a1, .inl (y 0, 3, .inl (fun _ => 0)))]) (fun y => [(a0, .inr (13, [.ref a1, .ref z0, .ref z1, .ref z2, .ref z3, .ref z4, .int 45, .ref z5, .ref z6, .ref z7, .int 0, .ref z8, .ref z9, .int 0, .int 0, .int 0, .int 0, .ref z10, .int 0, .null, .ref z11, .ref z12])), (a1, .inl (y 0, 3, .inl (fun _ => 0)))]) (fun u => some (.int 0)) (fun y u => [(a0, .inr (13, [.ref a1, .ref z0, .ref z1, .ref z2, .ref z3, .ref z4, .int 45, .ref z5, .ref z6, .ref z7, .int 0, .ref z8, .ref z9, .int 0, .int 0, .int 1, .int 0, .ref z10, .int 0, .null, .ref z11, .ref z12])), (a1, .inl (y 0, 3, .inl (fun _ => 0)))]) := by
  refine mkM (by decide) (Nat.le_of_ble_eq_true rfl) ?_
  intro p e s m args below meth c D y A ls hF hr hAe hP hD hS hl
  have hF : FX p e s m args meth c cX11_tradeRound 3 RX11 "tradeRound" D y A := hF
  obtain ⟨⟨hx, hb, hml, hown, hts⟩, hev, heh, hA, hlk, hnm⟩ := id hF
  have hK := hev.1
  have hP : va_P D vwCl [(a0, .inr (13, [.ref a1, .ref z0, .ref z1, .ref z2, .ref z3, .ref z4, .int 45, .ref z5, .ref z6, .ref z7, .int 0, .ref z8, .ref z9, .int 0, .int 0, .int 0, .int 0, .ref z10, .int 0, .null, .ref z11, .ref z12])), (a1, .inl (y 0, 3, .inl (fun _ => 0)))] s.heap := hP
  have hD : va_D A [(a0, .inr (13, [.ref a1, .ref z0, .ref z1, .ref z2, .ref z3, .ref z4, .int 45, .ref z5, .ref z6, .ref z7, .int 0, .ref z8, .ref z9, .int 0, .int 0, .int 0, .int 0, .ref z10, .int 0, .null, .ref z11, .ref z12])), (a1, .inl (y 0, 3, .inl (fun _ => 0)))] := by rw [← hAe]; exact hD.self
  have hl : lv_has ls 3 [(0, .ref a0), (1, .int p0)] := hl
  refine lv_aload_n hx hb dX11_tradeRound_0 rfl (lv_at hl 0 rfl) ?_
  refine lv_aload_n hx hb dX11_tradeRound_1 rfl (lv_at hl 0 rfl) ?_
  refine lv_iload_n hx hb dX11_tradeRound_2 rfl (lv_at hl 1 rfl) ?_
  refine cV (l := l) (yM := yX11_isPerson) (C := RX11) (As := [.int p0]) (rest := [.ref a0]) (wr := [(a0, .inr (13, [.ref a1, .ref z0, .ref z1, .ref z2, .ref z3, .ref z4, .int 45, .ref z5, .ref z6, .ref z7, .int 0, .ref z8, .ref z9, .int 0, .int 0, .int 0, .int 0, .ref z10, .int 0, .null, .ref z11, .ref z12])), (a1, .inl (y 0, 3, .inl (fun _ => 0)))]) hF (c252_X11_isPerson l a0 a1 z0 z1 z2 z3 z4 z5 z6 z7 z8 z9 z10 z11 z12 p0) gv_RX11_176 1 (by decide +kernel) rfl ⟨(Nat.le_of_ble_eq_true rfl), (Nat.le_of_ble_eq_true rfl)⟩ hl.1 rfl (Nat.le_of_ble_eq_true rfl) dX11_tradeRound_3 ⟨(Nat.le_of_ble_eq_true rfl), (Nat.le_of_ble_eq_true rfl)⟩ hP hD hS (pA hA hS) (fun _ h => h) [0, 1] [] [0, 1] rfl rfl rfl rfl rfl (by decide) 0 (ci := 13) rfl rfl rfl (fun u_1 H locs hP hD hS => ?_)
  have hP : va_P D vwCl [(a0, .inr (13, [.ref a1, .ref z0, .ref z1, .ref z2, .ref z3, .ref z4, .int 45, .ref z5, .ref z6, .ref z7, .int 0, .ref z8, .ref z9, .int 0, .int 0, .int 0, .int 0, .ref z10, .int 0, .null, .ref z11, .ref z12])), (a1, .inl (y 0, 3, .inl (fun _ => 0)))] H := hP
  have hD : va_D A [(a0, .inr (13, [.ref a1, .ref z0, .ref z1, .ref z2, .ref z3, .ref z4, .int 45, .ref z5, .ref z6, .ref z7, .int 0, .ref z8, .ref z9, .int 0, .int 0, .int 0, .int 0, .ref z10, .int 0, .null, .ref z11, .ref z12])), (a1, .inl (y 0, 3, .inl (fun _ => 0)))] := hD
  refine W.widen (k := 0) (n := 0) (Nat.le_of_ble_eq_true rfl) (Nat.le_of_ble_eq_true rfl) ?_
  refine W.eq (g2 := F0 m 6 ls [.int 0, .ref a0]) rfl ?_
  refine lv_if_ne (tgt := 13) hx hb dX11_tradeRound_6 (by decide) (fun c => absurd (by decide) c) (fun _ => ?_)
  refine lv_iconst (v := 1) hx hb dX11_tradeRound_9 (by decide) ?_
  refine lv_goto (tgt := 14) hx hb dX11_tradeRound_10 (by decide) ?_
  refine lv_aload_n hx hb dX11_tradeRound_14 rfl (lv_at hl 0 rfl) ?_
  refine va_get (D := D) (ci := 13) (v := .ref a1) (C := RX11) (T := TX11) (N := 22) hx hb hts inX11 hown hK hP 0 rfl rfl 0 (by decide) (hts _ wd_115) (fun _ h9 => h9) rfl dX11_tradeRound_15 ?_
  refine lv_iconst (v := 0) hx hb dX11_tradeRound_18 (by decide) ?_
  refine va_iald hx hb hK hP 1 0 rfl rfl (vp_in_nI (n := 0) (by decide) (by decide)) dX11_tradeRound_19 ?_
  refine tp_i (v := 0) rfl ?_
  refine lv_aload_n hx hb dX11_tradeRound_20 rfl (lv_at hl 0 rfl) ?_
  refine va_get (D := D) (ci := 13) (v := .ref a1) (C := RX11) (T := TX11) (N := 22) hx hb hts inX11 hown hK hP 0 rfl rfl 0 (by decide) (hts _ wd_115) (fun _ h9 => h9) rfl dX11_tradeRound_21 ?_
  refine lv_iconst (v := 1) hx hb dX11_tradeRound_24 (by decide) ?_
  refine va_iald hx hb hK hP 1 0 rfl rfl (vp_in_nI (n := 1) (by decide) (by decide)) dX11_tradeRound_25 ?_
  refine tp_i (v := 0) rfl ?_
  refine lv_icmp_eq (tgt := 33) hx hb dX11_tradeRound_26 (by decide) (fun _ => ?_) (fun c => absurd (by decide) c)
  refine lv_iconst (v := 0) hx hb dX11_tradeRound_33 (by decide) ?_
  refine lv_iconst (v := 0) hx hb dX11_tradeRound_34 (by decide) ?_
  refine cV (l := l) (yM := yX11_fails) (C := RX11) (As := [.int 1, .int 0, .int 0]) (rest := []) (wr := [(a1, .inl (y 0, 3, .inl (fun _ => 0)))]) hF (c67_X11_fails l a0 a1 z0 z1 z2 z3 z4 z5 z6 z7 z8 z9 z10 z11 z12) gv_RX11_128 3 (by decide +kernel) rfl ⟨(Nat.le_of_ble_eq_true rfl), (Nat.le_of_ble_eq_true rfl)⟩ hl.1 rfl (Nat.le_of_ble_eq_true rfl) dX11_tradeRound_35 ⟨(Nat.le_of_ble_eq_true rfl), (Nat.le_of_ble_eq_true rfl)⟩ hP hD hS (va_free (wc := [(a0, .inr (13, [.ref a1, .ref z0, .ref z1, .ref z2, .ref z3, .ref z4, .int 45, .ref z5, .ref z6, .ref z7, .int 0, .ref z8, .ref z9, .int 0, .int 0, .int 0, .int 0, .ref z10, .int 0, .null, .ref z11, .ref z12]))]) hD hS hA [0] rfl) (fun _ h => h) [0] [0] [1] rfl rfl rfl rfl rfl (by decide) 0 (ci := 13) rfl rfl rfl (fun u_2 H locs hP hD hS => ?_)
  have hP : va_P D vwCl [(a1, .inl (y 0, 3, .inl (fun _ => 0))), (a0, .inr (13, [.ref a1, .ref z0, .ref z1, .ref z2, .ref z3, .ref z4, .int 45, .ref z5, .ref z6, .ref z7, .int 0, .ref z8, .ref z9, .int 0, .int 0, .int 1, .int 0, .ref z10, .int 0, .null, .ref z11, .ref z12]))] H := hP
  have hD : va_D A [(a1, .inl (y 0, 3, .inl (fun _ => 0))), (a0, .inr (13, [.ref a1, .ref z0, .ref z1, .ref z2, .ref z3, .ref z4, .int 45, .ref z5, .ref z6, .ref z7, .int 0, .ref z8, .ref z9, .int 0, .int 0, .int 1, .int 0, .ref z10, .int 0, .null, .ref z11, .ref z12]))] := hD
  refine W.widen (k := 0) (n := 0) (Nat.le_of_ble_eq_true rfl) (Nat.le_of_ble_eq_true rfl) ?_
  refine W.eq (g2 := F0 m 38 ls [.int 1]) rfl ?_
  refine lv_if_eq (tgt := 43) hx hb dX11_tradeRound_38 (by decide) (fun c => absurd c (by decide)) (fun _ => ?_)
  refine lv_iconst (v := 0) hx hb dX11_tradeRound_41 (by decide) ?_
  exact e_i hF hr (Nat.le_of_ble_eq_true rfl) (Nat.le_of_ble_eq_true rfl) hS (qg_end hS (fun _ => 0) rfl [1, 0] hP rfl (hD.sub [1, 0] rfl rfl)) dX11_tradeRound_42

set_option maxHeartbeats 4000000 in
set_option maxRecDepth 100000 in
theorem c407_X0_has (l : Launch) (z0 : Nat) (p0 : Int32) (f0 : p0 < 0) : CT l (.code yX0_has cX0_has 2 (some .boolean)) yX0_has { frames := 0, cells := 0, slots := 0, locals := 0 } [.ref z0, .int p0] (fun y => []) (fun _ => []) (fun u => some (.int 0)) (fun y u => []) := by
  refine mkM (by decide) (Nat.le_of_ble_eq_true rfl) ?_
  intro p e s m args below meth c D y A ls hF hr hAe hP hD hS hl
  have hF : FX p e s m args meth c cX0_has 2 RX0 "has" D y A := hF
  obtain ⟨⟨hx, hb, hml, hown, hts⟩, hev, heh, hA, hlk, hnm⟩ := id hF
  have hK := hev.1
  have hP : va_P D vwCl [] s.heap := hP
  have hD : va_D A [] := by rw [← hAe]; exact hD.self
  have hl : lv_has ls 2 [(0, .ref z0), (1, .int p0)] := hl
  refine lv_iload_n hx hb dX0_has_0 rfl (lv_at hl 1 rfl) ?_
  refine lv_if_lt (tgt := 14) hx hb dX0_has_1 (by decide) (fun _ => ?_) (fun c => absurd f0 c)
  refine lv_iconst (v := 0) hx hb dX0_has_14 (by decide) ?_
  exact e_z hF hr (by decide) (Nat.le_of_ble_eq_true rfl) (Nat.le_of_ble_eq_true rfl) hS (qg_end hS (fun _ => 0) rfl [] hP rfl d_nil) dX0_has_15

set_option maxHeartbeats 4000000 in
set_option maxRecDepth 100000 in
theorem c407_X10_give (l : Launch) (hlt : l.stackTraces = false) (a0 : Nat) (a1 : Nat) (z0 : Nat) (z1 : Nat) (z2 : Nat) (z3 : Nat) (z4 : Nat) (z5 : Nat) (z6 : Nat) (z7 : Nat) (z8 : Nat) (z9 : Nat) (z10 : Nat) (z11 : Nat) (z12 : Nat) (z13 : Nat) (z14 : Nat) (z15 : Nat) (p0 : Int32) (p1 : Int32) (f0 : p0 < 0) : CX l (.code yX10_give cX10_give 5 (some .boolean)) yX10_give { frames := 6, cells := 1, slots := 6, locals := 90 } [.ref a0, .int p0, .int p1, .int 0] (fun y => [(a0, .inr (12, [.ref z0, .ref z1, .ref z2, .ref z3, .ref z4, .ref z5, .ref a1, .ref z6, .ref z7, .ref z8, .ref z9, .ref z10, .ref z11, .ref z12, .ref z13])), (a1, .inr (2, [.ref z14, .ref z15]))]) (fun _ => []) "java/lang/IllegalArgumentException" := by
  refine mkX (by decide) (Nat.le_of_ble_eq_true rfl) ?_
  intro p e s m args below meth c D y A ls hF htb hAe hP hD hS hl
  have hF : FX p e s m args meth c cX10_give 5 RX10 "give" D y A := hF
  obtain ⟨⟨hx, hb, hml, hown, hts⟩, hev, heh, hA, hlk, hnm⟩ := id hF
  have hK := hev.1
  have hP : va_P D vwCl [(a0, .inr (12, [.ref z0, .ref z1, .ref z2, .ref z3, .ref z4, .ref z5, .ref a1, .ref z6, .ref z7, .ref z8, .ref z9, .ref z10, .ref z11, .ref z12, .ref z13])), (a1, .inr (2, [.ref z14, .ref z15]))] s.heap := hP
  have hD : va_D (fun _ => True) [(a0, .inr (12, [.ref z0, .ref z1, .ref z2, .ref z3, .ref z4, .ref z5, .ref a1, .ref z6, .ref z7, .ref z8, .ref z9, .ref z10, .ref z11, .ref z12, .ref z13])), (a1, .inr (2, [.ref z14, .ref z15]))] := hD
  have hl : lv_has ls 5 [(0, .ref a0), (1, .int p0), (2, .int p1), (3, .int 0)] := hl
  refine lv_aload_n hx hb dX10_give_0 rfl (lv_at hl 0 rfl) ?_
  refine va_get (D := D) (ci := 12) (v := .ref a1) (C := RX10) (T := TX10) (N := 15) hx hb hts inX10 hown hK hP 0 rfl rfl 6 (by decide) (hts _ wd_67) (fun _ h9 => h9) rfl dX10_give_1 ?_
  refine lv_iload_n hx hb dX10_give_4 rfl (lv_at hl 1 rfl) ?_
  refine cV (l := l) (yM := yX0_has) (C := RX0) (As := [.int p0]) (rest := []) (wr := [(a0, .inr (12, [.ref z0, .ref z1, .ref z2, .ref z3, .ref z4, .ref z5, .ref a1, .ref z6, .ref z7, .ref z8, .ref z9, .ref z10, .ref z11, .ref z12, .ref z13])), (a1, .inr (2, [.ref z14, .ref z15]))]) hF (c407_X0_has l a1 p0 f0) gv_RX10_414 1 (by decide +kernel) rfl ⟨(Nat.le_of_ble_eq_true rfl), (Nat.le_of_ble_eq_true rfl)⟩ hl.1 rfl (Nat.le_of_ble_eq_true rfl) dX10_give_5 ⟨(Nat.le_of_ble_eq_true rfl), (Nat.le_of_ble_eq_true rfl)⟩ hP hD hS (pA hA hS) (fun _ _ => trivial) [] [] [0, 1] rfl rfl rfl rfl rfl (by decide) 1 (ci := 2) rfl rfl rfl (fun u_1 H locs hP hD hS => ?_)
  have hP : va_P D vwCl [(a0, .inr (12, [.ref z0, .ref z1, .ref z2, .ref z3, .ref z4, .ref z5, .ref a1, .ref z6, .ref z7, .ref z8, .ref z9, .ref z10, .ref z11, .ref z12, .ref z13])), (a1, .inr (2, [.ref z14, .ref z15]))] H := hP
  have hD : va_D (fun _ => True) [(a0, .inr (12, [.ref z0, .ref z1, .ref z2, .ref z3, .ref z4, .ref z5, .ref a1, .ref z6, .ref z7, .ref z8, .ref z9, .ref z10, .ref z11, .ref z12, .ref z13])), (a1, .inr (2, [.ref z14, .ref z15]))] := hD
  refine W.widen (k := 0) (n := 0) (Nat.le_of_ble_eq_true rfl) (Nat.le_of_ble_eq_true rfl) ?_
  refine W.eq (g2 := F0 m 8 ls [.int 0]) rfl ?_
  refine lv_if_eq (tgt := 27) hx hb dX10_give_8 (by decide) (fun _ => ?_) (fun c => absurd (by decide) c)
  exact th_W (text := "no two such couples") hF htb hlt (by decide) wd_233 wd_234 (List.mem_of_getElem? (i := 32) rfl) exg2 exf2 exo2 hS hl.1 (Nat.le_of_ble_eq_true rfl) ⟨(Nat.le_of_ble_eq_true rfl), (Nat.le_of_ble_eq_true rfl)⟩ ⟨(Nat.le_of_ble_eq_true rfl), (Nat.le_of_ble_eq_true rfl)⟩ ⟨(Nat.le_of_ble_eq_true rfl), (Nat.le_of_ble_eq_true rfl)⟩ dX10_give_27 dX10_give_30 dX10_give_31 dX10_give_34 dX10_give_37

set_option maxHeartbeats 4000000 in
set_option maxRecDepth 100000 in
theorem c407_L_give (l : Launch) (hlt : l.stackTraces = false) (a0 : Nat) (a1 : Nat) (z0 : Nat) (z1 : Nat) (z2 : Nat) (z3 : Nat) (z4 : Nat) (z5 : Nat) (z6 : Nat) (z7 : Nat) (z8 : Nat) (z9 : Nat) (z10 : Nat) (z11 : Nat) (z12 : Nat) (z13 : Nat) (z14 : Nat) (z15 : Nat) (p0 : Int32) (p1 : Int32) (z16 : Nat) (f0 : p0 < 0) : CT l (.codeWith yL_give cL_give 6 (some .int) [(0, 19, 22, 13)]) yL_give { frames := 7, cells := 1, slots := 6, locals := 114 } [.ref a0, .int p0, .int p1, .int 0, .ref z16] (fun y => [(a0, .inr (12, [.ref z0, .ref z1, .ref z2, .ref z3, .ref z4, .ref z5, .ref a1, .ref z6, .ref z7, .ref z8, .ref z9, .ref z10, .ref z11, .ref z12, .ref z13])), (a1, .inr (2, [.ref z14, .ref z15]))]) (fun _ => []) (fun u => some (.int 1)) (fun y u => []) := by
  refine mkH (by decide) (Nat.le_of_ble_eq_true rfl) ?_
  intro p e s m args below meth c D y A ls hF htab hr hAe hP hD hS hl
  have hF : FX p e s m args meth c cL_give 6 RL "give" D y A := hF
  obtain ⟨⟨hx, hb, hml, hown, hts⟩, hev, heh, hA, hlk, hnm⟩ := id hF
  have hK := hev.1
  have hP : va_P D vwCl [(a0, .inr (12, [.ref z0, .ref z1, .ref z2, .ref z3, .ref z4, .ref z5, .ref a1, .ref z6, .ref z7, .ref z8, .ref z9, .ref z10, .ref z11, .ref z12, .ref z13])), (a1, .inr (2, [.ref z14, .ref z15]))] s.heap := hP
  have hD : va_D (fun _ => True) [(a0, .inr (12, [.ref z0, .ref z1, .ref z2, .ref z3, .ref z4, .ref z5, .ref a1, .ref z6, .ref z7, .ref z8, .ref z9, .ref z10, .ref z11, .ref z12, .ref z13])), (a1, .inr (2, [.ref z14, .ref z15]))] := hD
  have hl : lv_has ls 6 [(0, .ref a0), (1, .int p0), (2, .int p1), (3, .int 0), (4, .ref z16)] := hl
  refine lv_aload hx hb dL_give_0 (lv_at hl 4 rfl) ?_
  refine lv_iconst (v := 0) hx hb dL_give_2 (by decide) ?_
  refine lv_aload_n hx hb dL_give_3 rfl (lv_at hl 0 rfl) ?_
  refine lv_iload_n hx hb dL_give_4 rfl (lv_at hl 1 rfl) ?_
  refine lv_iload_n hx hb dL_give_5 rfl (lv_at hl 2 rfl) ?_
  refine lv_iload_n hx hb dL_give_6 rfl (lv_at hl 3 rfl) ?_
  refine hV (wr := [(a0, .inr (12, [.ref z0, .ref z1, .ref z2, .ref z3, .ref z4, .ref z5, .ref a1, .ref z6, .ref z7, .ref z8, .ref z9, .ref z10, .ref z11, .ref z12, .ref z13])), (a1, .inr (2, [.ref z14, .ref z15]))]) (name := "java/lang/IllegalArgumentException") (E0 := "java/lang/IllegalArgumentException") (l := l) (yM := yX10_give) (C := RX10) (As := [.int p0, .int p1, .int 0]) (rest := [.int 0, .ref z16]) hF (c407_X10_give l hlt a0 a1 z0 z1 z2 z3 z4 z5 z6 z7 z8 z9 z10 z11 z12 z13 z14 z15 p0 p1 f0) gv_RL_152 3 (by decide +kernel) rfl ⟨(Nat.le_of_ble_eq_true rfl), (Nat.le_of_ble_eq_true rfl)⟩ hl.1 rfl (Nat.le_of_ble_eq_true rfl) dL_give_7 ⟨(Nat.le_of_ble_eq_true rfl), (Nat.le_of_ble_eq_true rfl)⟩ hP hD hS (pA hA hS) (fun _ _ => trivial) [0, 1] [] [0, 1] rfl rfl rfl rfl rfl (by decide) 0 (ci := 12) rfl rfl rfl [] ⟨0, 19, 22, 13⟩ [] htab (fun z hz => nomatch hz) (by decide) (by decide) wd_235 (by decide) (fun q9 H locs hP hD hS => ?_)
  have hP : va_P D vwCl [(a0, .inr (12, [.ref z0, .ref z1, .ref z2, .ref z3, .ref z4, .ref z5, .ref a1, .ref z6, .ref z7, .ref z8, .ref z9, .ref z10, .ref z11, .ref z12, .ref z13])), (a1, .inr (2, [.ref z14, .ref z15]))] H := hP
  have hD : va_D (fun _ => True) [(a0, .inr (12, [.ref z0, .ref z1, .ref z2, .ref z3, .ref z4, .ref z5, .ref a1, .ref z6, .ref z7, .ref z8, .ref z9, .ref z10, .ref z11, .ref z12, .ref z13])), (a1, .inr (2, [.ref z14, .ref z15]))] := hD
  refine W.widen (k := 1) (n := 6) (Nat.le_of_ble_eq_true rfl) (Nat.le_of_ble_eq_true rfl) ?_
  refine W.eq (g2 := F0 m 22 ls [.ref q9]) rfl ?_
  refine lv_astore (lv' := [(5, .ref q9), (0, .ref a0), (1, .int p0), (2, .int p1), (3, .int 0), (4, .ref z16)]) hx hb dL_give_22 hl (by decide) rfl (fun ls hl => ?_)
  refine lv_iconst (v := 1) hx hb dL_give_24 (by decide) ?_
  exact e_i hF hr (Nat.le_of_ble_eq_true rfl) (Nat.le_of_ble_eq_true rfl) hS (qg_end hS (fun _ => 0) rfl [] hP rfl d_nil) dL_give_25

set_option maxHeartbeats 4000000 in
set_option maxRecDepth 100000 in
theorem c410_X11_in (l : Launch) (p0 : Int32) (f0 : p0 < 0) : CT l (.code yX11_in cX11_in 3 (some .boolean)) yX11_in { frames := 0, cells := 0, slots := 0, locals := 0 } [.int p0, .int 0, .int 8] (fun y => []) (fun _ => []) (fun u => some (.int 0)) (fun y u => []) := by
  refine mkM (by decide) (Nat.le_of_ble_eq_true rfl) ?_
  intro p e s m args below meth c D y A ls hF hr hAe hP hD hS hl
  have hF : FX p e s m args meth c cX11_in 3 RX11 "in" D y A := hF
  obtain ⟨⟨hx, hb, hml, hown, hts⟩, hev, heh, hA, hlk, hnm⟩ := id hF
  have hK := hev.1
  have hP : va_P D vwCl [] s.heap := hP
  have hD : va_D A [] := by rw [← hAe]; exact hD.self
  have hl : lv_has ls 3 [(0, .int p0), (1, .int 0), (2, .int 8)] := hl
  refine lv_iload_n hx hb dX11_in_0 rfl (lv_at hl 0 rfl) ?_
  refine lv_iload_n hx hb dX11_in_1 rfl (lv_at hl 1 rfl) ?_
  refine lv_icmp_lt (tgt := 14) hx hb dX11_in_2 (by decide) (fun _ => ?_) (fun c => absurd f0 c)
  refine lv_iconst (v := 0) hx hb dX11_in_14 (by decide) ?_
  exact e_z hF hr (by decide) (Nat.le_of_ble_eq_true rfl) (Nat.le_of_ble_eq_true rfl) hS (qg_end hS (fun _ => 0) rfl [] hP rfl d_nil) dX11_in_15

set_option maxHeartbeats 4000000 in
set_option maxRecDepth 100000 in
theorem c410_X11_give (l : Launch) (a0 : Nat) (z0 : Nat) (z1 : Nat) (z2 : Nat) (z3 : Nat) (z4 : Nat) (z5 : Nat) (z6 : Nat) (z7 : Nat) (z8 : Nat) (z9 : Nat) (z10 : Nat) (z11 : Nat) (z12 : Nat) (z13 : Nat) (p0 : Int32) (p1 : Int32) (f0 : p0 < 0) : CT l (.code yX11_give cX11_give 5 (some .boolean)) yX11_give { frames := 1, cells := 0, slots := 0, locals := 23 } [.ref a0, .int p0, .int p1, .int 0] (fun y => [(a0, .inr (13, [.ref z0, .ref z1, .ref z2, .ref z3, .ref z4, .ref z5, .int 45, .ref z6, .ref z7, .ref z8, .int 0, .ref z9, .ref z10, .int 0, .int 0, .int 0, .int 0, .ref z11, .int 0, .null, .ref z12, .ref z13]))]) (fun y => [(a0, .inr (13, [.ref z0, .ref z1, .ref z2, .ref z3, .ref z4, .ref z5, .int 45, .ref z6, .ref z7, .ref z8, .int 0, .ref z9, .ref z10, .int 0, .int 0, .int 0, .int 0, .ref z11, .int 0, .null, .ref z12, .ref z13]))]) (fun u => some (.int 0)) (fun y u => [(a0, .inr (13, [.ref z0, .ref z1, .ref z2, .ref z3, .ref z4, .ref z5, .int 45, .ref z6, .ref z7, .ref z8, .int 0, .ref z9, .ref z10, .int 0, .int 0, .int 1, .int 0, .ref z11, .int 0, .null, .ref z12, .ref z13]))]) := by
  refine mkM (by decide) (Nat.le_of_ble_eq_true rfl) ?_
  intro p e s m args below meth c D y A ls hF hr hAe hP hD hS hl
  have hF : FX p e s m args meth c cX11_give 5 RX11 "give" D y A := hF
  obtain ⟨⟨hx, hb, hml, hown, hts⟩, hev, heh, hA, hlk, hnm⟩ := id hF
  have hK := hev.1
  have hP : va_P D vwCl [(a0, .inr (13, [.ref z0, .ref z1, .ref z2, .ref z3, .ref z4, .ref z5, .int 45, .ref z6, .ref z7, .ref z8, .int 0, .ref z9, .ref z10, .int 0, .int 0, .int 0, .int 0, .ref z11, .int 0, .null, .ref z12, .ref z13]))] s.heap := hP
  have hD : va_D A [(a0, .inr (13, [.ref z0, .ref z1, .ref z2, .ref z3, .ref z4, .ref z5, .int 45, .ref z6, .ref z7, .ref z8, .int 0, .ref z9, .ref z10, .int 0, .int 0, .int 0, .int 0, .ref z11, .int 0, .null, .ref z12, .ref z13]))] := by rw [← hAe]; exact hD.self
  have hl : lv_has ls 5 [(0, .ref a0), (1, .int p0), (2, .int p1), (3, .int 0)] := hl
  refine lv_aload_n hx hb dX11_give_0 rfl (lv_at hl 0 rfl) ?_
  refine lv_iload_n hx hb dX11_give_1 rfl (lv_at hl 1 rfl) ?_
  refine lv_iconst (v := 0) hx hb dX11_give_2 (by decide) ?_
  refine lv_bipush (v := 8) hx hb dX11_give_3 (by decide) ?_
  refine cS (l := l) (yM := yX11_in) (As := [.int p0, .int 0, .int 8]) (rest := [.ref a0]) (wr := [(a0, .inr (13, [.ref z0, .ref z1, .ref z2, .ref z3, .ref z4, .ref z5, .int 45, .ref z6, .ref z7, .ref z8, .int 0, .ref z9, .ref z10, .int 0, .int 0, .int 0, .int 0, .ref z11, .int 0, .null, .ref z12, .ref z13]))]) hF (c410_X11_in l p0 f0) gs_RX11_78 3 (by decide +kernel) rfl ⟨(Nat.le_of_ble_eq_true rfl), (Nat.le_of_ble_eq_true rfl)⟩ hl.1 rfl (Nat.le_of_ble_eq_true rfl) dX11_give_5 ⟨(Nat.le_of_ble_eq_true rfl), (Nat.le_of_ble_eq_true rfl)⟩ hP hD hS (pA hA hS) (fun _ h => h) [] [] [0] rfl rfl rfl rfl rfl (by decide) (fun u_1 H locs hP hD hS => ?_)
  have hP : va_P D vwCl [(a0, .inr (13, [.ref z0, .ref z1, .ref z2, .ref z3, .ref z4, .ref z5, .int 45, .ref z6, .ref z7, .ref z8, .int 0, .ref z9, .ref z10, .int 0, .int 0, .int 0, .int 0, .ref z11, .int 0, .null, .ref z12, .ref z13]))] H := hP
  have hD : va_D A [(a0, .inr (13, [.ref z0, .ref z1, .ref z2, .ref z3, .ref z4, .ref z5, .int 45, .ref z6, .ref z7, .ref z8, .int 0, .ref z9, .ref z10, .int 0, .int 0, .int 0, .int 0, .ref z11, .int 0, .null, .ref z12, .ref z13]))] := hD
  refine W.widen (k := 0) (n := 0) (Nat.le_of_ble_eq_true rfl) (Nat.le_of_ble_eq_true rfl) ?_
  refine W.eq (g2 := F0 m 8 ls [.int 0, .ref a0]) rfl ?_
  refine lv_if_eq (tgt := 26) hx hb dX11_give_8 (by decide) (fun _ => ?_) (fun c => absurd (by decide) c)
  refine lv_iconst (v := 1) hx hb dX11_give_26 (by decide) ?_
  refine lv_goto (tgt := 31) hx hb dX11_give_27 (by decide) ?_
  refine lv_iconst (v := 0) hx hb dX11_give_31 (by decide) ?_
  refine lv_iconst (v := 0) hx hb dX11_give_32 (by decide) ?_
  refine cV (l := l) (yM := yX11_fails) (C := RX11) (As := [.int 1, .int 0, .int 0]) (rest := []) (wr := []) hF (c67_X11_fails l a0 z0 z1 z2 z3 z4 z5 z6 z7 z8 z9 z10 z11 z12 z13) gv_RX11_128 3 (by decide +kernel) rfl ⟨(Nat.le_of_ble_eq_true rfl), (Nat.le_of_ble_eq_true rfl)⟩ hl.1 rfl (Nat.le_of_ble_eq_true rfl) dX11_give_33 ⟨(Nat.le_of_ble_eq_true rfl), (Nat.le_of_ble_eq_true rfl)⟩ hP hD hS (va_free (wc := [(a0, .inr (13, [.ref z0, .ref z1, .ref z2, .ref z3, .ref z4, .ref z5, .int 45, .ref z6, .ref z7, .ref z8, .int 0, .ref z9, .ref z10, .int 0, .int 0, .int 0, .int 0, .ref z11, .int 0, .null, .ref z12, .ref z13]))]) hD hS hA [0] rfl) (fun _ h => h) [0] [0] [] rfl rfl rfl rfl rfl (by decide) 0 (ci := 13) rfl rfl rfl (fun u_2 H locs hP hD hS => ?_)
  have hP : va_P D vwCl [(a0, .inr (13, [.ref z0, .ref z1, .ref z2, .ref z3, .ref z4, .ref z5, .int 45, .ref z6, .ref z7, .ref z8, .int 0, .ref z9, .ref z10, .int 0, .int 0, .int 1, .int 0, .ref z11, .int 0, .null, .ref z12, .ref z13]))] H := hP
  have hD : va_D A [(a0, .inr (13, [.ref z0, .ref z1, .ref z2, .ref z3, .ref z4, .ref z5, .int 45, .ref z6, .ref z7, .ref z8, .int 0, .ref z9, .ref z10, .int 0, .int 0, .int 1, .int 0, .ref z11, .int 0, .null, .ref z12, .ref z13]))] := hD
  refine W.widen (k := 0) (n := 0) (Nat.le_of_ble_eq_true rfl) (Nat.le_of_ble_eq_true rfl) ?_
  refine W.eq (g2 := F0 m 36 ls [.int 1]) rfl ?_
  refine lv_if_eq (tgt := 41) hx hb dX11_give_36 (by decide) (fun c => absurd c (by decide)) (fun _ => ?_)
  refine lv_iconst (v := 0) hx hb dX11_give_39 (by decide) ?_
  exact e_z hF hr (by decide) (Nat.le_of_ble_eq_true rfl) (Nat.le_of_ble_eq_true rfl) hS (qg_end hS (fun _ => 0) rfl [0] hP rfl (hD.sub [0] rfl rfl)) dX11_give_40

set_option maxHeartbeats 4000000 in
set_option maxRecDepth 100000 in
theorem c412_X0_has (l : Launch) (z0 : Nat) (p0 : Int32) (f0 : ¬ p0 < 0) (f1 : 9 ≤ p0) : CT l (.code yX0_has cX0_has 2 (some .boolean)) yX0_has { frames := 0, cells := 0, slots := 0, locals := 0 } [.ref z0, .int p0] (fun y => []) (fun _ => []) (fun u => some (.int 0)) (fun y u => []) := by
  refine mkM (by decide) (Nat.le_of_ble_eq_true rfl) ?_
  intro p e s m args below meth c D y A ls hF hr hAe hP hD hS hl
  have hF : FX p e s m args meth c cX0_has 2 RX0 "has" D y A := hF
  obtain ⟨⟨hx, hb, hml, hown, hts⟩, hev, heh, hA, hlk, hnm⟩ := id hF
  have hK := hev.1
  have hP : va_P D vwCl [] s.heap := hP
  have hD : va_D A [] := by rw [← hAe]; exact hD.self
  have hl : lv_has ls 2 [(0, .ref z0), (1, .int p0)] := hl
  refine lv_iload_n hx hb dX0_has_0 rfl (lv_at hl 1 rfl) ?_
  refine lv_if_lt (tgt := 14) hx hb dX0_has_1 (by decide) (fun c => absurd c f0) (fun _ => ?_)
  refine lv_iload_n hx hb dX0_has_4 rfl (lv_at hl 1 rfl) ?_
  refine lv_bipush (v := 9) hx hb dX0_has_5 (by decide) ?_
  refine lv_icmp_ge (tgt := 14) hx hb dX0_has_7 (by decide) (fun _ => ?_) (fun c => absurd f1 c)
  refine lv_iconst (v := 0) hx hb dX0_has_14 (by decide) ?_
  exact e_z hF hr (by decide) (Nat.le_of_ble_eq_true rfl) (Nat.le_of_ble_eq_true rfl) hS (qg_end hS (fun _ => 0) rfl [] hP rfl d_nil) dX0_has_15

set_option maxHeartbeats 4000000 in
set_option maxRecDepth 100000 in
theorem c412_X10_give (l : Launch) (hlt : l.stackTraces = false) (a0 : Nat) (a1 : Nat) (z0 : Nat) (z1 : Nat) (z2 : Nat) (z3 : Nat) (z4 : Nat) (z5 : Nat) (z6 : Nat) (z7 : Nat) (z8 : Nat) (z9 : Nat) (z10 : Nat) (z11 : Nat) (z12 : Nat) (z13 : Nat) (z14 : Nat) (z15 : Nat) (p0 : Int32) (p1 : Int32) (f0 : ¬ p0 < 0) (f1 : 9 ≤ p0) : CX l (.code yX10_give cX10_give 5 (some .boolean)) yX10_give { frames := 6, cells := 1, slots := 6, locals := 90 } [.ref a0, .int p0, .int p1, .int 0] (fun y => [(a0, .inr (12, [.ref z0, .ref z1, .ref z2, .ref z3, .ref z4, .ref z5, .ref a1, .ref z6, .ref z7, .ref z8, .ref z9, .ref z10, .ref z11, .ref z12, .ref z13])), (a1, .inr (2, [.ref z14, .ref z15]))]) (fun _ => []) "java/lang/IllegalArgumentException" := by
  refine mkX (by decide) (Nat.le_of_ble_eq_true rfl) ?_
  intro p e s m args below meth c D y A ls hF htb hAe hP hD hS hl
  have hF : FX p e s m args meth c cX10_give 5 RX10 "give" D y A := hF
  obtain ⟨⟨hx, hb, hml, hown, hts⟩, hev, heh, hA, hlk, hnm⟩ := id hF
  have hK := hev.1
  have hP : va_P D vwCl [(a0, .inr (12, [.ref z0, .ref z1, .ref z2, .ref z3, .ref z4, .ref z5, .ref a1, .ref z6, .ref z7, .ref z8, .ref z9, .ref z10, .ref z11, .ref z12, .ref z13])), (a1, .inr (2, [.ref z14, .ref z15]))] s.heap := hP
  have hD : va_D (fun _ => True) [(a0, .inr (12, [.ref z0, .ref z1, .ref z2, .ref z3, .ref z4, .ref z5, .ref a1, .ref z6, .ref z7, .ref z8, .ref z9, .ref z10, .ref z11, .ref z12, .ref z13])), (a1, .inr (2, [.ref z14, .ref z15]))] := hD
  have hl : lv_has ls 5 [(0, .ref a0), (1, .int p0), (2, .int p1), (3, .int 0)] := hl
  refine lv_aload_n hx hb dX10_give_0 rfl (lv_at hl 0 rfl) ?_
  refine va_get (D := D) (ci := 12) (v := .ref a1) (C := RX10) (T := TX10) (N := 15) hx hb hts inX10 hown hK hP 0 rfl rfl 6 (by decide) (hts _ wd_67) (fun _ h9 => h9) rfl dX10_give_1 ?_
  refine lv_iload_n hx hb dX10_give_4 rfl (lv_at hl 1 rfl) ?_
  refine cV (l := l) (yM := yX0_has) (C := RX0) (As := [.int p0]) (rest := []) (wr := [(a0, .inr (12, [.ref z0, .ref z1, .ref z2, .ref z3, .ref z4, .ref z5, .ref a1, .ref z6, .ref z7, .ref z8, .ref z9, .ref z10, .ref z11, .ref z12, .ref z13])), (a1, .inr (2, [.ref z14, .ref z15]))]) hF (c412_X0_has l a1 p0 f0 f1) gv_RX10_414 1 (by decide +kernel) rfl ⟨(Nat.le_of_ble_eq_true rfl), (Nat.le_of_ble_eq_true rfl)⟩ hl.1 rfl (Nat.le_of_ble_eq_true rfl) dX10_give_5 ⟨(Nat.le_of_ble_eq_true rfl), (Nat.le_of_ble_eq_true rfl)⟩ hP hD hS (pA hA hS) (fun _ _ => trivial) [] [] [0, 1] rfl rfl rfl rfl rfl (by decide) 1 (ci := 2) rfl rfl rfl (fun u_1 H locs hP hD hS => ?_)
  have hP : va_P D vwCl [(a0, .inr (12, [.ref z0, .ref z1, .ref z2, .ref z3, .ref z4, .ref z5, .ref a1, .ref z6, .ref z7, .ref z8, .ref z9, .ref z10, .ref z11, .ref z12, .ref z13])), (a1, .inr (2, [.ref z14, .ref z15]))] H := hP
  have hD : va_D (fun _ => True) [(a0, .inr (12, [.ref z0, .ref z1, .ref z2, .ref z3, .ref z4, .ref z5, .ref a1, .ref z6, .ref z7, .ref z8, .ref z9, .ref z10, .ref z11, .ref z12, .ref z13])), (a1, .inr (2, [.ref z14, .ref z15]))] := hD
  refine W.widen (k := 0) (n := 0) (Nat.le_of_ble_eq_true rfl) (Nat.le_of_ble_eq_true rfl) ?_
  refine W.eq (g2 := F0 m 8 ls [.int 0]) rfl ?_
  refine lv_if_eq (tgt := 27) hx hb dX10_give_8 (by decide) (fun _ => ?_) (fun c => absurd (by decide) c)
  exact th_W (text := "no two such couples") hF htb hlt (by decide) wd_233 wd_234 (List.mem_of_getElem? (i := 32) rfl) exg2 exf2 exo2 hS hl.1 (Nat.le_of_ble_eq_true rfl) ⟨(Nat.le_of_ble_eq_true rfl), (Nat.le_of_ble_eq_true rfl)⟩ ⟨(Nat.le_of_ble_eq_true rfl), (Nat.le_of_ble_eq_true rfl)⟩ ⟨(Nat.le_of_ble_eq_true rfl), (Nat.le_of_ble_eq_true rfl)⟩ dX10_give_27 dX10_give_30 dX10_give_31 dX10_give_34 dX10_give_37

set_option maxHeartbeats 4000000 in
set_option maxRecDepth 100000 in
theorem c412_L_give (l : Launch) (hlt : l.stackTraces = false) (a0 : Nat) (a1 : Nat) (z0 : Nat) (z1 : Nat) (z2 : Nat) (z3 : Nat) (z4 : Nat) (z5 : Nat) (z6 : Nat) (z7 : Nat) (z8 : Nat) (z9 : Nat) (z10 : Nat) (z11 : Nat) (z12 : Nat) (z13 : Nat) (z14 : Nat) (z15 : Nat) (p0 : Int32) (p1 : Int32) (z16 : Nat) (f0 : ¬ p0 < 0) (f1 : 9 ≤ p0) : CT l (.codeWith yL_give cL_give 6 (some .int) [(0, 19, 22, 13)]) yL_give { frames := 7, cells := 1, slots := 6, locals := 114 } [.ref a0, .int p0, .int p1, .int 0, .ref z16] (fun y => [(a0, .inr (12, [.ref z0, .ref z1, .ref z2, .ref z3, .ref z4, .ref z5, .ref a1, .ref z6, .ref z7, .ref z8, .ref z9, .ref z10, .ref z11, .ref z12, .ref z13])), (a1, .inr (2, [.ref z14, .ref z15]))]) (fun _ => []) (fun u => some (.int 1)) (fun y u => []) := by
  refine mkH (by decide) (Nat.le_of_ble_eq_true rfl) ?_
  intro p e s m args below meth c D y A ls hF htab hr hAe hP hD hS hl
  have hF : FX p e s m args meth c cL_give 6 RL "give" D y A := hF
  obtain ⟨⟨hx, hb, hml, hown, hts⟩, hev, heh, hA, hlk, hnm⟩ := id hF
  have hK := hev.1
  have hP : va_P D vwCl [(a0, .inr (12, [.ref z0, .ref z1, .ref z2, .ref z3, .ref z4, .ref z5, .ref a1, .ref z6, .ref z7, .ref z8, .ref z9, .ref z10, .ref z11, .ref z12, .ref z13])), (a1, .inr (2, [.ref z14, .ref z15]))] s.heap := hP
  have hD : va_D (fun _ => True) [(a0, .inr (12, [.ref z0, .ref z1, .ref z2, .ref z3, .ref z4, .ref z5, .ref a1, .ref z6, .ref z7, .ref z8, .ref z9, .ref z10, .ref z11, .ref z12, .ref z13])), (a1, .inr (2, [.ref z14, .ref z15]))] := hD
  have hl : lv_has ls 6 [(0, .ref a0), (1, .int p0), (2, .int p1), (3, .int 0), (4, .ref z16)] := hl
  refine lv_aload hx hb dL_give_0 (lv_at hl 4 rfl) ?_
  refine lv_iconst (v := 0) hx hb dL_give_2 (by decide) ?_
  refine lv_aload_n hx hb dL_give_3 rfl (lv_at hl 0 rfl) ?_
  refine lv_iload_n hx hb dL_give_4 rfl (lv_at hl 1 rfl) ?_
  refine lv_iload_n hx hb dL_give_5 rfl (lv_at hl 2 rfl) ?_
  refine lv_iload_n hx hb dL_give_6 rfl (lv_at hl 3 rfl) ?_
  refine hV (wr := [(a0, .inr (12, [.ref z0, .ref z1, .ref z2, .ref z3, .ref z4, .ref z5, .ref a1, .ref z6, .ref z7, .ref z8, .ref z9, .ref z10, .ref z11, .ref z12, .ref z13])), (a1, .inr (2, [.ref z14, .ref z15]))]) (name := "java/lang/IllegalArgumentException") (E0 := "java/lang/IllegalArgumentException") (l := l) (yM := yX10_give) (C := RX10) (As := [.int p0, .int p1, .int 0]) (rest := [.int 0, .ref z16]) hF (c412_X10_give l hlt a0 a1 z0 z1 z2 z3 z4 z5 z6 z7 z8 z9 z10 z11 z12 z13 z14 z15 p0 p1 f0 f1) gv_RL_152 3 (by decide +kernel) rfl ⟨(Nat.le_of_ble_eq_true rfl), (Nat.le_of_ble_eq_true rfl)⟩ hl.1 rfl (Nat.le_of_ble_eq_true rfl) dL_give_7 ⟨(Nat.le_of_ble_eq_true rfl), (Nat.le_of_ble_eq_true rfl)⟩ hP hD hS (pA hA hS) (fun _ _ => trivial) [0, 1] [] [0, 1] rfl rfl rfl rfl rfl (by decide) 0 (ci := 12) rfl rfl rfl [] ⟨0, 19, 22, 13⟩ [] htab (fun z hz => nomatch hz) (by decide) (by decide) wd_235 (by decide) (fun q9 H locs hP hD hS => ?_)
  have hP : va_P D vwCl [(a0, .inr (12, [.ref z0, .ref z1, .ref z2, .ref z3, .ref z4, .ref z5, .ref a1, .ref z6, .ref z7, .ref z8, .ref z9, .ref z10, .ref z11, .ref z12, .ref z13])), (a1, .inr (2, [.ref z14, .ref z15]))] H := hP
  have hD : va_D (fun _ => True) [(a0, .inr (12, [.ref z0, .ref z1, .ref z2, .ref z3, .ref z4, .ref z5, .ref a1, .ref z6, .ref z7, .ref z8, .ref z9, .ref z10, .ref z11, .ref z12, .ref z13])), (a1, .inr (2, [.ref z14, .ref z15]))] := hD
  refine W.widen (k := 1) (n := 6) (Nat.le_of_ble_eq_true rfl) (Nat.le_of_ble_eq_true rfl) ?_
  refine W.eq (g2 := F0 m 22 ls [.ref q9]) rfl ?_
  refine lv_astore (lv' := [(5, .ref q9), (0, .ref a0), (1, .int p0), (2, .int p1), (3, .int 0), (4, .ref z16)]) hx hb dL_give_22 hl (by decide) rfl (fun ls hl => ?_)
  refine lv_iconst (v := 1) hx hb dL_give_24 (by decide) ?_
  exact e_i hF hr (Nat.le_of_ble_eq_true rfl) (Nat.le_of_ble_eq_true rfl) hS (qg_end hS (fun _ => 0) rfl [] hP rfl d_nil) dL_give_25

set_option maxHeartbeats 4000000 in
set_option maxRecDepth 100000 in
theorem c415_X11_in (l : Launch) (p0 : Int32) (f0 : ¬ p0 < 0) (f1 : 9 ≤ p0) : CT l (.code yX11_in cX11_in 3 (some .boolean)) yX11_in { frames := 0, cells := 0, slots := 0, locals := 0 } [.int p0, .int 0, .int 8] (fun y => []) (fun _ => []) (fun u => some (.int 0)) (fun y u => []) := by
  refine mkM (by decide) (Nat.le_of_ble_eq_true rfl) ?_
  intro p e s m args below meth c D y A ls hF hr hAe hP hD hS hl
  have hF : FX p e s m args meth c cX11_in 3 RX11 "in" D y A := hF
  obtain ⟨⟨hx, hb, hml, hown, hts⟩, hev, heh, hA, hlk, hnm⟩ := id hF
  have hK := hev.1
  have hP : va_P D vwCl [] s.heap := hP
  have hD : va_D A [] := by rw [← hAe]; exact hD.self
  have hl : lv_has ls 3 [(0, .int p0), (1, .int 0), (2, .int 8)] := hl
  refine lv_iload_n hx hb dX11_in_0 rfl (lv_at hl 0 rfl) ?_
  refine lv_iload_n hx hb dX11_in_1 rfl (lv_at hl 1 rfl) ?_
  refine lv_icmp_lt (tgt := 14) hx hb dX11_in_2 (by decide) (fun c => absurd c f0) (fun _ => ?_)
  refine lv_iload_n hx hb dX11_in_5 rfl (lv_at hl 0 rfl) ?_
  refine lv_iload_n hx hb dX11_in_6 rfl (lv_at hl 2 rfl) ?_
  refine lv_icmp_gt (tgt := 14) hx hb dX11_in_7 (by decide) (fun _ => ?_) (fun c => absurd (by have e0 : (0 : Int32).toInt = 0 := (by decide); have e1 : (8 : Int32).toInt = 8 := (by decide); have e2 : (9 : Int32).toInt = 9 := (by decide); have h9 := And.intro f0 f1; simp only [Int32.lt_iff_toInt_lt, Int32.le_iff_toInt_le, ← Int32.toInt_inj, e0, e1, e2] at h9 ⊢; omega) c)
  refine lv_iconst (v := 0) hx hb dX11_in_14 (by decide) ?_
  exact e_z hF hr (by decide) (Nat.le_of_ble_eq_true rfl) (Nat.le_of_ble_eq_true rfl) hS (qg_end hS (fun _ => 0) rfl [] hP rfl d_nil) dX11_in_15

set_option maxHeartbeats 4000000 in
set_option maxRecDepth 100000 in
theorem c415_X11_give (l : Launch) (a0 : Nat) (z0 : Nat) (z1 : Nat) (z2 : Nat) (z3 : Nat) (z4 : Nat) (z5 : Nat) (z6 : Nat) (z7 : Nat) (z8 : Nat) (z9 : Nat) (z10 : Nat) (z11 : Nat) (z12 : Nat) (z13 : Nat) (p0 : Int32) (p1 : Int32) (f0 : ¬ p0 < 0) (f1 : 9 ≤ p0) : CT l (.code yX11_give cX11_give 5 (some .boolean)) yX11_give { frames := 1, cells := 0, slots := 0, locals := 23 } [.ref a0, .int p0, .int p1, .int 0] (fun y => [(a0, .inr (13, [.ref z0, .ref z1, .ref z2, .ref z3, .ref z4, .ref z5, .int 45, .ref z6, .ref z7, .ref z8, .int 0, .ref z9, .ref z10, .int 0, .int 0, .int 0, .int 0, .ref z11, .int 0, .null, .ref z12, .ref z13]))]) (fun y => [(a0, .inr (13, [.ref z0, .ref z1, .ref z2, .ref z3, .ref z4, .ref z5, .int 45, .ref z6, .ref z7, .ref z8, .int 0, .ref z9, .ref z10, .int 0, .int 0, .int 0, .int 0, .ref z11, .int 0, .null, .ref z12, .ref z13]))]) (fun u => some (.int 0)) (fun y u => [(a0, .inr (13, [.ref z0, .ref z1, .ref z2, .ref z3, .ref z4, .ref z5, .int 45, .ref z6, .ref z7, .ref z8, .int 0, .ref z9, .ref z10, .int 0, .int 0, .int 1, .int 0, .ref z11, .int 0, .null, .ref z12, .ref z13]))]) := by
  refine mkM (by decide) (Nat.le_of_ble_eq_true rfl) ?_
  intro p e s m args below meth c D y A ls hF hr hAe hP hD hS hl
  have hF : FX p e s m args meth c cX11_give 5 RX11 "give" D y A := hF
  obtain ⟨⟨hx, hb, hml, hown, hts⟩, hev, heh, hA, hlk, hnm⟩ := id hF
  have hK := hev.1
  have hP : va_P D vwCl [(a0, .inr (13, [.ref z0, .ref z1, .ref z2, .ref z3, .ref z4, .ref z5, .int 45, .ref z6, .ref z7, .ref z8, .int 0, .ref z9, .ref z10, .int 0, .int 0, .int 0, .int 0, .ref z11, .int 0, .null, .ref z12, .ref z13]))] s.heap := hP
  have hD : va_D A [(a0, .inr (13, [.ref z0, .ref z1, .ref z2, .ref z3, .ref z4, .ref z5, .int 45, .ref z6, .ref z7, .ref z8, .int 0, .ref z9, .ref z10, .int 0, .int 0, .int 0, .int 0, .ref z11, .int 0, .null, .ref z12, .ref z13]))] := by rw [← hAe]; exact hD.self
  have hl : lv_has ls 5 [(0, .ref a0), (1, .int p0), (2, .int p1), (3, .int 0)] := hl
  refine lv_aload_n hx hb dX11_give_0 rfl (lv_at hl 0 rfl) ?_
  refine lv_iload_n hx hb dX11_give_1 rfl (lv_at hl 1 rfl) ?_
  refine lv_iconst (v := 0) hx hb dX11_give_2 (by decide) ?_
  refine lv_bipush (v := 8) hx hb dX11_give_3 (by decide) ?_
  refine cS (l := l) (yM := yX11_in) (As := [.int p0, .int 0, .int 8]) (rest := [.ref a0]) (wr := [(a0, .inr (13, [.ref z0, .ref z1, .ref z2, .ref z3, .ref z4, .ref z5, .int 45, .ref z6, .ref z7, .ref z8, .int 0, .ref z9, .ref z10, .int 0, .int 0, .int 0, .int 0, .ref z11, .int 0, .null, .ref z12, .ref z13]))]) hF (c415_X11_in l p0 f0 f1) gs_RX11_78 3 (by decide +kernel) rfl ⟨(Nat.le_of_ble_eq_true rfl), (Nat.le_of_ble_eq_true rfl)⟩ hl.1 rfl (Nat.le_of_ble_eq_true rfl) dX11_give_5 ⟨(Nat.le_of_ble_eq_true rfl), (Nat.le_of_ble_eq_true rfl)⟩ hP hD hS (pA hA hS) (fun _ h => h) [] [] [0] rfl rfl rfl rfl rfl (by decide) (fun u_1 H locs hP hD hS => ?_)
  have hP : va_P D vwCl [(a0, .inr (13, [.ref z0, .ref z1, .ref z2, .ref z3, .ref z4, .ref z5, .int 45, .ref z6, .ref z7, .ref z8, .int 0, .ref z9, .ref z10, .int 0, .int 0, .int 0, .int 0, .ref z11, .int 0, .null, .ref z12, .ref z13]))] H := hP
  have hD : va_D A [(a0, .inr (13, [.ref z0, .ref z1, .ref z2, .ref z3, .ref z4, .ref z5, .int 45, .ref z6, .ref z7, .ref z8, .int 0, .ref z9, .ref z10, .int 0, .int 0, .int 0, .int 0, .ref z11, .int 0, .null, .ref z12, .ref z13]))] := hD
  refine W.widen (k := 0) (n := 0) (Nat.le_of_ble_eq_true rfl) (Nat.le_of_ble_eq_true rfl) ?_
  refine W.eq (g2 := F0 m 8 ls [.int 0, .ref a0]) rfl ?_
  refine lv_if_eq (tgt := 26) hx hb dX11_give_8 (by decide) (fun _ => ?_) (fun c => absurd (by decide) c)
  refine lv_iconst (v := 1) hx hb dX11_give_26 (by decide) ?_
  refine lv_goto (tgt := 31) hx hb dX11_give_27 (by decide) ?_
  refine lv_iconst (v := 0) hx hb dX11_give_31 (by decide) ?_
  refine lv_iconst (v := 0) hx hb dX11_give_32 (by decide) ?_
  refine cV (l := l) (yM := yX11_fails) (C := RX11) (As := [.int 1, .int 0, .int 0]) (rest := []) (wr := []) hF (c67_X11_fails l a0 z0 z1 z2 z3 z4 z5 z6 z7 z8 z9 z10 z11 z12 z13) gv_RX11_128 3 (by decide +kernel) rfl ⟨(Nat.le_of_ble_eq_true rfl), (Nat.le_of_ble_eq_true rfl)⟩ hl.1 rfl (Nat.le_of_ble_eq_true rfl) dX11_give_33 ⟨(Nat.le_of_ble_eq_true rfl), (Nat.le_of_ble_eq_true rfl)⟩ hP hD hS (va_free (wc := [(a0, .inr (13, [.ref z0, .ref z1, .ref z2, .ref z3, .ref z4, .ref z5, .int 45, .ref z6, .ref z7, .ref z8, .int 0, .ref z9, .ref z10, .int 0, .int 0, .int 0, .int 0, .ref z11, .int 0, .null, .ref z12, .ref z13]))]) hD hS hA [0] rfl) (fun _ h => h) [0] [0] [] rfl rfl rfl rfl rfl (by decide) 0 (ci := 13) rfl rfl rfl (fun u_2 H locs hP hD hS => ?_)
  have hP : va_P D vwCl [(a0, .inr (13, [.ref z0, .ref z1, .ref z2, .ref z3, .ref z4, .ref z5, .int 45, .ref z6, .ref z7, .ref z8, .int 0, .ref z9, .ref z10, .int 0, .int 0, .int 1, .int 0, .ref z11, .int 0, .null, .ref z12, .ref z13]))] H := hP
  have hD : va_D A [(a0, .inr (13, [.ref z0, .ref z1, .ref z2, .ref z3, .ref z4, .ref z5, .int 45, .ref z6, .ref z7, .ref z8, .int 0, .ref z9, .ref z10, .int 0, .int 0, .int 1, .int 0, .ref z11, .int 0, .null, .ref z12, .ref z13]))] := hD
  refine W.widen (k := 0) (n := 0) (Nat.le_of_ble_eq_true rfl) (Nat.le_of_ble_eq_true rfl) ?_
  refine W.eq (g2 := F0 m 36 ls [.int 1]) rfl ?_
  refine lv_if_eq (tgt := 41) hx hb dX11_give_36 (by decide) (fun c => absurd c (by decide)) (fun _ => ?_)
  refine lv_iconst (v := 0) hx hb dX11_give_39 (by decide) ?_
  exact e_z hF hr (by decide) (Nat.le_of_ble_eq_true rfl) (Nat.le_of_ble_eq_true rfl) hS (qg_end hS (fun _ => 0) rfl [0] hP rfl (hD.sub [0] rfl rfl)) dX11_give_40

set_option maxHeartbeats 4000000 in
set_option maxRecDepth 100000 in
theorem c417_X0_has (l : Launch) (z0 : Nat) (p0 : Int32) (f0 : ¬ p0 < 0) (f1 : ¬ 9 ≤ p0) : CT l (.code yX0_has cX0_has 2 (some .boolean)) yX0_has { frames := 0, cells := 0, slots := 0, locals := 0 } [.ref z0, .int p0] (fun y => []) (fun _ => []) (fun u => some (.int 1)) (fun y u => []) := by
  refine mkM (by decide) (Nat.le_of_ble_eq_true rfl) ?_
  intro p e s m args below meth c D y A ls hF hr hAe hP hD hS hl
  have hF : FX p e s m args meth c cX0_has 2 RX0 "has" D y A := hF
  obtain ⟨⟨hx, hb, hml, hown, hts⟩, hev, heh, hA, hlk, hnm⟩ := id hF
  have hK := hev.1
  have hP : va_P D vwCl [] s.heap := hP
  have hD : va_D A [] := by rw [← hAe]; exact hD.self
  have hl : lv_has ls 2 [(0, .ref z0), (1, .int p0)] := hl
  refine lv_iload_n hx hb dX0_has_0 rfl (lv_at hl 1 rfl) ?_
  refine lv_if_lt (tgt := 14) hx hb dX0_has_1 (by decide) (fun c => absurd c f0) (fun _ => ?_)
  refine lv_iload_n hx hb dX0_has_4 rfl (lv_at hl 1 rfl) ?_
  refine lv_bipush (v := 9) hx hb dX0_has_5 (by decide) ?_
  refine lv_icmp_ge (tgt := 14) hx hb dX0_has_7 (by decide) (fun c => absurd c f1) (fun _ => ?_)
  refine lv_iconst (v := 1) hx hb dX0_has_10 (by decide) ?_
  refine lv_goto (tgt := 15) hx hb dX0_has_11 (by decide) ?_
  exact e_z hF hr (by decide) (Nat.le_of_ble_eq_true rfl) (Nat.le_of_ble_eq_true rfl) hS (qg_end hS (fun _ => 0) rfl [] hP rfl d_nil) dX0_has_15

set_option maxHeartbeats 4000000 in
set_option maxRecDepth 100000 in
theorem c417_X10_give (l : Launch) (hlt : l.stackTraces = false) (a0 : Nat) (a1 : Nat) (z0 : Nat) (z1 : Nat) (z2 : Nat) (z3 : Nat) (z4 : Nat) (z5 : Nat) (z6 : Nat) (z7 : Nat) (z8 : Nat) (z9 : Nat) (z10 : Nat) (z11 : Nat) (z12 : Nat) (z13 : Nat) (z14 : Nat) (z15 : Nat) (p0 : Int32) (p1 : Int32) (f0 : ¬ p0 < 0) (f1 : ¬ 9 ≤ p0) (f2 : p1 < 0) : CX l (.code yX10_give cX10_give 5 (some .boolean)) yX10_give { frames := 6, cells := 1, slots := 6, locals := 90 } [.ref a0, .int p0, .int p1, .int 0] (fun y => [(a0, .inr (12, [.ref z0, .ref z1, .ref z2, .ref z3, .ref z4, .ref z5, .ref a1, .ref z6, .ref z7, .ref z8, .ref z9, .ref z10, .ref z11, .ref z12, .ref z13])), (a1, .inr (2, [.ref z14, .ref z15]))]) (fun _ => []) "java/lang/IllegalArgumentException" := by
  refine mkX (by decide) (Nat.le_of_ble_eq_true rfl) ?_
  intro p e s m args below meth c D y A ls hF htb hAe hP hD hS hl
  have hF : FX p e s m args meth c cX10_give 5 RX10 "give" D y A := hF
  obtain ⟨⟨hx, hb, hml, hown, hts⟩, hev, heh, hA, hlk, hnm⟩ := id hF
  have hK := hev.1
  have hP : va_P D vwCl [(a0, .inr (12, [.ref z0, .ref z1, .ref z2, .ref z3, .ref z4, .ref z5, .ref a1, .ref z6, .ref z7, .ref z8, .ref z9, .ref z10, .ref z11, .ref z12, .ref z13])), (a1, .inr (2, [.ref z14, .ref z15]))] s.heap := hP
  have hD : va_D (fun _ => True) [(a0, .inr (12, [.ref z0, .ref z1, .ref z2, .ref z3, .ref z4, .ref z5, .ref a1, .ref z6, .ref z7, .ref z8, .ref z9, .ref z10, .ref z11, .ref z12, .ref z13])), (a1, .inr (2, [.ref z14, .ref z15]))] := hD
  have hl : lv_has ls 5 [(0, .ref a0), (1, .int p0), (2, .int p1), (3, .int 0)] := hl
  refine lv_aload_n hx hb dX10_give_0 rfl (lv_at hl 0 rfl) ?_
  refine va_get (D := D) (ci := 12) (v := .ref a1) (C := RX10) (T := TX10) (N := 15) hx hb hts inX10 hown hK hP 0 rfl rfl 6 (by decide) (hts _ wd_67) (fun _ h9 => h9) rfl dX10_give_1 ?_
  refine lv_iload_n hx hb dX10_give_4 rfl (lv_at hl 1 rfl) ?_
  refine cV (l := l) (yM := yX0_has) (C := RX0) (As := [.int p0]) (rest := []) (wr := [(a0, .inr (12, [.ref z0, .ref z1, .ref z2, .ref z3, .ref z4, .ref z5, .ref a1, .ref z6, .ref z7, .ref z8, .ref z9, .ref z10, .ref z11, .ref z12, .ref z13])), (a1, .inr (2, [.ref z14, .ref z15]))]) hF (c417_X0_has l a1 p0 f0 f1) gv_RX10_414 1 (by decide +kernel) rfl ⟨(Nat.le_of_ble_eq_true rfl), (Nat.le_of_ble_eq_true rfl)⟩ hl.1 rfl (Nat.le_of_ble_eq_true rfl) dX10_give_5 ⟨(Nat.le_of_ble_eq_true rfl), (Nat.le_of_ble_eq_true rfl)⟩ hP hD hS (pA hA hS) (fun _ _ => trivial) [] [] [0, 1] rfl rfl rfl rfl rfl (by decide) 1 (ci := 2) rfl rfl rfl (fun u_1 H locs hP hD hS => ?_)
  have hP : va_P D vwCl [(a0, .inr (12, [.ref z0, .ref z1, .ref z2, .ref z3, .ref z4, .ref z5, .ref a1, .ref z6, .ref z7, .ref z8, .ref z9, .ref z10, .ref z11, .ref z12, .ref z13])), (a1, .inr (2, [.ref z14, .ref z15]))] H := hP
  have hD : va_D (fun _ => True) [(a0, .inr (12, [.ref z0, .ref z1, .ref z2, .ref z3, .ref z4, .ref z5, .ref a1, .ref z6, .ref z7, .ref z8, .ref z9, .ref z10, .ref z11, .ref z12, .ref z13])), (a1, .inr (2, [.ref z14, .ref z15]))] := hD
  refine W.widen (k := 0) (n := 0) (Nat.le_of_ble_eq_true rfl) (Nat.le_of_ble_eq_true rfl) ?_
  refine W.eq (g2 := F0 m 8 ls [.int 1]) rfl ?_
  refine lv_if_eq (tgt := 27) hx hb dX10_give_8 (by decide) (fun c => absurd c (by decide)) (fun _ => ?_)
  refine lv_aload_n hx hb dX10_give_11 rfl (lv_at hl 0 rfl) ?_
  refine va_get (D := D) (ci := 12) (v := .ref a1) (C := RX10) (T := TX10) (N := 15) hx hb hts inX10 hown hK hP 0 rfl rfl 6 (by decide) (hts _ wd_67) (fun _ h9 => h9) rfl dX10_give_12 ?_
  refine lv_iload_n hx hb dX10_give_15 rfl (lv_at hl 2 rfl) ?_
  refine cV (l := l) (yM := yX0_has) (C := RX0) (As := [.int p1]) (rest := []) (wr := [(a0, .inr (12, [.ref z0, .ref z1, .ref z2, .ref z3, .ref z4, .ref z5, .ref a1, .ref z6, .ref z7, .ref z8, .ref z9, .ref z10, .ref z11, .ref z12, .ref z13])), (a1, .inr (2, [.ref z14, .ref z15]))]) hF (c407_X0_has l a1 p1 f2) gv_RX10_414 1 (by decide +kernel) rfl ⟨(Nat.le_of_ble_eq_true rfl), (Nat.le_of_ble_eq_true rfl)⟩ hl.1 rfl (Nat.le_of_ble_eq_true rfl) dX10_give_16 ⟨(Nat.le_of_ble_eq_true rfl), (Nat.le_of_ble_eq_true rfl)⟩ hP hD hS (pA hA hS) (fun _ _ => trivial) [] [] [0, 1] rfl rfl rfl rfl rfl (by decide) 1 (ci := 2) rfl rfl rfl (fun u_2 H locs hP hD hS => ?_)
  have hP : va_P D vwCl [(a0, .inr (12, [.ref z0, .ref z1, .ref z2, .ref z3, .ref z4, .ref z5, .ref a1, .ref z6, .ref z7, .ref z8, .ref z9, .ref z10, .ref z11, .ref z12, .ref z13])), (a1, .inr (2, [.ref z14, .ref z15]))] H := hP
  have hD : va_D (fun _ => True) [(a0, .inr (12, [.ref z0, .ref z1, .ref z2, .ref z3, .ref z4, .ref z5, .ref a1, .ref z6, .ref z7, .ref z8, .ref z9, .ref z10, .ref z11, .ref z12, .ref z13])), (a1, .inr (2, [.ref z14, .ref z15]))] := hD
  refine W.widen (k := 0) (n := 0) (Nat.le_of_ble_eq_true rfl) (Nat.le_of_ble_eq_true rfl) ?_
  refine W.eq (g2 := F0 m 19 ls [.int 0]) rfl ?_
  refine lv_if_eq (tgt := 27) hx hb dX10_give_19 (by decide) (fun _ => ?_) (fun c => absurd (by decide) c)
  exact th_W (text := "no two such couples") hF htb hlt (by decide) wd_233 wd_234 (List.mem_of_getElem? (i := 32) rfl) exg2 exf2 exo2 hS hl.1 (Nat.le_of_ble_eq_true rfl) ⟨(Nat.le_of_ble_eq_true rfl), (Nat.le_of_ble_eq_true rfl)⟩ ⟨(Nat.le_of_ble_eq_true rfl), (Nat.le_of_ble_eq_true rfl)⟩ ⟨(Nat.le_of_ble_eq_true rfl), (Nat.le_of_ble_eq_true rfl)⟩ dX10_give_27 dX10_give_30 dX10_give_31 dX10_give_34 dX10_give_37

set_option maxHeartbeats 4000000 in
set_option maxRecDepth 100000 in
theorem c417_L_give (l : Launch) (hlt : l.stackTraces = false) (a0 : Nat) (a1 : Nat) (z0 : Nat) (z1 : Nat) (z2 : Nat) (z3 : Nat) (z4 : Nat) (z5 : Nat) (z6 : Nat) (z7 : Nat) (z8 : Nat) (z9 : Nat) (z10 : Nat) (z11 : Nat) (z12 : Nat) (z13 : Nat) (z14 : Nat) (z15 : Nat) (p0 : Int32) (p1 : Int32) (z16 : Nat) (f0 : ¬ p0 < 0) (f1 : ¬ 9 ≤ p0) (f2 : p1 < 0) : CT l (.codeWith yL_give cL_give 6 (some .int) [(0, 19, 22, 13)]) yL_give { frames := 7, cells := 1, slots := 6, locals := 114 } [.ref a0, .int p0, .int p1, .int 0, .ref z16] (fun y => [(a0, .inr (12, [.ref z0, .ref z1, .ref z2, .ref z3, .ref z4, .ref z5, .ref a1, .ref z6, .ref z7, .ref z8, .ref z9, .ref z10, .ref z11, .ref z12, .ref z13])), (a1, .inr (2, [.ref z14, .ref z15]))]) (fun _ => []) (fun u => some (.int 1)) (fun y u => []) := by
  refine mkH (by decide) (Nat.le_of_ble_eq_true rfl) ?_
  intro p e s m args below meth c D y A ls hF htab hr hAe hP hD hS hl
  have hF : FX p e s m args meth c cL_give 6 RL "give" D y A := hF
  obtain ⟨⟨hx, hb, hml, hown, hts⟩, hev, heh, hA, hlk, hnm⟩ := id hF
  have hK := hev.1
  have hP : va_P D vwCl [(a0, .inr (12, [.ref z0, .ref z1, .ref z2, .ref z3, .ref z4, .ref z5, .ref a1, .ref z6, .ref z7, .ref z8, .ref z9, .ref z10, .ref z11, .ref z12, .ref z13])), (a1, .inr (2, [.ref z14, .ref z15]))] s.heap := hP
  have hD : va_D (fun _ => True) [(a0, .inr (12, [.ref z0, .ref z1, .ref z2, .ref z3, .ref z4, .ref z5, .ref a1, .ref z6, .ref z7, .ref z8, .ref z9, .ref z10, .ref z11, .ref z12, .ref z13])), (a1, .inr (2, [.ref z14, .ref z15]))] := hD
  have hl : lv_has ls 6 [(0, .ref a0), (1, .int p0), (2, .int p1), (3, .int 0), (4, .ref z16)] := hl
  refine lv_aload hx hb dL_give_0 (lv_at hl 4 rfl) ?_
  refine lv_iconst (v := 0) hx hb dL_give_2 (by decide) ?_
  refine lv_aload_n hx hb dL_give_3 rfl (lv_at hl 0 rfl) ?_
  refine lv_iload_n hx hb dL_give_4 rfl (lv_at hl 1 rfl) ?_
  refine lv_iload_n hx hb dL_give_5 rfl (lv_at hl 2 rfl) ?_
  refine lv_iload_n hx hb dL_give_6 rfl (lv_at hl 3 rfl) ?_
  refine hV (wr := [(a0, .inr (12, [.ref z0, .ref z1, .ref z2, .ref z3, .ref z4, .ref z5, .ref a1, .ref z6, .ref z7, .ref z8, .ref z9, .ref z10, .ref z11, .ref z12, .ref z13])), (a1, .inr (2, [.ref z14, .ref z15]))]) (name := "java/lang/IllegalArgumentException") (E0 := "java/lang/IllegalArgumentException") (l := l) (yM := yX10_give) (C := RX10) (As := [.int p0, .int p1, .int 0]) (rest := [.int 0, .ref z16]) hF (c417_X10_give l hlt a0 a1 z0 z1 z2 z3 z4 z5 z6 z7 z8 z9 z10 z11 z12 z13 z14 z15 p0 p1 f0 f1 f2) gv_RL_152 3 (by decide +kernel) rfl ⟨(Nat.le_of_ble_eq_true rfl), (Nat.le_of_ble_eq_true rfl)⟩ hl.1 rfl (Nat.le_of_ble_eq_true rfl) dL_give_7 ⟨(Nat.le_of_ble_eq_true rfl), (Nat.le_of_ble_eq_true rfl)⟩ hP hD hS (pA hA hS) (fun _ _ => trivial) [0, 1] [] [0, 1] rfl rfl rfl rfl rfl (by decide) 0 (ci := 12) rfl rfl rfl [] ⟨0, 19, 22, 13⟩ [] htab (fun z hz => nomatch hz) (by decide) (by decide) wd_235 (by decide) (fun q9 H locs hP hD hS => ?_)
  have hP : va_P D vwCl [(a0, .inr (12, [.ref z0, .ref z1, .ref z2, .ref z3, .ref z4, .ref z5, .ref a1, .ref z6, .ref z7, .ref z8, .ref z9, .ref z10, .ref z11, .ref z12, .ref z13])), (a1, .inr (2, [.ref z14, .ref z15]))] H := hP
  have hD : va_D (fun _ => True) [(a0, .inr (12, [.ref z0, .ref z1, .ref z2, .ref z3, .ref z4, .ref z5, .ref a1, .ref z6, .ref z7, .ref z8, .ref z9, .ref z10, .ref z11, .ref z12, .ref z13])), (a1, .inr (2, [.ref z14, .ref z15]))] := hD
  refine W.widen (k := 1) (n := 6) (Nat.le_of_ble_eq_true rfl) (Nat.le_of_ble_eq_true rfl) ?_
  refine W.eq (g2 := F0 m 22 ls [.ref q9]) rfl ?_
  refine lv_astore (lv' := [(5, .ref q9), (0, .ref a0), (1, .int p0), (2, .int p1), (3, .int 0), (4, .ref z16)]) hx hb dL_give_22 hl (by decide) rfl (fun ls hl => ?_)
  refine lv_iconst (v := 1) hx hb dL_give_24 (by decide) ?_
  exact e_i hF hr (Nat.le_of_ble_eq_true rfl) (Nat.le_of_ble_eq_true rfl) hS (qg_end hS (fun _ => 0) rfl [] hP rfl d_nil) dL_give_25

set_option maxHeartbeats 4000000 in
set_option maxRecDepth 100000 in
theorem c420_X11_in (l : Launch) (p0 : Int32) (f0 : ¬ p0 < 0) (f1 : ¬ 9 ≤ p0) : CT l (.code yX11_in cX11_in 3 (some .boolean)) yX11_in { frames := 0, cells := 0, slots := 0, locals := 0 } [.int p0, .int 0, .int 8] (fun y => []) (fun _ => []) (fun u => some (.int 1)) (fun y u => []) := by
  refine mkM (by decide) (Nat.le_of_ble_eq_true rfl) ?_
  intro p e s m args below meth c D y A ls hF hr hAe hP hD hS hl
  have hF : FX p e s m args meth c cX11_in 3 RX11 "in" D y A := hF
  obtain ⟨⟨hx, hb, hml, hown, hts⟩, hev, heh, hA, hlk, hnm⟩ := id hF
  have hK := hev.1
  have hP : va_P D vwCl [] s.heap := hP
  have hD : va_D A [] := by rw [← hAe]; exact hD.self
  have hl : lv_has ls 3 [(0, .int p0), (1, .int 0), (2, .int 8)] := hl
  refine lv_iload_n hx hb dX11_in_0 rfl (lv_at hl 0 rfl) ?_
  refine lv_iload_n hx hb dX11_in_1 rfl (lv_at hl 1 rfl) ?_
  refine lv_icmp_lt (tgt := 14) hx hb dX11_in_2 (by decide) (fun c => absurd c f0) (fun _ => ?_)
  refine lv_iload_n hx hb dX11_in_5 rfl (lv_at hl 0 rfl) ?_
  refine lv_iload_n hx hb dX11_in_6 rfl (lv_at hl 2 rfl) ?_
  refine lv_icmp_gt (tgt := 14) hx hb dX11_in_7 (by decide) (fun c => absurd c (by have e0 : (0 : Int32).toInt = 0 := (by decide); have e1 : (8 : Int32).toInt = 8 := (by decide); have e2 : (9 : Int32).toInt = 9 := (by decide); have h9 := And.intro f0 f1; simp only [Int32.lt_iff_toInt_lt, Int32.le_iff_toInt_le, ← Int32.toInt_inj, e0, e1, e2] at h9 ⊢; omega)) (fun _ => ?_)
  refine lv_iconst (v := 1) hx hb dX11_in_10 (by decide) ?_
  refine lv_goto (tgt := 15) hx hb dX11_in_11 (by decide) ?_
  exact e_z hF hr (by decide) (Nat.le_of_ble_eq_true rfl) (Nat.le_of_ble_eq_true rfl) hS (qg_end hS (fun _ => 0) rfl [] hP rfl d_nil) dX11_in_15

set_option maxHeartbeats 4000000 in
set_option maxRecDepth 100000 in
theorem c420_X11_give (l : Launch) (a0 : Nat) (z0 : Nat) (z1 : Nat) (z2 : Nat) (z3 : Nat) (z4 : Nat) (z5 : Nat) (z6 : Nat) (z7 : Nat) (z8 : Nat) (z9 : Nat) (z10 : Nat) (z11 : Nat) (z12 : Nat) (z13 : Nat) (p0 : Int32) (p1 : Int32) (f0 : ¬ p0 < 0) (f1 : ¬ 9 ≤ p0) (f2 : p1 < 0) : CT l (.code yX11_give cX11_give 5 (some .boolean)) yX11_give { frames := 1, cells := 0, slots := 0, locals := 23 } [.ref a0, .int p0, .int p1, .int 0] (fun y => [(a0, .inr (13, [.ref z0, .ref z1, .ref z2, .ref z3, .ref z4, .ref z5, .int 45, .ref z6, .ref z7, .ref z8, .int 0, .ref z9, .ref z10, .int 0, .int 0, .int 0, .int 0, .ref z11, .int 0, .null, .ref z12, .ref z13]))]) (fun y => [(a0, .inr (13, [.ref z0, .ref z1, .ref z2, .ref z3, .ref z4, .ref z5, .int 45, .ref z6, .ref z7, .ref z8, .int 0, .ref z9, .ref z10, .int 0, .int 0, .int 0, .int 0, .ref z11, .int 0, .null, .ref z12, .ref z13]))]) (fun u => some (.int 0)) (fun y u => [(a0, .inr (13, [.ref z0, .ref z1, .ref z2, .ref z3, .ref z4, .ref z5, .int 45, .ref z6, .ref z7, .ref z8, .int 0, .ref z9, .ref z10, .int 0, .int 0, .int 1, .int 0, .ref z11, .int 0, .null, .ref z12, .ref z13]))]) := by
  refine mkM (by decide) (Nat.le_of_ble_eq_true rfl) ?_
  intro p e s m args below meth c D y A ls hF hr hAe hP hD hS hl
  have hF : FX p e s m args meth c cX11_give 5 RX11 "give" D y A := hF
  obtain ⟨⟨hx, hb, hml, hown, hts⟩, hev, heh, hA, hlk, hnm⟩ := id hF
  have hK := hev.1
  have hP : va_P D vwCl [(a0, .inr (13, [.ref z0, .ref z1, .ref z2, .ref z3, .ref z4, .ref z5, .int 45, .ref z6, .ref z7, .ref z8, .int 0, .ref z9, .ref z10, .int 0, .int 0, .int 0, .int 0, .ref z11, .int 0, .null, .ref z12, .ref z13]))] s.heap := hP
  have hD : va_D A [(a0, .inr (13, [.ref z0, .ref z1, .ref z2, .ref z3, .ref z4, .ref z5, .int 45, .ref z6, .ref z7, .ref z8, .int 0, .ref z9, .ref z10, .int 0, .int 0, .int 0, .int 0, .ref z11, .int 0, .null, .ref z12, .ref z13]))] := by rw [← hAe]; exact hD.self
  have hl : lv_has ls 5 [(0, .ref a0), (1, .int p0), (2, .int p1), (3, .int 0)] := hl
  refine lv_aload_n hx hb dX11_give_0 rfl (lv_at hl 0 rfl) ?_
  refine lv_iload_n hx hb dX11_give_1 rfl (lv_at hl 1 rfl) ?_
  refine lv_iconst (v := 0) hx hb dX11_give_2 (by decide) ?_
  refine lv_bipush (v := 8) hx hb dX11_give_3 (by decide) ?_
  refine cS (l := l) (yM := yX11_in) (As := [.int p0, .int 0, .int 8]) (rest := [.ref a0]) (wr := [(a0, .inr (13, [.ref z0, .ref z1, .ref z2, .ref z3, .ref z4, .ref z5, .int 45, .ref z6, .ref z7, .ref z8, .int 0, .ref z9, .ref z10, .int 0, .int 0, .int 0, .int 0, .ref z11, .int 0, .null, .ref z12, .ref z13]))]) hF (c420_X11_in l p0 f0 f1) gs_RX11_78 3 (by decide +kernel) rfl ⟨(Nat.le_of_ble_eq_true rfl), (Nat.le_of_ble_eq_true rfl)⟩ hl.1 rfl (Nat.le_of_ble_eq_true rfl) dX11_give_5 ⟨(Nat.le_of_ble_eq_true rfl), (Nat.le_of_ble_eq_true rfl)⟩ hP hD hS (pA hA hS) (fun _ h => h) [] [] [0] rfl rfl rfl rfl rfl (by decide) (fun u_1 H locs hP hD hS => ?_)
  have hP : va_P D vwCl [(a0, .inr (13, [.ref z0, .ref z1, .ref z2, .ref z3, .ref z4, .ref z5, .int 45, .ref z6, .ref z7, .ref z8, .int 0, .ref z9, .ref z10, .int 0, .int 0, .int 0, .int 0, .ref z11, .int 0, .null, .ref z12, .ref z13]))] H := hP
  have hD : va_D A [(a0, .inr (13, [.ref z0, .ref z1, .ref z2, .ref z3, .ref z4, .ref z5, .int 45, .ref z6, .ref z7, .ref z8, .int 0, .ref z9, .ref z10, .int 0, .int 0, .int 0, .int 0, .ref z11, .int 0, .null, .ref z12, .ref z13]))] := hD
  refine W.widen (k := 0) (n := 0) (Nat.le_of_ble_eq_true rfl) (Nat.le_of_ble_eq_true rfl) ?_
  refine W.eq (g2 := F0 m 8 ls [.int 1, .ref a0]) rfl ?_
  refine lv_if_eq (tgt := 26) hx hb dX11_give_8 (by decide) (fun c => absurd c (by decide)) (fun _ => ?_)
  refine lv_iload_n hx hb dX11_give_11 rfl (lv_at hl 2 rfl) ?_
  refine lv_iconst (v := 0) hx hb dX11_give_12 (by decide) ?_
  refine lv_bipush (v := 8) hx hb dX11_give_13 (by decide) ?_
  refine cS (l := l) (yM := yX11_in) (As := [.int p1, .int 0, .int 8]) (rest := [.ref a0]) (wr := [(a0, .inr (13, [.ref z0, .ref z1, .ref z2, .ref z3, .ref z4, .ref z5, .int 45, .ref z6, .ref z7, .ref z8, .int 0, .ref z9, .ref z10, .int 0, .int 0, .int 0, .int 0, .ref z11, .int 0, .null, .ref z12, .ref z13]))]) hF (c410_X11_in l p1 f2) gs_RX11_78 3 (by decide +kernel) rfl ⟨(Nat.le_of_ble_eq_true rfl), (Nat.le_of_ble_eq_true rfl)⟩ hl.1 rfl (Nat.le_of_ble_eq_true rfl) dX11_give_15 ⟨(Nat.le_of_ble_eq_true rfl), (Nat.le_of_ble_eq_true rfl)⟩ hP hD hS (pA hA hS) (fun _ h => h) [] [] [0] rfl rfl rfl rfl rfl (by decide) (fun u_2 H locs hP hD hS => ?_)
  have hP : va_P D vwCl [(a0, .inr (13, [.ref z0, .ref z1, .ref z2, .ref z3, .ref z4, .ref z5, .int 45, .ref z6, .ref z7, .ref z8, .int 0, .ref z9, .ref z10, .int 0, .int 0, .int 0, .int 0, .ref z11, .int 0, .null, .ref z12, .ref z13]))] H := hP
  have hD : va_D A [(a0, .inr (13, [.ref z0, .ref z1, .ref z2, .ref z3, .ref z4, .ref z5, .int 45, .ref z6, .ref z7, .ref z8, .int 0, .ref z9, .ref z10, .int 0, .int 0, .int 0, .int 0, .ref z11, .int 0, .null, .ref z12, .ref z13]))] := hD
  refine W.widen (k := 0) (n := 0) (Nat.le_of_ble_eq_true rfl) (Nat.le_of_ble_eq_true rfl) ?_
  refine W.eq (g2 := F0 m 18 ls [.int 0, .ref a0]) rfl ?_
  refine lv_if_eq (tgt := 26) hx hb dX11_give_18 (by decide) (fun _ => ?_) (fun c => absurd (by decide) c)
  refine lv_iconst (v := 1) hx hb dX11_give_26 (by decide) ?_
  refine lv_goto (tgt := 31) hx hb dX11_give_27 (by decide) ?_
  refine lv_iconst (v := 0) hx hb dX11_give_31 (by decide) ?_
  refine lv_iconst (v := 0) hx hb dX11_give_32 (by decide) ?_
  refine cV (l := l) (yM := yX11_fails) (C := RX11) (As := [.int 1, .int 0, .int 0]) (rest := []) (wr := []) hF (c67_X11_fails l a0 z0 z1 z2 z3 z4 z5 z6 z7 z8 z9 z10 z11 z12 z13) gv_RX11_128 3 (by decide +kernel) rfl ⟨(Nat.le_of_ble_eq_true rfl), (Nat.le_of_ble_eq_true rfl)⟩ hl.1 rfl (Nat.le_of_ble_eq_true rfl) dX11_give_33 ⟨(Nat.le_of_ble_eq_true rfl), (Nat.le_of_ble_eq_true rfl)⟩ hP hD hS (va_free (wc := [(a0, .inr (13, [.ref z0, .ref z1, .ref z2, .ref z3, .ref z4, .ref z5, .int 45, .ref z6, .ref z7, .ref z8, .int 0, .ref z9, .ref z10, .int 0, .int 0, .int 0, .int 0, .ref z11, .int 0, .null, .ref z12, .ref z13]))]) hD hS hA [0] rfl) (fun _ h => h) [0] [0] [] rfl rfl rfl rfl rfl (by decide) 0 (ci := 13) rfl rfl rfl (fun u_3 H locs hP hD hS => ?_)
  have hP : va_P D vwCl [(a0, .inr (13, [.ref z0, .ref z1, .ref z2, .ref z3, .ref z4, .ref z5, .int 45, .ref z6, .ref z7, .ref z8, .int 0, .ref z9, .ref z10, .int 0, .int 0, .int 1, .int 0, .ref z11, .int 0, .null, .ref z12, .ref z13]))] H := hP
  have hD : va_D A [(a0, .inr (13, [.ref z0, .ref z1, .ref z2, .ref z3, .ref z4, .ref z5, .int 45, .ref z6, .ref z7, .ref z8, .int 0, .ref z9, .ref z10, .int 0, .int 0, .int 1, .int 0, .ref z11, .int 0, .null, .ref z12, .ref z13]))] := hD
  refine W.widen (k := 0) (n := 0) (Nat.le_of_ble_eq_true rfl) (Nat.le_of_ble_eq_true rfl) ?_
  refine W.eq (g2 := F0 m 36 ls [.int 1]) rfl ?_
  refine lv_if_eq (tgt := 41) hx hb dX11_give_36 (by decide) (fun c => absurd c (by decide)) (fun _ => ?_)
  refine lv_iconst (v := 0) hx hb dX11_give_39 (by decide) ?_
  exact e_z hF hr (by decide) (Nat.le_of_ble_eq_true rfl) (Nat.le_of_ble_eq_true rfl) hS (qg_end hS (fun _ => 0) rfl [0] hP rfl (hD.sub [0] rfl rfl)) dX11_give_40

set_option maxHeartbeats 4000000 in
set_option maxRecDepth 100000 in
theorem c422_X10_give (l : Launch) (hlt : l.stackTraces = false) (a0 : Nat) (a1 : Nat) (z0 : Nat) (z1 : Nat) (z2 : Nat) (z3 : Nat) (z4 : Nat) (z5 : Nat) (z6 : Nat) (z7 : Nat) (z8 : Nat) (z9 : Nat) (z10 : Nat) (z11 : Nat) (z12 : Nat) (z13 : Nat) (z14 : Nat) (z15 : Nat) (p0 : Int32) (p1 : Int32) (f0 : ¬ p0 < 0) (f1 : ¬ 9 ≤ p0) (f2 : ¬ p1 < 0) (f3 : 9 ≤ p1) : CX l (.code yX10_give cX10_give 5 (some .boolean)) yX10_give { frames := 6, cells := 1, slots := 6, locals := 90 } [.ref a0, .int p0, .int p1, .int 0] (fun y => [(a0, .inr (12, [.ref z0, .ref z1, .ref z2, .ref z3, .ref z4, .ref z5, .ref a1, .ref z6, .ref z7, .ref z8, .ref z9, .ref z10, .ref z11, .ref z12, .ref z13])), (a1, .inr (2, [.ref z14, .ref z15]))]) (fun _ => []) "java/lang/IllegalArgumentException" := by
  refine mkX (by decide) (Nat.le_of_ble_eq_true rfl) ?_
  intro p e s m args below meth c D y A ls hF htb hAe hP hD hS hl
  have hF : FX p e s m args meth c cX10_give 5 RX10 "give" D y A := hF
  obtain ⟨⟨hx, hb, hml, hown, hts⟩, hev, heh, hA, hlk, hnm⟩ := id hF
  have hK := hev.1
  have hP : va_P D vwCl [(a0, .inr (12, [.ref z0, .ref z1, .ref z2, .ref z3, .ref z4, .ref z5, .ref a1, .ref z6, .ref z7, .ref z8, .ref z9, .ref z10, .ref z11, .ref z12, .ref z13])), (a1, .inr (2, [.ref z14, .ref z15]))] s.heap := hP
  have hD : va_D (fun _ => True) [(a0, .inr (12, [.ref z0, .ref z1, .ref z2, .ref z3, .ref z4, .ref z5, .ref a1, .ref z6, .ref z7, .ref z8, .ref z9, .ref z10, .ref z11, .ref z12, .ref z13])), (a1, .inr (2, [.ref z14, .ref z15]))] := hD
  have hl : lv_has ls 5 [(0, .ref a0), (1, .int p0), (2, .int p1), (3, .int 0)] := hl
  refine lv_aload_n hx hb dX10_give_0 rfl (lv_at hl 0 rfl) ?_
  refine va_get (D := D) (ci := 12) (v := .ref a1) (C := RX10) (T := TX10) (N := 15) hx hb hts inX10 hown hK hP 0 rfl rfl 6 (by decide) (hts _ wd_67) (fun _ h9 => h9) rfl dX10_give_1 ?_
  refine lv_iload_n hx hb dX10_give_4 rfl (lv_at hl 1 rfl) ?_
  refine cV (l := l) (yM := yX0_has) (C := RX0) (As := [.int p0]) (rest := []) (wr := [(a0, .inr (12, [.ref z0, .ref z1, .ref z2, .ref z3, .ref z4, .ref z5, .ref a1, .ref z6, .ref z7, .ref z8, .ref z9, .ref z10, .ref z11, .ref z12, .ref z13])), (a1, .inr (2, [.ref z14, .ref z15]))]) hF (c417_X0_has l a1 p0 f0 f1) gv_RX10_414 1 (by decide +kernel) rfl ⟨(Nat.le_of_ble_eq_true rfl), (Nat.le_of_ble_eq_true rfl)⟩ hl.1 rfl (Nat.le_of_ble_eq_true rfl) dX10_give_5 ⟨(Nat.le_of_ble_eq_true rfl), (Nat.le_of_ble_eq_true rfl)⟩ hP hD hS (pA hA hS) (fun _ _ => trivial) [] [] [0, 1] rfl rfl rfl rfl rfl (by decide) 1 (ci := 2) rfl rfl rfl (fun u_1 H locs hP hD hS => ?_)
  have hP : va_P D vwCl [(a0, .inr (12, [.ref z0, .ref z1, .ref z2, .ref z3, .ref z4, .ref z5, .ref a1, .ref z6, .ref z7, .ref z8, .ref z9, .ref z10, .ref z11, .ref z12, .ref z13])), (a1, .inr (2, [.ref z14, .ref z15]))] H := hP
  have hD : va_D (fun _ => True) [(a0, .inr (12, [.ref z0, .ref z1, .ref z2, .ref z3, .ref z4, .ref z5, .ref a1, .ref z6, .ref z7, .ref z8, .ref z9, .ref z10, .ref z11, .ref z12, .ref z13])), (a1, .inr (2, [.ref z14, .ref z15]))] := hD
  refine W.widen (k := 0) (n := 0) (Nat.le_of_ble_eq_true rfl) (Nat.le_of_ble_eq_true rfl) ?_
  refine W.eq (g2 := F0 m 8 ls [.int 1]) rfl ?_
  refine lv_if_eq (tgt := 27) hx hb dX10_give_8 (by decide) (fun c => absurd c (by decide)) (fun _ => ?_)
  refine lv_aload_n hx hb dX10_give_11 rfl (lv_at hl 0 rfl) ?_
  refine va_get (D := D) (ci := 12) (v := .ref a1) (C := RX10) (T := TX10) (N := 15) hx hb hts inX10 hown hK hP 0 rfl rfl 6 (by decide) (hts _ wd_67) (fun _ h9 => h9) rfl dX10_give_12 ?_
  refine lv_iload_n hx hb dX10_give_15 rfl (lv_at hl 2 rfl) ?_
  refine cV (l := l) (yM := yX0_has) (C := RX0) (As := [.int p1]) (rest := []) (wr := [(a0, .inr (12, [.ref z0, .ref z1, .ref z2, .ref z3, .ref z4, .ref z5, .ref a1, .ref z6, .ref z7, .ref z8, .ref z9, .ref z10, .ref z11, .ref z12, .ref z13])), (a1, .inr (2, [.ref z14, .ref z15]))]) hF (c412_X0_has l a1 p1 f2 f3) gv_RX10_414 1 (by decide +kernel) rfl ⟨(Nat.le_of_ble_eq_true rfl), (Nat.le_of_ble_eq_true rfl)⟩ hl.1 rfl (Nat.le_of_ble_eq_true rfl) dX10_give_16 ⟨(Nat.le_of_ble_eq_true rfl), (Nat.le_of_ble_eq_true rfl)⟩ hP hD hS (pA hA hS) (fun _ _ => trivial) [] [] [0, 1] rfl rfl rfl rfl rfl (by decide) 1 (ci := 2) rfl rfl rfl (fun u_2 H locs hP hD hS => ?_)
  have hP : va_P D vwCl [(a0, .inr (12, [.ref z0, .ref z1, .ref z2, .ref z3, .ref z4, .ref z5, .ref a1, .ref z6, .ref z7, .ref z8, .ref z9, .ref z10, .ref z11, .ref z12, .ref z13])), (a1, .inr (2, [.ref z14, .ref z15]))] H := hP
  have hD : va_D (fun _ => True) [(a0, .inr (12, [.ref z0, .ref z1, .ref z2, .ref z3, .ref z4, .ref z5, .ref a1, .ref z6, .ref z7, .ref z8, .ref z9, .ref z10, .ref z11, .ref z12, .ref z13])), (a1, .inr (2, [.ref z14, .ref z15]))] := hD
  refine W.widen (k := 0) (n := 0) (Nat.le_of_ble_eq_true rfl) (Nat.le_of_ble_eq_true rfl) ?_
  refine W.eq (g2 := F0 m 19 ls [.int 0]) rfl ?_
  refine lv_if_eq (tgt := 27) hx hb dX10_give_19 (by decide) (fun _ => ?_) (fun c => absurd (by decide) c)
  exact th_W (text := "no two such couples") hF htb hlt (by decide) wd_233 wd_234 (List.mem_of_getElem? (i := 32) rfl) exg2 exf2 exo2 hS hl.1 (Nat.le_of_ble_eq_true rfl) ⟨(Nat.le_of_ble_eq_true rfl), (Nat.le_of_ble_eq_true rfl)⟩ ⟨(Nat.le_of_ble_eq_true rfl), (Nat.le_of_ble_eq_true rfl)⟩ ⟨(Nat.le_of_ble_eq_true rfl), (Nat.le_of_ble_eq_true rfl)⟩ dX10_give_27 dX10_give_30 dX10_give_31 dX10_give_34 dX10_give_37

set_option maxHeartbeats 4000000 in
set_option maxRecDepth 100000 in
theorem c422_L_give (l : Launch) (hlt : l.stackTraces = false) (a0 : Nat) (a1 : Nat) (z0 : Nat) (z1 : Nat) (z2 : Nat) (z3 : Nat) (z4 : Nat) (z5 : Nat) (z6 : Nat) (z7 : Nat) (z8 : Nat) (z9 : Nat) (z10 : Nat) (z11 : Nat) (z12 : Nat) (z13 : Nat) (z14 : Nat) (z15 : Nat) (p0 : Int32) (p1 : Int32) (z16 : Nat) (f0 : ¬ p0 < 0) (f1 : ¬ 9 ≤ p0) (f2 : ¬ p1 < 0) (f3 : 9 ≤ p1) : CT l (.codeWith yL_give cL_give 6 (some .int) [(0, 19, 22, 13)]) yL_give { frames := 7, cells := 1, slots := 6, locals := 114 } [.ref a0, .int p0, .int p1, .int 0, .ref z16] (fun y => [(a0, .inr (12, [.ref z0, .ref z1, .ref z2, .ref z3, .ref z4, .ref z5, .ref a1, .ref z6, .ref z7, .ref z8, .ref z9, .ref z10, .ref z11, .ref z12, .ref z13])), (a1, .inr (2, [.ref z14, .ref z15]))]) (fun _ => []) (fun u => some (.int 1)) (fun y u => []) := by
  refine mkH (by decide) (Nat.le_of_ble_eq_true rfl) ?_
  intro p e s m args below meth c D y A ls hF htab hr hAe hP hD hS hl
  have hF : FX p e s m args meth c cL_give 6 RL "give" D y A := hF
  obtain ⟨⟨hx, hb, hml, hown, hts⟩, hev, heh, hA, hlk, hnm⟩ := id hF
  have hK := hev.1
  have hP : va_P D vwCl [(a0, .inr (12, [.ref z0, .ref z1, .ref z2, .ref z3, .ref z4, .ref z5, .ref a1, .ref z6, .ref z7, .ref z8, .ref z9, .ref z10, .ref z11, .ref z12, .ref z13])), (a1, .inr (2, [.ref z14, .ref z15]))] s.heap := hP
  have hD : va_D (fun _ => True) [(a0, .inr (12, [.ref z0, .ref z1, .ref z2, .ref z3, .ref z4, .ref z5, .ref a1, .ref z6, .ref z7, .ref z8, .ref z9, .ref z10, .ref z11, .ref z12, .ref z13])), (a1, .inr (2, [.ref z14, .ref z15]))] := hD
  have hl : lv_has ls 6 [(0, .ref a0), (1, .int p0), (2, .int p1), (3, .int 0), (4, .ref z16)] := hl
  refine lv_aload hx hb dL_give_0 (lv_at hl 4 rfl) ?_
  refine lv_iconst (v := 0) hx hb dL_give_2 (by decide) ?_
  refine lv_aload_n hx hb dL_give_3 rfl (lv_at hl 0 rfl) ?_
  refine lv_iload_n hx hb dL_give_4 rfl (lv_at hl 1 rfl) ?_
  refine lv_iload_n hx hb dL_give_5 rfl (lv_at hl 2 rfl) ?_
  refine lv_iload_n hx hb dL_give_6 rfl (lv_at hl 3 rfl) ?_
  refine hV (wr := [(a0, .inr (12, [.ref z0, .ref z1, .ref z2, .ref z3, .ref z4, .ref z5, .ref a1, .ref z6, .ref z7, .ref z8, .ref z9, .ref z10, .ref z11, .ref z12, .ref z13])), (a1, .inr (2, [.ref z14, .ref z15]))]) (name := "java/lang/IllegalArgumentException") (E0 := "java/lang/IllegalArgumentException") (l := l) (yM := yX10_give) (C := RX10) (As := [.int p0, .int p1, .int 0]) (rest := [.int 0, .ref z16]) hF (c422_X10_give l hlt a0 a1 z0 z1 z2 z3 z4 z5 z6 z7 z8 z9 z10 z11 z12 z13 z14 z15 p0 p1 f0 f1 f2 f3) gv_RL_152 3 (by decide +kernel) rfl ⟨(Nat.le_of_ble_eq_true rfl), (Nat.le_of_ble_eq_true rfl)⟩ hl.1 rfl (Nat.le_of_ble_eq_true rfl) dL_give_7 ⟨(Nat.le_of_ble_eq_true rfl), (Nat.le_of_ble_eq_true rfl)⟩ hP hD hS (pA hA hS) (fun _ _ => trivial) [0, 1] [] [0, 1] rfl rfl rfl rfl rfl (by decide) 0 (ci := 12) rfl rfl rfl [] ⟨0, 19, 22, 13⟩ [] htab (fun z hz => nomatch hz) (by decide) (by decide) wd_235 (by decide) (fun q9 H locs hP hD hS => ?_)
  have hP : va_P D vwCl [(a0, .inr (12, [.ref z0, .ref z1, .ref z2, .ref z3, .ref z4, .ref z5, .ref a1, .ref z6, .ref z7, .ref z8, .ref z9, .ref z10, .ref z11, .ref z12, .ref z13])), (a1, .inr (2, [.ref z14, .ref z15]))] H := hP
  have hD : va_D (fun _ => True) [(a0, .inr (12, [.ref z0, .ref z1, .ref z2, .ref z3, .ref z4, .ref z5, .ref a1, .ref z6, .ref z7, .ref z8, .ref z9, .ref z10, .ref z11, .ref z12, .ref z13])), (a1, .inr (2, [.ref z14, .ref z15]))] := hD
  refine W.widen (k := 1) (n := 6) (Nat.le_of_ble_eq_true rfl) (Nat.le_of_ble_eq_true rfl) ?_
  refine W.eq (g2 := F0 m 22 ls [.ref q9]) rfl ?_
  refine lv_astore (lv' := [(5, .ref q9), (0, .ref a0), (1, .int p0), (2, .int p1), (3, .int 0), (4, .ref z16)]) hx hb dL_give_22 hl (by decide) rfl (fun ls hl => ?_)
  refine lv_iconst (v := 1) hx hb dL_give_24 (by decide) ?_
  exact e_i hF hr (Nat.le_of_ble_eq_true rfl) (Nat.le_of_ble_eq_true rfl) hS (qg_end hS (fun _ => 0) rfl [] hP rfl d_nil) dL_give_25

set_option maxHeartbeats 4000000 in
set_option maxRecDepth 100000 in
theorem c424_X11_give (l : Launch) (a0 : Nat) (z0 : Nat) (z1 : Nat) (z2 : Nat) (z3 : Nat) (z4 : Nat) (z5 : Nat) (z6 : Nat) (z7 : Nat) (z8 : Nat) (z9 : Nat) (z10 : Nat) (z11 : Nat) (z12 : Nat) (z13 : Nat) (p0 : Int32) (p1 : Int32) (f0 : ¬ p0 < 0) (f1 : ¬ 9 ≤ p0) (f2 : ¬ p1 < 0) (f3 : 9 ≤ p1) : CT l (.code yX11_give cX11_give 5 (some .boolean)) yX11_give { frames := 1, cells := 0, slots := 0, locals := 23 } [.ref a0, .int p0, .int p1, .int 0] (fun y => [(a0, .inr (13, [.ref z0, .ref z1, .ref z2, .ref z3, .ref z4, .ref z5, .int 45, .ref z6, .ref z7, .ref z8, .int 0, .ref z9, .ref z10, .int 0, .int 0, .int 0, .int 0, .ref z11, .int 0, .null, .ref z12, .ref z13]))]) (fun y => [(a0, .inr (13, [.ref z0, .ref z1, .ref z2, .ref z3, .ref z4, .ref z5, .int 45, .ref z6, .ref z7, .ref z8, .int 0, .ref z9, .ref z10, .int 0, .int 0, .int 0, .int 0, .ref z11, .int 0, .null, .ref z12, .ref z13]))]) (fun u => some (.int 0)) (fun y u => [(a0, .inr (13, [.ref z0, .ref z1, .ref z2, .ref z3, .ref z4, .ref z5, .int 45, .ref z6, .ref z7, .ref z8, .int 0, .ref z9, .ref z10, .int 0, .int 0, .int 1, .int 0, .ref z11, .int 0, .null, .ref z12, .ref z13]))]) := by
  refine mkM (by decide) (Nat.le_of_ble_eq_true rfl) ?_
  intro p e s m args below meth c D y A ls hF hr hAe hP hD hS hl
  have hF : FX p e s m args meth c cX11_give 5 RX11 "give" D y A := hF
  obtain ⟨⟨hx, hb, hml, hown, hts⟩, hev, heh, hA, hlk, hnm⟩ := id hF
  have hK := hev.1
  have hP : va_P D vwCl [(a0, .inr (13, [.ref z0, .ref z1, .ref z2, .ref z3, .ref z4, .ref z5, .int 45, .ref z6, .ref z7, .ref z8, .int 0, .ref z9, .ref z10, .int 0, .int 0, .int 0, .int 0, .ref z11, .int 0, .null, .ref z12, .ref z13]))] s.heap := hP
  have hD : va_D A [(a0, .inr (13, [.ref z0, .ref z1, .ref z2, .ref z3, .ref z4, .ref z5, .int 45, .ref z6, .ref z7, .ref z8, .int 0, .ref z9, .ref z10, .int 0, .int 0, .int 0, .int 0, .ref z11, .int 0, .null, .ref z12, .ref z13]))] := by rw [← hAe]; exact hD.self
  have hl : lv_has ls 5 [(0, .ref a0), (1, .int p0), (2, .int p1), (3, .int 0)] := hl
  refine lv_aload_n hx hb dX11_give_0 rfl (lv_at hl 0 rfl) ?_
  refine lv_iload_n hx hb dX11_give_1 rfl (lv_at hl 1 rfl) ?_
  refine lv_iconst (v := 0) hx hb dX11_give_2 (by decide) ?_
  refine lv_bipush (v := 8) hx hb dX11_give_3 (by decide) ?_
  refine cS (l := l) (yM := yX11_in) (As := [.int p0, .int 0, .int 8]) (rest := [.ref a0]) (wr := [(a0, .inr (13, [.ref z0, .ref z1, .ref z2, .ref z3, .ref z4, .ref z5, .int 45, .ref z6, .ref z7, .ref z8, .int 0, .ref z9, .ref z10, .int 0, .int 0, .int 0, .int 0, .ref z11, .int 0, .null, .ref z12, .ref z13]))]) hF (c420_X11_in l p0 f0 f1) gs_RX11_78 3 (by decide +kernel) rfl ⟨(Nat.le_of_ble_eq_true rfl), (Nat.le_of_ble_eq_true rfl)⟩ hl.1 rfl (Nat.le_of_ble_eq_true rfl) dX11_give_5 ⟨(Nat.le_of_ble_eq_true rfl), (Nat.le_of_ble_eq_true rfl)⟩ hP hD hS (pA hA hS) (fun _ h => h) [] [] [0] rfl rfl rfl rfl rfl (by decide) (fun u_1 H locs hP hD hS => ?_)
  have hP : va_P D vwCl [(a0, .inr (13, [.ref z0, .ref z1, .ref z2, .ref z3, .ref z4, .ref z5, .int 45, .ref z6, .ref z7, .ref z8, .int 0, .ref z9, .ref z10, .int 0, .int 0, .int 0, .int 0, .ref z11, .int 0, .null, .ref z12, .ref z13]))] H := hP
  have hD : va_D A [(a0, .inr (13, [.ref z0, .ref z1, .ref z2, .ref z3, .ref z4, .ref z5, .int 45, .ref z6, .ref z7, .ref z8, .int 0, .ref z9, .ref z10, .int 0, .int 0, .int 0, .int 0, .ref z11, .int 0, .null, .ref z12, .ref z13]))] := hD
  refine W.widen (k := 0) (n := 0) (Nat.le_of_ble_eq_true rfl) (Nat.le_of_ble_eq_true rfl) ?_
  refine W.eq (g2 := F0 m 8 ls [.int 1, .ref a0]) rfl ?_
  refine lv_if_eq (tgt := 26) hx hb dX11_give_8 (by decide) (fun c => absurd c (by decide)) (fun _ => ?_)
  refine lv_iload_n hx hb dX11_give_11 rfl (lv_at hl 2 rfl) ?_
  refine lv_iconst (v := 0) hx hb dX11_give_12 (by decide) ?_
  refine lv_bipush (v := 8) hx hb dX11_give_13 (by decide) ?_
  refine cS (l := l) (yM := yX11_in) (As := [.int p1, .int 0, .int 8]) (rest := [.ref a0]) (wr := [(a0, .inr (13, [.ref z0, .ref z1, .ref z2, .ref z3, .ref z4, .ref z5, .int 45, .ref z6, .ref z7, .ref z8, .int 0, .ref z9, .ref z10, .int 0, .int 0, .int 0, .int 0, .ref z11, .int 0, .null, .ref z12, .ref z13]))]) hF (c415_X11_in l p1 f2 f3) gs_RX11_78 3 (by decide +kernel) rfl ⟨(Nat.le_of_ble_eq_true rfl), (Nat.le_of_ble_eq_true rfl)⟩ hl.1 rfl (Nat.le_of_ble_eq_true rfl) dX11_give_15 ⟨(Nat.le_of_ble_eq_true rfl), (Nat.le_of_ble_eq_true rfl)⟩ hP hD hS (pA hA hS) (fun _ h => h) [] [] [0] rfl rfl rfl rfl rfl (by decide) (fun u_2 H locs hP hD hS => ?_)
  have hP : va_P D vwCl [(a0, .inr (13, [.ref z0, .ref z1, .ref z2, .ref z3, .ref z4, .ref z5, .int 45, .ref z6, .ref z7, .ref z8, .int 0, .ref z9, .ref z10, .int 0, .int 0, .int 0, .int 0, .ref z11, .int 0, .null, .ref z12, .ref z13]))] H := hP
  have hD : va_D A [(a0, .inr (13, [.ref z0, .ref z1, .ref z2, .ref z3, .ref z4, .ref z5, .int 45, .ref z6, .ref z7, .ref z8, .int 0, .ref z9, .ref z10, .int 0, .int 0, .int 0, .int 0, .ref z11, .int 0, .null, .ref z12, .ref z13]))] := hD
  refine W.widen (k := 0) (n := 0) (Nat.le_of_ble_eq_true rfl) (Nat.le_of_ble_eq_true rfl) ?_
  refine W.eq (g2 := F0 m 18 ls [.int 0, .ref a0]) rfl ?_
  refine lv_if_eq (tgt := 26) hx hb dX11_give_18 (by decide) (fun _ => ?_) (fun c => absurd (by decide) c)
  refine lv_iconst (v := 1) hx hb dX11_give_26 (by decide) ?_
  refine lv_goto (tgt := 31) hx hb dX11_give_27 (by decide) ?_
  refine lv_iconst (v := 0) hx hb dX11_give_31 (by decide) ?_
  refine lv_iconst (v := 0) hx hb dX11_give_32 (by decide) ?_
  refine cV (l := l) (yM := yX11_fails) (C := RX11) (As := [.int 1, .int 0, .int 0]) (rest := []) (wr := []) hF (c67_X11_fails l a0 z0 z1 z2 z3 z4 z5 z6 z7 z8 z9 z10 z11 z12 z13) gv_RX11_128 3 (by decide +kernel) rfl ⟨(Nat.le_of_ble_eq_true rfl), (Nat.le_of_ble_eq_true rfl)⟩ hl.1 rfl (Nat.le_of_ble_eq_true rfl) dX11_give_33 ⟨(Nat.le_of_ble_eq_true rfl), (Nat.le_of_ble_eq_true rfl)⟩ hP hD hS (va_free (wc := [(a0, .inr (13, [.ref z0, .ref z1, .ref z2, .ref z3, .ref z4, .ref z5, .int 45, .ref z6, .ref z7, .ref z8, .int 0, .ref z9, .ref z10, .int 0, .int 0, .int 0, .int 0, .ref z11, .int 0, .null, .ref z12, .ref z13]))]) hD hS hA [0] rfl) (fun _ h => h) [0] [0] [] rfl rfl rfl rfl rfl (by decide) 0 (ci := 13) rfl rfl rfl (fun u_3 H locs hP hD hS => ?_)
  have hP : va_P D vwCl [(a0, .inr (13, [.ref z0, .ref z1, .ref z2, .ref z3, .ref z4, .ref z5, .int 45, .ref z6, .ref z7, .ref z8, .int 0, .ref z9, .ref z10, .int 0, .int 0, .int 1, .int 0, .ref z11, .int 0, .null, .ref z12, .ref z13]))] H := hP
  have hD : va_D A [(a0, .inr (13, [.ref z0, .ref z1, .ref z2, .ref z3, .ref z4, .ref z5, .int 45, .ref z6, .ref z7, .ref z8, .int 0, .ref z9, .ref z10, .int 0, .int 0, .int 1, .int 0, .ref z11, .int 0, .null, .ref z12, .ref z13]))] := hD
  refine W.widen (k := 0) (n := 0) (Nat.le_of_ble_eq_true rfl) (Nat.le_of_ble_eq_true rfl) ?_
  refine W.eq (g2 := F0 m 36 ls [.int 1]) rfl ?_
  refine lv_if_eq (tgt := 41) hx hb dX11_give_36 (by decide) (fun c => absurd c (by decide)) (fun _ => ?_)
  refine lv_iconst (v := 0) hx hb dX11_give_39 (by decide) ?_
  exact e_z hF hr (by decide) (Nat.le_of_ble_eq_true rfl) (Nat.le_of_ble_eq_true rfl) hS (qg_end hS (fun _ => 0) rfl [0] hP rfl (hD.sub [0] rfl rfl)) dX11_give_40

set_option maxHeartbeats 4000000 in
set_option maxRecDepth 100000 in
theorem c425_X10_give (l : Launch) (hlt : l.stackTraces = false) (a0 : Nat) (a1 : Nat) (z0 : Nat) (z1 : Nat) (z2 : Nat) (z3 : Nat) (z4 : Nat) (z5 : Nat) (z6 : Nat) (z7 : Nat) (z8 : Nat) (z9 : Nat) (z10 : Nat) (z11 : Nat) (z12 : Nat) (z13 : Nat) (z14 : Nat) (z15 : Nat) (p0 : Int32) (p1 : Int32) (f0 : ¬ p0 < 0) (f1 : ¬ 9 ≤ p0) (f2 : ¬ p1 < 0) (f3 : ¬ 9 ≤ p1) (f4 : p0 = p1) : CX l (.code yX10_give cX10_give 5 (some .boolean)) yX10_give { frames := 6, cells := 1, slots := 6, locals := 90 } [.ref a0, .int p0, .int p1, .int 0] (fun y => [(a0, .inr (12, [.ref z0, .ref z1, .ref z2, .ref z3, .ref z4, .ref z5, .ref a1, .ref z6, .ref z7, .ref z8, .ref z9, .ref z10, .ref z11, .ref z12, .ref z13])), (a1, .inr (2, [.ref z14, .ref z15]))]) (fun _ => []) "java/lang/IllegalArgumentException" := by
  refine mkX (by decide) (Nat.le_of_ble_eq_true rfl) ?_
  intro p e s m args below meth c D y A ls hF htb hAe hP hD hS hl
  have hF : FX p e s m args meth c cX10_give 5 RX10 "give" D y A := hF
  obtain ⟨⟨hx, hb, hml, hown, hts⟩, hev, heh, hA, hlk, hnm⟩ := id hF
  have hK := hev.1
  have hP : va_P D vwCl [(a0, .inr (12, [.ref z0, .ref z1, .ref z2, .ref z3, .ref z4, .ref z5, .ref a1, .ref z6, .ref z7, .ref z8, .ref z9, .ref z10, .ref z11, .ref z12, .ref z13])), (a1, .inr (2, [.ref z14, .ref z15]))] s.heap := hP
  have hD : va_D (fun _ => True) [(a0, .inr (12, [.ref z0, .ref z1, .ref z2, .ref z3, .ref z4, .ref z5, .ref a1, .ref z6, .ref z7, .ref z8, .ref z9, .ref z10, .ref z11, .ref z12, .ref z13])), (a1, .inr (2, [.ref z14, .ref z15]))] := hD
  have hl : lv_has ls 5 [(0, .ref a0), (1, .int p0), (2, .int p1), (3, .int 0)] := hl
  refine lv_aload_n hx hb dX10_give_0 rfl (lv_at hl 0 rfl) ?_
  refine va_get (D := D) (ci := 12) (v := .ref a1) (C := RX10) (T := TX10) (N := 15) hx hb hts inX10 hown hK hP 0 rfl rfl 6 (by decide) (hts _ wd_67) (fun _ h9 => h9) rfl dX10_give_1 ?_
  refine lv_iload_n hx hb dX10_give_4 rfl (lv_at hl 1 rfl) ?_
  refine cV (l := l) (yM := yX0_has) (C := RX0) (As := [.int p0]) (rest := []) (wr := [(a0, .inr (12, [.ref z0, .ref z1, .ref z2, .ref z3, .ref z4, .ref z5, .ref a1, .ref z6, .ref z7, .ref z8, .ref z9, .ref z10, .ref z11, .ref z12, .ref z13])), (a1, .inr (2, [.ref z14, .ref z15]))]) hF (c417_X0_has l a1 p0 f0 f1) gv_RX10_414 1 (by decide +kernel) rfl ⟨(Nat.le_of_ble_eq_true rfl), (Nat.le_of_ble_eq_true rfl)⟩ hl.1 rfl (Nat.le_of_ble_eq_true rfl) dX10_give_5 ⟨(Nat.le_of_ble_eq_true rfl), (Nat.le_of_ble_eq_true rfl)⟩ hP hD hS (pA hA hS) (fun _ _ => trivial) [] [] [0, 1] rfl rfl rfl rfl rfl (by decide) 1 (ci := 2) rfl rfl rfl (fun u_1 H locs hP hD hS => ?_)
  have hP : va_P D vwCl [(a0, .inr (12, [.ref z0, .ref z1, .ref z2, .ref z3, .ref z4, .ref z5, .ref a1, .ref z6, .ref z7, .ref z8, .ref z9, .ref z10, .ref z11, .ref z12, .ref z13])), (a1, .inr (2, [.ref z14, .ref z15]))] H := hP
  have hD : va_D (fun _ => True) [(a0, .inr (12, [.ref z0, .ref z1, .ref z2, .ref z3, .ref z4, .ref z5, .ref a1, .ref z6, .ref z7, .ref z8, .ref z9, .ref z10, .ref z11, .ref z12, .ref z13])), (a1, .inr (2, [.ref z14, .ref z15]))] := hD
  refine W.widen (k := 0) (n := 0) (Nat.le_of_ble_eq_true rfl) (Nat.le_of_ble_eq_true rfl) ?_
  refine W.eq (g2 := F0 m 8 ls [.int 1]) rfl ?_
  refine lv_if_eq (tgt := 27) hx hb dX10_give_8 (by decide) (fun c => absurd c (by decide)) (fun _ => ?_)
  refine lv_aload_n hx hb dX10_give_11 rfl (lv_at hl 0 rfl) ?_
  refine va_get (D := D) (ci := 12) (v := .ref a1) (C := RX10) (T := TX10) (N := 15) hx hb hts inX10 hown hK hP 0 rfl rfl 6 (by decide) (hts _ wd_67) (fun _ h9 => h9) rfl dX10_give_12 ?_
  refine lv_iload_n hx hb dX10_give_15 rfl (lv_at hl 2 rfl) ?_
  refine cV (l := l) (yM := yX0_has) (C := RX0) (As := [.int p1]) (rest := []) (wr := [(a0, .inr (12, [.ref z0, .ref z1, .ref z2, .ref z3, .ref z4, .ref z5, .ref a1, .ref z6, .ref z7, .ref z8, .ref z9, .ref z10, .ref z11, .ref z12, .ref z13])), (a1, .inr (2, [.ref z14, .ref z15]))]) hF (c417_X0_has l a1 p1 f2 f3) gv_RX10_414 1 (by decide +kernel) rfl ⟨(Nat.le_of_ble_eq_true rfl), (Nat.le_of_ble_eq_true rfl)⟩ hl.1 rfl (Nat.le_of_ble_eq_true rfl) dX10_give_16 ⟨(Nat.le_of_ble_eq_true rfl), (Nat.le_of_ble_eq_true rfl)⟩ hP hD hS (pA hA hS) (fun _ _ => trivial) [] [] [0, 1] rfl rfl rfl rfl rfl (by decide) 1 (ci := 2) rfl rfl rfl (fun u_2 H locs hP hD hS => ?_)
  have hP : va_P D vwCl [(a0, .inr (12, [.ref z0, .ref z1, .ref z2, .ref z3, .ref z4, .ref z5, .ref a1, .ref z6, .ref z7, .ref z8, .ref z9, .ref z10, .ref z11, .ref z12, .ref z13])), (a1, .inr (2, [.ref z14, .ref z15]))] H := hP
  have hD : va_D (fun _ => True) [(a0, .inr (12, [.ref z0, .ref z1, .ref z2, .ref z3, .ref z4, .ref z5, .ref a1, .ref z6, .ref z7, .ref z8, .ref z9, .ref z10, .ref z11, .ref z12, .ref z13])), (a1, .inr (2, [.ref z14, .ref z15]))] := hD
  refine W.widen (k := 0) (n := 0) (Nat.le_of_ble_eq_true rfl) (Nat.le_of_ble_eq_true rfl) ?_
  refine W.eq (g2 := F0 m 19 ls [.int 1]) rfl ?_
  refine lv_if_eq (tgt := 27) hx hb dX10_give_19 (by decide) (fun c => absurd c (by decide)) (fun _ => ?_)
  refine lv_iload_n hx hb dX10_give_22 rfl (lv_at hl 1 rfl) ?_
  refine lv_iload_n hx hb dX10_give_23 rfl (lv_at hl 2 rfl) ?_
  refine lv_icmp_ne (tgt := 38) hx hb dX10_give_24 (by decide) (fun c => absurd f4 c) (fun _ => ?_)
  exact th_W (text := "no two such couples") hF htb hlt (by decide) wd_233 wd_234 (List.mem_of_getElem? (i := 32) rfl) exg2 exf2 exo2 hS hl.1 (Nat.le_of_ble_eq_true rfl) ⟨(Nat.le_of_ble_eq_true rfl), (Nat.le_of_ble_eq_true rfl)⟩ ⟨(Nat.le_of_ble_eq_true rfl), (Nat.le_of_ble_eq_true rfl)⟩ ⟨(Nat.le_of_ble_eq_true rfl), (Nat.le_of_ble_eq_true rfl)⟩ dX10_give_27 dX10_give_30 dX10_give_31 dX10_give_34 dX10_give_37

set_option maxHeartbeats 4000000 in
set_option maxRecDepth 100000 in
theorem c425_L_give (l : Launch) (hlt : l.stackTraces = false) (a0 : Nat) (a1 : Nat) (z0 : Nat) (z1 : Nat) (z2 : Nat) (z3 : Nat) (z4 : Nat) (z5 : Nat) (z6 : Nat) (z7 : Nat) (z8 : Nat) (z9 : Nat) (z10 : Nat) (z11 : Nat) (z12 : Nat) (z13 : Nat) (z14 : Nat) (z15 : Nat) (p0 : Int32) (p1 : Int32) (z16 : Nat) (f0 : ¬ p0 < 0) (f1 : ¬ 9 ≤ p0) (f2 : ¬ p1 < 0) (f3 : ¬ 9 ≤ p1) (f4 : p0 = p1) : CT l (.codeWith yL_give cL_give 6 (some .int) [(0, 19, 22, 13)]) yL_give { frames := 7, cells := 1, slots := 6, locals := 114 } [.ref a0, .int p0, .int p1, .int 0, .ref z16] (fun y => [(a0, .inr (12, [.ref z0, .ref z1, .ref z2, .ref z3, .ref z4, .ref z5, .ref a1, .ref z6, .ref z7, .ref z8, .ref z9, .ref z10, .ref z11, .ref z12, .ref z13])), (a1, .inr (2, [.ref z14, .ref z15]))]) (fun _ => []) (fun u => some (.int 1)) (fun y u => []) := by
  refine mkH (by decide) (Nat.le_of_ble_eq_true rfl) ?_
  intro p e s m args below meth c D y A ls hF htab hr hAe hP hD hS hl
  have hF : FX p e s m args meth c cL_give 6 RL "give" D y A := hF
  obtain ⟨⟨hx, hb, hml, hown, hts⟩, hev, heh, hA, hlk, hnm⟩ := id hF
  have hK := hev.1
  have hP : va_P D vwCl [(a0, .inr (12, [.ref z0, .ref z1, .ref z2, .ref z3, .ref z4, .ref z5, .ref a1, .ref z6, .ref z7, .ref z8, .ref z9, .ref z10, .ref z11, .ref z12, .ref z13])), (a1, .inr (2, [.ref z14, .ref z15]))] s.heap := hP
  have hD : va_D (fun _ => True) [(a0, .inr (12, [.ref z0, .ref z1, .ref z2, .ref z3, .ref z4, .ref z5, .ref a1, .ref z6, .ref z7, .ref z8, .ref z9, .ref z10, .ref z11, .ref z12, .ref z13])), (a1, .inr (2, [.ref z14, .ref z15]))] := hD
  have hl : lv_has ls 6 [(0, .ref a0), (1, .int p0), (2, .int p1), (3, .int 0), (4, .ref z16)] := hl
  refine lv_aload hx hb dL_give_0 (lv_at hl 4 rfl) ?_
  refine lv_iconst (v := 0) hx hb dL_give_2 (by decide) ?_
  refine lv_aload_n hx hb dL_give_3 rfl (lv_at hl 0 rfl) ?_
  refine lv_iload_n hx hb dL_give_4 rfl (lv_at hl 1 rfl) ?_
  refine lv_iload_n hx hb dL_give_5 rfl (lv_at hl 2 rfl) ?_
  refine lv_iload_n hx hb dL_give_6 rfl (lv_at hl 3 rfl) ?_
  refine hV (wr := [(a0, .inr (12, [.ref z0, .ref z1, .ref z2, .ref z3, .ref z4, .ref z5, .ref a1, .ref z6, .ref z7, .ref z8, .ref z9, .ref z10, .ref z11, .ref z12, .ref z13])), (a1, .inr (2, [.ref z14, .ref z15]))]) (name := "java/lang/IllegalArgumentException") (E0 := "java/lang/IllegalArgumentException") (l := l) (yM := yX10_give) (C := RX10) (As := [.int p0, .int p1, .int 0]) (rest := [.int 0, .ref z16]) hF (c425_X10_give l hlt a0 a1 z0 z1 z2 z3 z4 z5 z6 z7 z8 z9 z10 z11 z12 z13 z14 z15 p0 p1 f0 f1 f2 f3 f4) gv_RL_152 3 (by decide +kernel) rfl ⟨(Nat.le_of_ble_eq_true rfl), (Nat.le_of_ble_eq_true rfl)⟩ hl.1 rfl (Nat.le_of_ble_eq_true rfl) dL_give_7 ⟨(Nat.le_of_ble_eq_true rfl), (Nat.le_of_ble_eq_true rfl)⟩ hP hD hS (pA hA hS) (fun _ _ => trivial) [0, 1] [] [0, 1] rfl rfl rfl rfl rfl (by decide) 0 (ci := 12) rfl rfl rfl [] ⟨0, 19, 22, 13⟩ [] htab (fun z hz => nomatch hz) (by decide) (by decide) wd_235 (by decide) (fun q9 H locs hP hD hS => ?_)
  have hP : va_P D vwCl [(a0, .inr (12, [.ref z0, .ref z1, .ref z2, .ref z3, .ref z4, .ref z5, .ref a1, .ref z6, .ref z7, .ref z8, .ref z9, .ref z10, .ref z11, .ref z12, .ref z13])), (a1, .inr (2, [.ref z14, .ref z15]))] H := hP
  have hD : va_D (fun _ => True) [(a0, .inr (12, [.ref z0, .ref z1, .ref z2, .ref z3, .ref z4, .ref z5, .ref a1, .ref z6, .ref z7, .ref z8, .ref z9, .ref z10, .ref z11, .ref z12, .ref z13])), (a1, .inr (2, [.ref z14, .ref z15]))] := hD
  refine W.widen (k := 1) (n := 6) (Nat.le_of_ble_eq_true rfl) (Nat.le_of_ble_eq_true rfl) ?_
  refine W.eq (g2 := F0 m 22 ls [.ref q9]) rfl ?_
  refine lv_astore (lv' := [(5, .ref q9), (0, .ref a0), (1, .int p0), (2, .int p1), (3, .int 0), (4, .ref z16)]) hx hb dL_give_22 hl (by decide) rfl (fun ls hl => ?_)
  refine lv_iconst (v := 1) hx hb dL_give_24 (by decide) ?_
  exact e_i hF hr (Nat.le_of_ble_eq_true rfl) (Nat.le_of_ble_eq_true rfl) hS (qg_end hS (fun _ => 0) rfl [] hP rfl d_nil) dL_give_25

set_option maxHeartbeats 4000000 in
set_option maxRecDepth 100000 in
theorem c427_X11_give (l : Launch) (a0 : Nat) (z0 : Nat) (z1 : Nat) (z2 : Nat) (z3 : Nat) (z4 : Nat) (z5 : Nat) (z6 : Nat) (z7 : Nat) (z8 : Nat) (z9 : Nat) (z10 : Nat) (z11 : Nat) (z12 : Nat) (z13 : Nat) (p0 : Int32) (p1 : Int32) (f0 : ¬ p0 < 0) (f1 : ¬ 9 ≤ p0) (f2 : ¬ p1 < 0) (f3 : ¬ 9 ≤ p1) (f4 : p0 = p1) : CT l (.code yX11_give cX11_give 5 (some .boolean)) yX11_give { frames := 1, cells := 0, slots := 0, locals := 23 } [.ref a0, .int p0, .int p1, .int 0] (fun y => [(a0, .inr (13, [.ref z0, .ref z1, .ref z2, .ref z3, .ref z4, .ref z5, .int 45, .ref z6, .ref z7, .ref z8, .int 0, .ref z9, .ref z10, .int 0, .int 0, .int 0, .int 0, .ref z11, .int 0, .null, .ref z12, .ref z13]))]) (fun y => [(a0, .inr (13, [.ref z0, .ref z1, .ref z2, .ref z3, .ref z4, .ref z5, .int 45, .ref z6, .ref z7, .ref z8, .int 0, .ref z9, .ref z10, .int 0, .int 0, .int 0, .int 0, .ref z11, .int 0, .null, .ref z12, .ref z13]))]) (fun u => some (.int 0)) (fun y u => [(a0, .inr (13, [.ref z0, .ref z1, .ref z2, .ref z3, .ref z4, .ref z5, .int 45, .ref z6, .ref z7, .ref z8, .int 0, .ref z9, .ref z10, .int 0, .int 0, .int 1, .int 0, .ref z11, .int 0, .null, .ref z12, .ref z13]))]) := by
  refine mkM (by decide) (Nat.le_of_ble_eq_true rfl) ?_
  intro p e s m args below meth c D y A ls hF hr hAe hP hD hS hl
  have hF : FX p e s m args meth c cX11_give 5 RX11 "give" D y A := hF
  obtain ⟨⟨hx, hb, hml, hown, hts⟩, hev, heh, hA, hlk, hnm⟩ := id hF
  have hK := hev.1
  have hP : va_P D vwCl [(a0, .inr (13, [.ref z0, .ref z1, .ref z2, .ref z3, .ref z4, .ref z5, .int 45, .ref z6, .ref z7, .ref z8, .int 0, .ref z9, .ref z10, .int 0, .int 0, .int 0, .int 0, .ref z11, .int 0, .null, .ref z12, .ref z13]))] s.heap := hP
  have hD : va_D A [(a0, .inr (13, [.ref z0, .ref z1, .ref z2, .ref z3, .ref z4, .ref z5, .int 45, .ref z6, .ref z7, .ref z8, .int 0, .ref z9, .ref z10, .int 0, .int 0, .int 0, .int 0, .ref z11, .int 0, .null, .ref z12, .ref z13]))] := by rw [← hAe]; exact hD.self
  have hl : lv_has ls 5 [(0, .ref a0), (1, .int p0), (2, .int p1), (3, .int 0)] := hl
  refine lv_aload_n hx hb dX11_give_0 rfl (lv_at hl 0 rfl) ?_
  refine lv_iload_n hx hb dX11_give_1 rfl (lv_at hl 1 rfl) ?_
  refine lv_iconst (v := 0) hx hb dX11_give_2 (by decide) ?_
  refine lv_bipush (v := 8) hx hb dX11_give_3 (by decide) ?_
  refine cS (l := l) (yM := yX11_in) (As := [.int p0, .int 0, .int 8]) (rest := [.ref a0]) (wr := [(a0, .inr (13, [.ref z0, .ref z1, .ref z2, .ref z3, .ref z4, .ref z5, .int 45, .ref z6, .ref z7, .ref z8, .int 0, .ref z9, .ref z10, .int 0, .int 0, .int 0, .int 0, .ref z11, .int 0, .null, .ref z12, .ref z13]))]) hF (c420_X11_in l p0 f0 f1) gs_RX11_78 3 (by decide +kernel) rfl ⟨(Nat.le_of_ble_eq_true rfl), (Nat.le_of_ble_eq_true rfl)⟩ hl.1 rfl (Nat.le_of_ble_eq_true rfl) dX11_give_5 ⟨(Nat.le_of_ble_eq_true rfl), (Nat.le_of_ble_eq_true rfl)⟩ hP hD hS (pA hA hS) (fun _ h => h) [] [] [0] rfl rfl rfl rfl rfl (by decide) (fun u_1 H locs hP hD hS => ?_)
  have hP : va_P D vwCl [(a0, .inr (13, [.ref z0, .ref z1, .ref z2, .ref z3, .ref z4, .ref z5, .int 45, .ref z6, .ref z7, .ref z8, .int 0, .ref z9, .ref z10, .int 0, .int 0, .int 0, .int 0, .ref z11, .int 0, .null, .ref z12, .ref z13]))] H := hP
  have hD : va_D A [(a0, .inr (13, [.ref z0, .ref z1, .ref z2, .ref z3, .ref z4, .ref z5, .int 45, .ref z6, .ref z7, .ref z8, .int 0, .ref z9, .ref z10, .int 0, .int 0, .int 0, .int 0, .ref z11, .int 0, .null, .ref z12, .ref z13]))] := hD
  refine W.widen (k := 0) (n := 0) (Nat.le_of_ble_eq_true rfl) (Nat.le_of_ble_eq_true rfl) ?_
  refine W.eq (g2 := F0 m 8 ls [.int 1, .ref a0]) rfl ?_
  refine lv_if_eq (tgt := 26) hx hb dX11_give_8 (by decide) (fun c => absurd c (by decide)) (fun _ => ?_)
  refine lv_iload_n hx hb dX11_give_11 rfl (lv_at hl 2 rfl) ?_
  refine lv_iconst (v := 0) hx hb dX11_give_12 (by decide) ?_
  refine lv_bipush (v := 8) hx hb dX11_give_13 (by decide) ?_
  refine cS (l := l) (yM := yX11_in) (As := [.int p1, .int 0, .int 8]) (rest := [.ref a0]) (wr := [(a0, .inr (13, [.ref z0, .ref z1, .ref z2, .ref z3, .ref z4, .ref z5, .int 45, .ref z6, .ref z7, .ref z8, .int 0, .ref z9, .ref z10, .int 0, .int 0, .int 0, .int 0, .ref z11, .int 0, .null, .ref z12, .ref z13]))]) hF (c420_X11_in l p1 f2 f3) gs_RX11_78 3 (by decide +kernel) rfl ⟨(Nat.le_of_ble_eq_true rfl), (Nat.le_of_ble_eq_true rfl)⟩ hl.1 rfl (Nat.le_of_ble_eq_true rfl) dX11_give_15 ⟨(Nat.le_of_ble_eq_true rfl), (Nat.le_of_ble_eq_true rfl)⟩ hP hD hS (pA hA hS) (fun _ h => h) [] [] [0] rfl rfl rfl rfl rfl (by decide) (fun u_2 H locs hP hD hS => ?_)
  have hP : va_P D vwCl [(a0, .inr (13, [.ref z0, .ref z1, .ref z2, .ref z3, .ref z4, .ref z5, .int 45, .ref z6, .ref z7, .ref z8, .int 0, .ref z9, .ref z10, .int 0, .int 0, .int 0, .int 0, .ref z11, .int 0, .null, .ref z12, .ref z13]))] H := hP
  have hD : va_D A [(a0, .inr (13, [.ref z0, .ref z1, .ref z2, .ref z3, .ref z4, .ref z5, .int 45, .ref z6, .ref z7, .ref z8, .int 0, .ref z9, .ref z10, .int 0, .int 0, .int 0, .int 0, .ref z11, .int 0, .null, .ref z12, .ref z13]))] := hD
  refine W.widen (k := 0) (n := 0) (Nat.le_of_ble_eq_true rfl) (Nat.le_of_ble_eq_true rfl) ?_
  refine W.eq (g2 := F0 m 18 ls [.int 1, .ref a0]) rfl ?_
  refine lv_if_eq (tgt := 26) hx hb dX11_give_18 (by decide) (fun c => absurd c (by decide)) (fun _ => ?_)
  refine lv_iload_n hx hb dX11_give_21 rfl (lv_at hl 1 rfl) ?_
  refine lv_iload_n hx hb dX11_give_22 rfl (lv_at hl 2 rfl) ?_
  refine lv_icmp_ne (tgt := 30) hx hb dX11_give_23 (by decide) (fun c => absurd f4 c) (fun _ => ?_)
  refine lv_iconst (v := 1) hx hb dX11_give_26 (by decide) ?_
  refine lv_goto (tgt := 31) hx hb dX11_give_27 (by decide) ?_
  refine lv_iconst (v := 0) hx hb dX11_give_31 (by decide) ?_
  refine lv_iconst (v := 0) hx hb dX11_give_32 (by decide) ?_
  refine cV (l := l) (yM := yX11_fails) (C := RX11) (As := [.int 1, .int 0, .int 0]) (rest := []) (wr := []) hF (c67_X11_fails l a0 z0 z1 z2 z3 z4 z5 z6 z7 z8 z9 z10 z11 z12 z13) gv_RX11_128 3 (by decide +kernel) rfl ⟨(Nat.le_of_ble_eq_true rfl), (Nat.le_of_ble_eq_true rfl)⟩ hl.1 rfl (Nat.le_of_ble_eq_true rfl) dX11_give_33 ⟨(Nat.le_of_ble_eq_true rfl), (Nat.le_of_ble_eq_true rfl)⟩ hP hD hS (va_free (wc := [(a0, .inr (13, [.ref z0, .ref z1, .ref z2, .ref z3, .ref z4, .ref z5, .int 45, .ref z6, .ref z7, .ref z8, .int 0, .ref z9, .ref z10, .int 0, .int 0, .int 0, .int 0, .ref z11, .int 0, .null, .ref z12, .ref z13]))]) hD hS hA [0] rfl) (fun _ h => h) [0] [0] [] rfl rfl rfl rfl rfl (by decide) 0 (ci := 13) rfl rfl rfl (fun u_3 H locs hP hD hS => ?_)
  have hP : va_P D vwCl [(a0, .inr (13, [.ref z0, .ref z1, .ref z2, .ref z3, .ref z4, .ref z5, .int 45, .ref z6, .ref z7, .ref z8, .int 0, .ref z9, .ref z10, .int 0, .int 0, .int 1, .int 0, .ref z11, .int 0, .null, .ref z12, .ref z13]))] H := hP
  have hD : va_D A [(a0, .inr (13, [.ref z0, .ref z1, .ref z2, .ref z3, .ref z4, .ref z5, .int 45, .ref z6, .ref z7, .ref z8, .int 0, .ref z9, .ref z10, .int 0, .int 0, .int 1, .int 0, .ref z11, .int 0, .null, .ref z12, .ref z13]))] := hD
  refine W.widen (k := 0) (n := 0) (Nat.le_of_ble_eq_true rfl) (Nat.le_of_ble_eq_true rfl) ?_
  refine W.eq (g2 := F0 m 36 ls [.int 1]) rfl ?_
  refine lv_if_eq (tgt := 41) hx hb dX11_give_36 (by decide) (fun c => absurd c (by decide)) (fun _ => ?_)
  refine lv_iconst (v := 0) hx hb dX11_give_39 (by decide) ?_
  exact e_z hF hr (by decide) (Nat.le_of_ble_eq_true rfl) (Nat.le_of_ble_eq_true rfl) hS (qg_end hS (fun _ => 0) rfl [0] hP rfl (hD.sub [0] rfl rfl)) dX11_give_40

set_option maxHeartbeats 4000000 in
set_option maxRecDepth 100000 in
theorem c428_X0_canGive (l : Launch) (a0 : Nat) (a1 : Nat) (z0 : Nat) (p0 : Int32) (p1 : Int32) : CT l (.code yX0_canGive cX0_canGive 3 (some .boolean)) yX0_canGive { frames := 1, cells := 0, slots := 0, locals := 21 } [.ref a0, .int p0, .int p1] (fun y => [(a0, .inr (2, [.ref a1, .ref z0])), (a1, .inl (y 3, 81, .inl (fun _ => 0)))]) (fun _ => []) (fun u => some (.int 0)) (fun y u => []) := by
  refine mkM (by decide) (Nat.le_of_ble_eq_true rfl) ?_
  intro p e s m args below meth c D y A ls hF hr hAe hP hD hS hl
  have hF : FX p e s m args meth c cX0_canGive 3 RX0 "canGive" D y A := hF
  obtain ⟨⟨hx, hb, hml, hown, hts⟩, hev, heh, hA, hlk, hnm⟩ := id hF
  have hK := hev.1
  have hP : va_P D vwCl [(a0, .inr (2, [.ref a1, .ref z0])), (a1, .inl (y 3, 81, .inl (fun _ => 0)))] s.heap := hP
  have hD : va_D (fun _ => True) [(a0, .inr (2, [.ref a1, .ref z0])), (a1, .inl (y 3, 81, .inl (fun _ => 0)))] := hD
  have hl : lv_has ls 3 [(0, .ref a0), (1, .int p0), (2, .int p1)] := hl
  refine lv_aload_n hx hb dX0_canGive_0 rfl (lv_at hl 0 rfl) ?_
  refine lv_iload_n hx hb dX0_canGive_1 rfl (lv_at hl 1 rfl) ?_
  rcases Classical.em (p0 < 0) with c_1 | c_1
  · refine cV (l := l) (yM := yX0_has) (C := RX0) (As := [.int p0]) (rest := []) (wr := [(a0, .inr (2, [.ref a1, .ref z0])), (a1, .inl (y 3, 81, .inl (fun _ => 0)))]) hF (c407_X0_has l a0 p0 c_1) gv_RX0_19 1 (by decide +kernel) rfl ⟨(Nat.le_of_ble_eq_true rfl), (Nat.le_of_ble_eq_true rfl)⟩ hl.1 rfl (Nat.le_of_ble_eq_true rfl) dX0_canGive_2 ⟨(Nat.le_of_ble_eq_true rfl), (Nat.le_of_ble_eq_true rfl)⟩ hP hD hS (pA hA hS) (fun _ _ => trivial) [] [] [0, 1] rfl rfl rfl rfl rfl (by decide) 0 (ci := 2) rfl rfl rfl (fun u_2 H locs hP hD hS => ?_)
    have hP : va_P D vwCl [(a0, .inr (2, [.ref a1, .ref z0])), (a1, .inl (y 3, 81, .inl (fun _ => 0)))] H := hP
    have hD : va_D (fun _ => True) [(a0, .inr (2, [.ref a1, .ref z0])), (a1, .inl (y 3, 81, .inl (fun _ => 0)))] := hD
    refine W.widen (k := 0) (n := 0) (Nat.le_of_ble_eq_true rfl) (Nat.le_of_ble_eq_true rfl) ?_
    refine W.eq (g2 := F0 m 5 ls [.int 0]) rfl ?_
    refine lv_if_eq (tgt := 34) hx hb dX0_canGive_5 (by decide) (fun _ => ?_) (fun c => absurd (by decide) c)
    refine lv_iconst (v := 0) hx hb dX0_canGive_34 (by decide) ?_
    exact e_z hF hr (by decide) (Nat.le_of_ble_eq_true rfl) (Nat.le_of_ble_eq_true rfl) hS (qg_end hS (fun _ => 0) rfl [] hP rfl d_nil) dX0_canGive_35
  · rcases Classical.em (9 ≤ p0) with c_3 | c_3
    · refine cV (l := l) (yM := yX0_has) (C := RX0) (As := [.int p0]) (rest := []) (wr := [(a0, .inr (2, [.ref a1, .ref z0])), (a1, .inl (y 3, 81, .inl (fun _ => 0)))]) hF (c412_X0_has l a0 p0 c_1 c_3) gv_RX0_19 1 (by decide +kernel) rfl ⟨(Nat.le_of_ble_eq_true rfl), (Nat.le_of_ble_eq_true rfl)⟩ hl.1 rfl (Nat.le_of_ble_eq_true rfl) dX0_canGive_2 ⟨(Nat.le_of_ble_eq_true rfl), (Nat.le_of_ble_eq_true rfl)⟩ hP hD hS (pA hA hS) (fun _ _ => trivial) [] [] [0, 1] rfl rfl rfl rfl rfl (by decide) 0 (ci := 2) rfl rfl rfl (fun u_4 H locs hP hD hS => ?_)
      have hP : va_P D vwCl [(a0, .inr (2, [.ref a1, .ref z0])), (a1, .inl (y 3, 81, .inl (fun _ => 0)))] H := hP
      have hD : va_D (fun _ => True) [(a0, .inr (2, [.ref a1, .ref z0])), (a1, .inl (y 3, 81, .inl (fun _ => 0)))] := hD
      refine W.widen (k := 0) (n := 0) (Nat.le_of_ble_eq_true rfl) (Nat.le_of_ble_eq_true rfl) ?_
      refine W.eq (g2 := F0 m 5 ls [.int 0]) rfl ?_
      refine lv_if_eq (tgt := 34) hx hb dX0_canGive_5 (by decide) (fun _ => ?_) (fun c => absurd (by decide) c)
      refine lv_iconst (v := 0) hx hb dX0_canGive_34 (by decide) ?_
      exact e_z hF hr (by decide) (Nat.le_of_ble_eq_true rfl) (Nat.le_of_ble_eq_true rfl) hS (qg_end hS (fun _ => 0) rfl [] hP rfl d_nil) dX0_canGive_35
    · refine cV (l := l) (yM := yX0_has) (C := RX0) (As := [.int p0]) (rest := []) (wr := [(a0, .inr (2, [.ref a1, .ref z0])), (a1, .inl (y 3, 81, .inl (fun _ => 0)))]) hF (c417_X0_has l a0 p0 c_1 c_3) gv_RX0_19 1 (by decide +kernel) rfl ⟨(Nat.le_of_ble_eq_true rfl), (Nat.le_of_ble_eq_true rfl)⟩ hl.1 rfl (Nat.le_of_ble_eq_true rfl) dX0_canGive_2 ⟨(Nat.le_of_ble_eq_true rfl), (Nat.le_of_ble_eq_true rfl)⟩ hP hD hS (pA hA hS) (fun _ _ => trivial) [] [] [0, 1] rfl rfl rfl rfl rfl (by decide) 0 (ci := 2) rfl rfl rfl (fun u_5 H locs hP hD hS => ?_)
      have hP : va_P D vwCl [(a0, .inr (2, [.ref a1, .ref z0])), (a1, .inl (y 3, 81, .inl (fun _ => 0)))] H := hP
      have hD : va_D (fun _ => True) [(a0, .inr (2, [.ref a1, .ref z0])), (a1, .inl (y 3, 81, .inl (fun _ => 0)))] := hD
      refine W.widen (k := 0) (n := 0) (Nat.le_of_ble_eq_true rfl) (Nat.le_of_ble_eq_true rfl) ?_
      refine W.eq (g2 := F0 m 5 ls [.int 1]) rfl ?_
      refine lv_if_eq (tgt := 34) hx hb dX0_canGive_5 (by decide) (fun c => absurd c (by decide)) (fun _ => ?_)
      refine lv_aload_n hx hb dX0_canGive_8 rfl (lv_at hl 0 rfl) ?_
      refine lv_iload_n hx hb dX0_canGive_9 rfl (lv_at hl 2 rfl) ?_
      rcases Classical.em (p1 < 0) with c_6 | c_6
      · refine cV (l := l) (yM := yX0_has) (C := RX0) (As := [.int p1]) (rest := []) (wr := [(a0, .inr (2, [.ref a1, .ref z0])), (a1, .inl (y 3, 81, .inl (fun _ => 0)))]) hF (c407_X0_has l a0 p1 c_6) gv_RX0_19 1 (by decide +kernel) rfl ⟨(Nat.le_of_ble_eq_true rfl), (Nat.le_of_ble_eq_true rfl)⟩ hl.1 rfl (Nat.le_of_ble_eq_true rfl) dX0_canGive_10 ⟨(Nat.le_of_ble_eq_true rfl), (Nat.le_of_ble_eq_true rfl)⟩ hP hD hS (pA hA hS) (fun _ _ => trivial) [] [] [0, 1] rfl rfl rfl rfl rfl (by decide) 0 (ci := 2) rfl rfl rfl (fun u_7 H locs hP hD hS => ?_)
        have hP : va_P D vwCl [(a0, .inr (2, [.ref a1, .ref z0])), (a1, .inl (y 3, 81, .inl (fun _ => 0)))] H := hP
        have hD : va_D (fun _ => True) [(a0, .inr (2, [.ref a1, .ref z0])), (a1, .inl (y 3, 81, .inl (fun _ => 0)))] := hD
        refine W.widen (k := 0) (n := 0) (Nat.le_of_ble_eq_true rfl) (Nat.le_of_ble_eq_true rfl) ?_
        refine W.eq (g2 := F0 m 13 ls [.int 0]) rfl ?_
        refine lv_if_eq (tgt := 34) hx hb dX0_canGive_13 (by decide) (fun _ => ?_) (fun c => absurd (by decide) c)
        refine lv_iconst (v := 0) hx hb dX0_canGive_34 (by decide) ?_
        exact e_z hF hr (by decide) (Nat.le_of_ble_eq_true rfl) (Nat.le_of_ble_eq_true rfl) hS (qg_end hS (fun _ => 0) rfl [] hP rfl d_nil) dX0_canGive_35
      · rcases Classical.em (9 ≤ p1) with c_8 | c_8
        · refine cV (l := l) (yM := yX0_has) (C := RX0) (As := [.int p1]) (rest := []) (wr := [(a0, .inr (2, [.ref a1, .ref z0])), (a1, .inl (y 3, 81, .inl (fun _ => 0)))]) hF (c412_X0_has l a0 p1 c_6 c_8) gv_RX0_19 1 (by decide +kernel) rfl ⟨(Nat.le_of_ble_eq_true rfl), (Nat.le_of_ble_eq_true rfl)⟩ hl.1 rfl (Nat.le_of_ble_eq_true rfl) dX0_canGive_10 ⟨(Nat.le_of_ble_eq_true rfl), (Nat.le_of_ble_eq_true rfl)⟩ hP hD hS (pA hA hS) (fun _ _ => trivial) [] [] [0, 1] rfl rfl rfl rfl rfl (by decide) 0 (ci := 2) rfl rfl rfl (fun u_9 H locs hP hD hS => ?_)
          have hP : va_P D vwCl [(a0, .inr (2, [.ref a1, .ref z0])), (a1, .inl (y 3, 81, .inl (fun _ => 0)))] H := hP
          have hD : va_D (fun _ => True) [(a0, .inr (2, [.ref a1, .ref z0])), (a1, .inl (y 3, 81, .inl (fun _ => 0)))] := hD
          refine W.widen (k := 0) (n := 0) (Nat.le_of_ble_eq_true rfl) (Nat.le_of_ble_eq_true rfl) ?_
          refine W.eq (g2 := F0 m 13 ls [.int 0]) rfl ?_
          refine lv_if_eq (tgt := 34) hx hb dX0_canGive_13 (by decide) (fun _ => ?_) (fun c => absurd (by decide) c)
          refine lv_iconst (v := 0) hx hb dX0_canGive_34 (by decide) ?_
          exact e_z hF hr (by decide) (Nat.le_of_ble_eq_true rfl) (Nat.le_of_ble_eq_true rfl) hS (qg_end hS (fun _ => 0) rfl [] hP rfl d_nil) dX0_canGive_35
        · refine cV (l := l) (yM := yX0_has) (C := RX0) (As := [.int p1]) (rest := []) (wr := [(a0, .inr (2, [.ref a1, .ref z0])), (a1, .inl (y 3, 81, .inl (fun _ => 0)))]) hF (c417_X0_has l a0 p1 c_6 c_8) gv_RX0_19 1 (by decide +kernel) rfl ⟨(Nat.le_of_ble_eq_true rfl), (Nat.le_of_ble_eq_true rfl)⟩ hl.1 rfl (Nat.le_of_ble_eq_true rfl) dX0_canGive_10 ⟨(Nat.le_of_ble_eq_true rfl), (Nat.le_of_ble_eq_true rfl)⟩ hP hD hS (pA hA hS) (fun _ _ => trivial) [] [] [0, 1] rfl rfl rfl rfl rfl (by decide) 0 (ci := 2) rfl rfl rfl (fun u_10 H locs hP hD hS => ?_)
          have hP : va_P D vwCl [(a0, .inr (2, [.ref a1, .ref z0])), (a1, .inl (y 3, 81, .inl (fun _ => 0)))] H := hP
          have hD : va_D (fun _ => True) [(a0, .inr (2, [.ref a1, .ref z0])), (a1, .inl (y 3, 81, .inl (fun _ => 0)))] := hD
          refine W.widen (k := 0) (n := 0) (Nat.le_of_ble_eq_true rfl) (Nat.le_of_ble_eq_true rfl) ?_
          refine W.eq (g2 := F0 m 13 ls [.int 1]) rfl ?_
          refine lv_if_eq (tgt := 34) hx hb dX0_canGive_13 (by decide) (fun c => absurd c (by decide)) (fun _ => ?_)
          refine lv_aload_n hx hb dX0_canGive_16 rfl (lv_at hl 0 rfl) ?_
          refine va_get (D := D) (ci := 2) (v := .ref a1) (C := RX0) (T := TX0) (N := 2) hx hb hts inX0 hown hK hP 0 rfl rfl 0 (by decide) (hts _ wd_63) (fun _ h9 => h9) rfl dX0_canGive_17 ?_
          refine lv_bipush (v := 9) hx hb dX0_canGive_20 (by decide) ?_
          refine lv_iload_n hx hb dX0_canGive_22 rfl (lv_at hl 1 rfl) ?_
          refine lv_imul hx hb dX0_canGive_23 ?_
          refine lv_iload_n hx hb dX0_canGive_24 rfl (lv_at hl 2 rfl) ?_
          refine lv_iadd hx hb dX0_canGive_25 ?_
          refine va_zald hx hb hK hP 1 3 rfl rfl (in81 c_1 c_3 c_6 c_8) dX0_canGive_26 ?_
          refine tp_i (v := 0) rfl ?_
          refine lv_if_eq (tgt := 34) hx hb dX0_canGive_27 (by decide) (fun _ => ?_) (fun c => absurd (by decide) c)
          refine lv_iconst (v := 0) hx hb dX0_canGive_34 (by decide) ?_
          exact e_z hF hr (by decide) (Nat.le_of_ble_eq_true rfl) (Nat.le_of_ble_eq_true rfl) hS (qg_end hS (fun _ => 0) rfl [] hP rfl d_nil) dX0_canGive_35

set_option maxHeartbeats 4000000 in
set_option maxRecDepth 100000 in
theorem c429_X0_allow (l : Launch) (a0 : Nat) (a1 : Nat) (z0 : Nat) (p0 : Int32) (p1 : Int32) (f0 : ¬ p0 < 0) (f1 : ¬ 9 ≤ p0) (f2 : ¬ p1 < 0) (f3 : ¬ 9 ≤ p1) (f4 : ¬ p0 = p1) : CT l (.code yX0_allow cX0_allow 4 none) yX0_allow { frames := 1, cells := 0, slots := 0, locals := 21 } [.ref a0, .int p0, .int p1, .int 0] (fun y => [(a0, .inr (2, [.ref a1, .ref z0])), (a1, .inl (y 3, 81, .inl (fun _ => 0)))]) (fun y => [(a0, .inr (2, [.ref a1, .ref z0])), (a1, .inl (y 3, 81, .inl (fun _ => 0)))]) (fun u => none) (fun y u => [(a0, .inr (2, [.ref a1, .ref z0])), (a1, .inl (y 3, 81, .inl (fun _ => 0)))]) := by
  refine mkM (by decide) (Nat.le_of_ble_eq_true rfl) ?_
  intro p e s m args below meth c D y A ls hF hr hAe hP hD hS hl
  have hF : FX p e s m args meth c cX0_allow 4 RX0 "allow" D y A := hF
  obtain ⟨⟨hx, hb, hml, hown, hts⟩, hev, heh, hA, hlk, hnm⟩ := id hF
  have hK := hev.1
  have hP : va_P D vwCl [(a0, .inr (2, [.ref a1, .ref z0])), (a1, .inl (y 3, 81, .inl (fun _ => 0)))] s.heap := hP
  have hD : va_D A [(a0, .inr (2, [.ref a1, .ref z0])), (a1, .inl (y 3, 81, .inl (fun _ => 0)))] := by rw [← hAe]; exact hD.self
  have hl : lv_has ls 4 [(0, .ref a0), (1, .int p0), (2, .int p1), (3, .int 0)] := hl
  refine lv_aload_n hx hb dX0_allow_0 rfl (lv_at hl 0 rfl) ?_
  refine lv_iload_n hx hb dX0_allow_1 rfl (lv_at hl 1 rfl) ?_
  refine cV (l := l) (yM := yX0_has) (C := RX0) (As := [.int p0]) (rest := []) (wr := [(a0, .inr (2, [.ref a1, .ref z0])), (a1, .inl (y 3, 81, .inl (fun _ => 0)))]) hF (c417_X0_has l a0 p0 f0 f1) gv_RX0_19 1 (by decide +kernel) rfl ⟨(Nat.le_of_ble_eq_true rfl), (Nat.le_of_ble_eq_true rfl)⟩ hl.1 rfl (Nat.le_of_ble_eq_true rfl) dX0_allow_2 ⟨(Nat.le_of_ble_eq_true rfl), (Nat.le_of_ble_eq_true rfl)⟩ hP hD hS (pA hA hS) (fun _ h => h) [] [] [0, 1] rfl rfl rfl rfl rfl (by decide) 0 (ci := 2) rfl rfl rfl (fun u_1 H locs hP hD hS => ?_)
  have hP : va_P D vwCl [(a0, .inr (2, [.ref a1, .ref z0])), (a1, .inl (y 3, 81, .inl (fun _ => 0)))] H := hP
  have hD : va_D A [(a0, .inr (2, [.ref a1, .ref z0])), (a1, .inl (y 3, 81, .inl (fun _ => 0)))] := hD
  refine W.widen (k := 0) (n := 0) (Nat.le_of_ble_eq_true rfl) (Nat.le_of_ble_eq_true rfl) ?_
  refine W.eq (g2 := F0 m 5 ls [.int 1]) rfl ?_
  refine lv_if_eq (tgt := 28) hx hb dX0_allow_5 (by decide) (fun c => absurd c (by decide)) (fun _ => ?_)
  refine lv_aload_n hx hb dX0_allow_8 rfl (lv_at hl 0 rfl) ?_
  refine lv_iload_n hx hb dX0_allow_9 rfl (lv_at hl 2 rfl) ?_
  refine cV (l := l) (yM := yX0_has) (C := RX0) (As := [.int p1]) (rest := []) (wr := [(a0, .inr (2, [.ref a1, .ref z0])), (a1, .inl (y 3, 81, .inl (fun _ => 0)))]) hF (c417_X0_has l a0 p1 f2 f3) gv_RX0_19 1 (by decide +kernel) rfl ⟨(Nat.le_of_ble_eq_true rfl), (Nat.le_of_ble_eq_true rfl)⟩ hl.1 rfl (Nat.le_of_ble_eq_true rfl) dX0_allow_10 ⟨(Nat.le_of_ble_eq_true rfl), (Nat.le_of_ble_eq_true rfl)⟩ hP hD hS (pA hA hS) (fun _ h => h) [] [] [0, 1] rfl rfl rfl rfl rfl (by decide) 0 (ci := 2) rfl rfl rfl (fun u_2 H locs hP hD hS => ?_)
  have hP : va_P D vwCl [(a0, .inr (2, [.ref a1, .ref z0])), (a1, .inl (y 3, 81, .inl (fun _ => 0)))] H := hP
  have hD : va_D A [(a0, .inr (2, [.ref a1, .ref z0])), (a1, .inl (y 3, 81, .inl (fun _ => 0)))] := hD
  refine W.widen (k := 0) (n := 0) (Nat.le_of_ble_eq_true rfl) (Nat.le_of_ble_eq_true rfl) ?_
  refine W.eq (g2 := F0 m 13 ls [.int 1]) rfl ?_
  refine lv_if_eq (tgt := 28) hx hb dX0_allow_13 (by decide) (fun c => absurd c (by decide)) (fun _ => ?_)
  refine lv_aload_n hx hb dX0_allow_16 rfl (lv_at hl 0 rfl) ?_
  refine va_get (D := D) (ci := 2) (v := .ref a1) (C := RX0) (T := TX0) (N := 2) hx hb hts inX0 hown hK hP 0 rfl rfl 0 (by decide) (hts _ wd_63) (fun _ h9 => h9) rfl dX0_allow_17 ?_
  refine lv_bipush (v := 9) hx hb dX0_allow_20 (by decide) ?_
  refine lv_iload_n hx hb dX0_allow_22 rfl (lv_at hl 1 rfl) ?_
  refine lv_imul hx hb dX0_allow_23 ?_
  refine lv_iload_n hx hb dX0_allow_24 rfl (lv_at hl 2 rfl) ?_
  refine lv_iadd hx hb dX0_allow_25 ?_
  refine lv_iload_n hx hb dX0_allow_26 rfl (lv_at hl 3 rfl) ?_
  refine va_zast hx hb hK hP hD hS 1 3 rfl rfl (in81 f0 f1 f2 f3) dX0_allow_27 (fun H locs hP hD hS => ?_)
  obtain ⟨hP, hD⟩ := same_c (g := (fun _ => 0)) hP hD 1 rfl (fun j _ => up_c rfl)
  have hP : va_P D vwCl [(a0, .inr (2, [.ref a1, .ref z0])), (a1, .inl (y 3, 81, .inl (fun _ => 0)))] H := hP
  have hD : va_D A [(a0, .inr (2, [.ref a1, .ref z0])), (a1, .inl (y 3, 81, .inl (fun _ => 0)))] := hD
  exact e_v hF hr (Nat.le_of_ble_eq_true rfl) (Nat.le_of_ble_eq_true rfl) hS (qg_end hS (fun _ => 0) rfl [0, 1] hP rfl (hD.sub [0, 1] rfl rfl)) dX0_allow_28

set_option maxHeartbeats 4000000 in
set_option maxRecDepth 100000 in
theorem c428_X10_give (l : Launch) (a0 : Nat) (a1 : Nat) (a2 : Nat) (z0 : Nat) (z1 : Nat) (z2 : Nat) (z3 : Nat) (z4 : Nat) (z5 : Nat) (z6 : Nat) (z7 : Nat) (z8 : Nat) (z9 : Nat) (z10 : Nat) (z11 : Nat) (z12 : Nat) (z13 : Nat) (z14 : Nat) (p0 : Int32) (p1 : Int32) (f0 : ¬ p0 < 0) (f1 : ¬ 9 ≤ p0) (f2 : ¬ p1 < 0) (f3 : ¬ 9 ≤ p1) (f4 : ¬ p0 = p1) : CT l (.code yX10_give cX10_give 5 (some .boolean)) yX10_give { frames := 2, cells := 0, slots := 0, locals := 44 } [.ref a0, .int p0, .int p1, .int 0] (fun y => [(a0, .inr (12, [.ref z0, .ref z1, .ref z2, .ref z3, .ref z4, .ref z5, .ref a1, .ref z6, .ref z7, .ref z8, .ref z9, .ref z10, .ref z11, .ref z12, .ref z13])), (a1, .inr (2, [.ref a2, .ref z14])), (a2, .inl (y 3, 81, .inl (fun _ => 0)))]) (fun y => [(a0, .inr (12, [.ref z0, .ref z1, .ref z2, .ref z3, .ref z4, .ref z5, .ref a1, .ref z6, .ref z7, .ref z8, .ref z9, .ref z10, .ref z11, .ref z12, .ref z13])), (a1, .inr (2, [.ref a2, .ref z14])), (a2, .inl (y 3, 81, .inl (fun _ => 0)))]) (fun u => some (.int 0)) (fun y u => [(a0, .inr (12, [.ref z0, .ref z1, .ref z2, .ref z3, .ref z4, .ref z5, .ref a1, .ref z6, .ref z7, .ref z8, .ref z9, .ref z10, .ref z11, .ref z12, .ref z13])), (a1, .inr (2, [.ref a2, .ref z14])), (a2, .inl (y 3, 81, .inl (fun _ => 0)))]) := by
  refine mkM (by decide) (Nat.le_of_ble_eq_true rfl) ?_
  intro p e s m args below meth c D y A ls hF hr hAe hP hD hS hl
  have hF : FX p e s m args meth c cX10_give 5 RX10 "give" D y A := hF
  obtain ⟨⟨hx, hb, hml, hown, hts⟩, hev, heh, hA, hlk, hnm⟩ := id hF
  have hK := hev.1
  have hP : va_P D vwCl [(a0, .inr (12, [.ref z0, .ref z1, .ref z2, .ref z3, .ref z4, .ref z5, .ref a1, .ref z6, .ref z7, .ref z8, .ref z9, .ref z10, .ref z11, .ref z12, .ref z13])), (a1, .inr (2, [.ref a2, .ref z14])), (a2, .inl (y 3, 81, .inl (fun _ => 0)))] s.heap := hP
  have hD : va_D A [(a0, .inr (12, [.ref z0, .ref z1, .ref z2, .ref z3, .ref z4, .ref z5, .ref a1, .ref z6, .ref z7, .ref z8, .ref z9, .ref z10, .ref z11, .ref z12, .ref z13])), (a1, .inr (2, [.ref a2, .ref z14])), (a2, .inl (y 3, 81, .inl (fun _ => 0)))] := by rw [← hAe]; exact hD.self
  have hl : lv_has ls 5 [(0, .ref a0), (1, .int p0), (2, .int p1), (3, .int 0)] := hl
  refine lv_aload_n hx hb dX10_give_0 rfl (lv_at hl 0 rfl) ?_
  refine va_get (D := D) (ci := 12) (v := .ref a1) (C := RX10) (T := TX10) (N := 15) hx hb hts inX10 hown hK hP 0 rfl rfl 6 (by decide) (hts _ wd_67) (fun _ h9 => h9) rfl dX10_give_1 ?_
  refine lv_iload_n hx hb dX10_give_4 rfl (lv_at hl 1 rfl) ?_
  refine cV (l := l) (yM := yX0_has) (C := RX0) (As := [.int p0]) (rest := []) (wr := [(a0, .inr (12, [.ref z0, .ref z1, .ref z2, .ref z3, .ref z4, .ref z5, .ref a1, .ref z6, .ref z7, .ref z8, .ref z9, .ref z10, .ref z11, .ref z12, .ref z13])), (a1, .inr (2, [.ref a2, .ref z14])), (a2, .inl (y 3, 81, .inl (fun _ => 0)))]) hF (c417_X0_has l a1 p0 f0 f1) gv_RX10_414 1 (by decide +kernel) rfl ⟨(Nat.le_of_ble_eq_true rfl), (Nat.le_of_ble_eq_true rfl)⟩ hl.1 rfl (Nat.le_of_ble_eq_true rfl) dX10_give_5 ⟨(Nat.le_of_ble_eq_true rfl), (Nat.le_of_ble_eq_true rfl)⟩ hP hD hS (pA hA hS) (fun _ h => h) [] [] [0, 1, 2] rfl rfl rfl rfl rfl (by decide) 1 (ci := 2) rfl rfl rfl (fun u_1 H locs hP hD hS => ?_)
  have hP : va_P D vwCl [(a0, .inr (12, [.ref z0, .ref z1, .ref z2, .ref z3, .ref z4, .ref z5, .ref a1, .ref z6, .ref z7, .ref z8, .ref z9, .ref z10, .ref z11, .ref z12, .ref z13])), (a1, .inr (2, [.ref a2, .ref z14])), (a2, .inl (y 3, 81, .inl (fun _ => 0)))] H := hP
  have hD : va_D A [(a0, .inr (12, [.ref z0, .ref z1, .ref z2, .ref z3, .ref z4, .ref z5, .ref a1, .ref z6, .ref z7, .ref z8, .ref z9, .ref z10, .ref z11, .ref z12, .ref z13])), (a1, .inr (2, [.ref a2, .ref z14])), (a2, .inl (y 3, 81, .inl (fun _ => 0)))] := hD
  refine W.widen (k := 0) (n := 0) (Nat.le_of_ble_eq_true rfl) (Nat.le_of_ble_eq_true rfl) ?_
  refine W.eq (g2 := F0 m 8 ls [.int 1]) rfl ?_
  refine lv_if_eq (tgt := 27) hx hb dX10_give_8 (by decide) (fun c => absurd c (by decide)) (fun _ => ?_)
  refine lv_aload_n hx hb dX10_give_11 rfl (lv_at hl 0 rfl) ?_
  refine va_get (D := D) (ci := 12) (v := .ref a1) (C := RX10) (T := TX10) (N := 15) hx hb hts inX10 hown hK hP 0 rfl rfl 6 (by decide) (hts _ wd_67) (fun _ h9 => h9) rfl dX10_give_12 ?_
  refine lv_iload_n hx hb dX10_give_15 rfl (lv_at hl 2 rfl) ?_
  refine cV (l := l) (yM := yX0_has) (C := RX0) (As := [.int p1]) (rest := []) (wr := [(a0, .inr (12, [.ref z0, .ref z1, .ref z2, .ref z3, .ref z4, .ref z5, .ref a1, .ref z6, .ref z7, .ref z8, .ref z9, .ref z10, .ref z11, .ref z12, .ref z13])), (a1, .inr (2, [.ref a2, .ref z14])), (a2, .inl (y 3, 81, .inl (fun _ => 0)))]) hF (c417_X0_has l a1 p1 f2 f3) gv_RX10_414 1 (by decide +kernel) rfl ⟨(Nat.le_of_ble_eq_true rfl), (Nat.le_of_ble_eq_true rfl)⟩ hl.1 rfl (Nat.le_of_ble_eq_true rfl) dX10_give_16 ⟨(Nat.le_of_ble_eq_true rfl), (Nat.le_of_ble_eq_true rfl)⟩ hP hD hS (pA hA hS) (fun _ h => h) [] [] [0, 1, 2] rfl rfl rfl rfl rfl (by decide) 1 (ci := 2) rfl rfl rfl (fun u_2 H locs hP hD hS => ?_)
  have hP : va_P D vwCl [(a0, .inr (12, [.ref z0, .ref z1, .ref z2, .ref z3, .ref z4, .ref z5, .ref a1, .ref z6, .ref z7, .ref z8, .ref z9, .ref z10, .ref z11, .ref z12, .ref z13])), (a1, .inr (2, [.ref a2, .ref z14])), (a2, .inl (y 3, 81, .inl (fun _ => 0)))] H := hP
  have hD : va_D A [(a0, .inr (12, [.ref z0, .ref z1, .ref z2, .ref z3, .ref z4, .ref z5, .ref a1, .ref z6, .ref z7, .ref z8, .ref z9, .ref z10, .ref z11, .ref z12, .ref z13])), (a1, .inr (2, [.ref a2, .ref z14])), (a2, .inl (y 3, 81, .inl (fun _ => 0)))] := hD
  refine W.widen (k := 0) (n := 0) (Nat.le_of_ble_eq_true rfl) (Nat.le_of_ble_eq_true rfl) ?_
  refine W.eq (g2 := F0 m 19 ls [.int 1]) rfl ?_
  refine lv_if_eq (tgt := 27) hx hb dX10_give_19 (by decide) (fun c => absurd c (by decide)) (fun _ => ?_)
  refine lv_iload_n hx hb dX10_give_22 rfl (lv_at hl 1 rfl) ?_
  refine lv_iload_n hx hb dX10_give_23 rfl (lv_at hl 2 rfl) ?_
  refine lv_icmp_ne (tgt := 38) hx hb dX10_give_24 (by decide) (fun _ => ?_) (fun c => absurd c f4)
  refine lv_aload_n hx hb dX10_give_38 rfl (lv_at hl 0 rfl) ?_
  refine va_get (D := D) (ci := 12) (v := .ref a1) (C := RX10) (T := TX10) (N := 15) hx hb hts inX10 hown hK hP 0 rfl rfl 6 (by decide) (hts _ wd_67) (fun _ h9 => h9) rfl dX10_give_39 ?_
  refine lv_iload_n hx hb dX10_give_42 rfl (lv_at hl 1 rfl) ?_
  refine lv_iload_n hx hb dX10_give_43 rfl (lv_at hl 2 rfl) ?_
  refine cV (l := l) (yM := yX0_canGive) (C := RX0) (As := [.int p0, .int p1]) (rest := []) (wr := [(a0, .inr (12, [.ref z0, .ref z1, .ref z2, .ref z3, .ref z4, .ref z5, .ref a1, .ref z6, .ref z7, .ref z8, .ref z9, .ref z10, .ref z11, .ref z12, .ref z13])), (a1, .inr (2, [.ref a2, .ref z14])), (a2, .inl (y 3, 81, .inl (fun _ => 0)))]) hF (c428_X0_canGive l a1 a2 z14 p0 p1) gv_RX10_417 2 (by decide +kernel) rfl ⟨(Nat.le_of_ble_eq_true rfl), (Nat.le_of_ble_eq_true rfl)⟩ hl.1 rfl (Nat.le_of_ble_eq_true rfl) dX10_give_44 ⟨(Nat.le_of_ble_eq_true rfl), (Nat.le_of_ble_eq_true rfl)⟩ hP hD hS (pA hA hS) (fun _ h => h) [1, 2] [] [0, 1, 2] rfl rfl rfl rfl rfl (by decide) 1 (ci := 2) rfl rfl rfl (fun u_3 H locs hP hD hS => ?_)
  have hP : va_P D vwCl [(a0, .inr (12, [.ref z0, .ref z1, .ref z2, .ref z3, .ref z4, .ref z5, .ref a1, .ref z6, .ref z7, .ref z8, .ref z9, .ref z10, .ref z11, .ref z12, .ref z13])), (a1, .inr (2, [.ref a2, .ref z14])), (a2, .inl (y 3, 81, .inl (fun _ => 0)))] H := hP
  have hD : va_D A [(a0, .inr (12, [.ref z0, .ref z1, .ref z2, .ref z3, .ref z4, .ref z5, .ref a1, .ref z6, .ref z7, .ref z8, .ref z9, .ref z10, .ref z11, .ref z12, .ref z13])), (a1, .inr (2, [.ref a2, .ref z14])), (a2, .inl (y 3, 81, .inl (fun _ => 0)))] := hD
  refine W.widen (k := 0) (n := 0) (Nat.le_of_ble_eq_true rfl) (Nat.le_of_ble_eq_true rfl) ?_
  refine W.eq (g2 := F0 m 47 ls [.int 0]) rfl ?_
  refine lv_istore (lv' := [(4, .int 0), (0, .ref a0), (1, .int p0), (2, .int p1), (3, .int 0)]) hx hb dX10_give_47 hl (by decide) rfl (fun ls hl => ?_)
  refine lv_aload_n hx hb dX10_give_49 rfl (lv_at hl 1 rfl) ?_
  refine va_get (D := D) (ci := 12) (v := .ref a1) (C := RX10) (T := TX10) (N := 15) hx hb hts inX10 hown hK hP 0 rfl rfl 6 (by decide) (hts _ wd_67) (fun _ h9 => h9) rfl dX10_give_50 ?_
  refine lv_iload_n hx hb dX10_give_53 rfl (lv_at hl 2 rfl) ?_
  refine lv_iload_n hx hb dX10_give_54 rfl (lv_at hl 3 rfl) ?_
  refine lv_iload_n hx hb dX10_give_55 rfl (lv_at hl 4 rfl) ?_
  refine cV (l := l) (yM := yX0_allow) (C := RX0) (As := [.int p0, .int p1, .int 0]) (rest := []) (wr := [(a0, .inr (12, [.ref z0, .ref z1, .ref z2, .ref z3, .ref z4, .ref z5, .ref a1, .ref z6, .ref z7, .ref z8, .ref z9, .ref z10, .ref z11, .ref z12, .ref z13]))]) hF (c429_X0_allow l a1 a2 z14 p0 p1 f0 f1 f2 f3 f4) gv_RX10_420 3 (by decide +kernel) rfl ⟨(Nat.le_of_ble_eq_true rfl), (Nat.le_of_ble_eq_true rfl)⟩ hl.1 rfl (Nat.le_of_ble_eq_true rfl) dX10_give_56 ⟨(Nat.le_of_ble_eq_true rfl), (Nat.le_of_ble_eq_true rfl)⟩ hP hD hS (va_free (wc := [(a1, .inr (2, [.ref a2, .ref z14])), (a2, .inl (y 3, 81, .inl (fun _ => 0)))]) hD hS hA [1, 2] rfl) (fun _ h => h) [1, 2] [1, 2] [0] rfl rfl rfl rfl rfl (by decide) 1 (ci := 2) rfl rfl rfl (fun u_4 H locs hP hD hS => ?_)
  have hP : va_P D vwCl [(a0, .inr (12, [.ref z0, .ref z1, .ref z2, .ref z3, .ref z4, .ref z5, .ref a1, .ref z6, .ref z7, .ref z8, .ref z9, .ref z10, .ref z11, .ref z12, .ref z13])), (a1, .inr (2, [.ref a2, .ref z14])), (a2, .inl (y 3, 81, .inl (fun _ => 0)))] H := hP
  have hD : va_D A [(a0, .inr (12, [.ref z0, .ref z1, .ref z2, .ref z3, .ref z4, .ref z5, .ref a1, .ref z6, .ref z7, .ref z8, .ref z9, .ref z10, .ref z11, .ref z12, .ref z13])), (a1, .inr (2, [.ref a2, .ref z14])), (a2, .inl (y 3, 81, .inl (fun _ => 0)))] := hD
  refine W.widen (k := 0) (n := 0) (Nat.le_of_ble_eq_true rfl) (Nat.le_of_ble_eq_true rfl) ?_
  refine W.eq (g2 := F0 m 59 ls []) rfl ?_
  refine lv_iload hx hb dX10_give_59 (lv_at hl 0 rfl) ?_
  exact e_z hF hr (by decide) (Nat.le_of_ble_eq_true rfl) (Nat.le_of_ble_eq_true rfl) hS (qg_end hS (fun _ => 0) rfl [0, 1, 2] hP rfl (hD.sub [0, 1, 2] rfl rfl)) dX10_give_61

set_option maxHeartbeats 4000000 in
set_option maxRecDepth 100000 in
theorem c428_L_give (l : Launch) (a0 : Nat) (a1 : Nat) (a2 : Nat) (a3 : Nat) (z0 : Nat) (z1 : Nat) (z2 : Nat) (z3 : Nat) (z4 : Nat) (z5 : Nat) (z6 : Nat) (z7 : Nat) (z8 : Nat) (z9 : Nat) (z10 : Nat) (z11 : Nat) (z12 : Nat) (z13 : Nat) (z14 : Nat) (p0 : Int32) (p1 : Int32) (f0 : ¬ p0 < 0) (f1 : ¬ 9 ≤ p0) (f2 : ¬ p1 < 0) (f3 : ¬ 9 ≤ p1) (f4 : ¬ p0 = p1) : CT l (.codeWith yL_give cL_give 6 (some .int) [(0, 19, 22, 13)]) yL_give { frames := 3, cells := 0, slots := 0, locals := 68 } [.ref a0, .int p0, .int p1, .int 0, .ref a3] (fun y => [(a0, .inr (12, [.ref z0, .ref z1, .ref z2, .ref z3, .ref z4, .ref z5, .ref a1, .ref z6, .ref z7, .ref z8, .ref z9, .ref z10, .ref z11, .ref z12, .ref z13])), (a1, .inr (2, [.ref a2, .ref z14])), (a2, .inl (y 3, 81, .inl (fun _ => 0))), (a3, .inl (y 2, 1, .inr (.inl (fun _ => 0))))]) (fun y => [(a0, .inr (12, [.ref z0, .ref z1, .ref z2, .ref z3, .ref z4, .ref z5, .ref a1, .ref z6, .ref z7, .ref z8, .ref z9, .ref z10, .ref z11, .ref z12, .ref z13])), (a1, .inr (2, [.ref a2, .ref z14])), (a2, .inl (y 3, 81, .inl (fun _ => 0))), (a3, .inl (y 2, 1, .inr (.inl (fun _ => 0))))]) (fun u => some (.int 0)) (fun y u => [(a0, .inr (12, [.ref z0, .ref z1, .ref z2, .ref z3, .ref z4, .ref z5, .ref a1, .ref z6, .ref z7, .ref z8, .ref z9, .ref z10, .ref z11, .ref z12, .ref z13])), (a1, .inr (2, [.ref a2, .ref z14])), (a2, .inl (y 3, 81, .inl (fun _ => 0))), (a3, .inl (y 2, 1, .inr (.inl (fun _ => 0))))]) := by
  refine mkH (by decide) (Nat.le_of_ble_eq_true rfl) ?_
  intro p e s m args below meth c D y A ls hF htab hr hAe hP hD hS hl
  have hF : FX p e s m args meth c cL_give 6 RL "give" D y A := hF
  obtain ⟨⟨hx, hb, hml, hown, hts⟩, hev, heh, hA, hlk, hnm⟩ := id hF
  have hK := hev.1
  have hP : va_P D vwCl [(a0, .inr (12, [.ref z0, .ref z1, .ref z2, .ref z3, .ref z4, .ref z5, .ref a1, .ref z6, .ref z7, .ref z8, .ref z9, .ref z10, .ref z11, .ref z12, .ref z13])), (a1, .inr (2, [.ref a2, .ref z14])), (a2, .inl (y 3, 81, .inl (fun _ => 0))), (a3, .inl (y 2, 1, .inr (.inl (fun _ => 0))))] s.heap := hP
  have hD : va_D A [(a0, .inr (12, [.ref z0, .ref z1, .ref z2, .ref z3, .ref z4, .ref z5, .ref a1, .ref z6, .ref z7, .ref z8, .ref z9, .ref z10, .ref z11, .ref z12, .ref z13])), (a1, .inr (2, [.ref a2, .ref z14])), (a2, .inl (y 3, 81, .inl (fun _ => 0))), (a3, .inl (y 2, 1, .inr (.inl (fun _ => 0))))] := by rw [← hAe]; exact hD.self
  have hl : lv_has ls 6 [(0, .ref a0), (1, .int p0), (2, .int p1), (3, .int 0), (4, .ref a3)] := hl
  refine lv_aload hx hb dL_give_0 (lv_at hl 4 rfl) ?_
  refine lv_iconst (v := 0) hx hb dL_give_2 (by decide) ?_
  refine lv_aload_n hx hb dL_give_3 rfl (lv_at hl 0 rfl) ?_
  refine lv_iload_n hx hb dL_give_4 rfl (lv_at hl 1 rfl) ?_
  refine lv_iload_n hx hb dL_give_5 rfl (lv_at hl 2 rfl) ?_
  refine lv_iload_n hx hb dL_give_6 rfl (lv_at hl 3 rfl) ?_
  refine cV (l := l) (yM := yX10_give) (C := RX10) (As := [.int p0, .int p1, .int 0]) (rest := [.int 0, .ref a3]) (wr := [(a3, .inl (y 2, 1, .inr (.inl (fun _ => 0))))]) hF (c428_X10_give l a0 a1 a2 z0 z1 z2 z3 z4 z5 z6 z7 z8 z9 z10 z11 z12 z13 z14 p0 p1 f0 f1 f2 f3 f4) gv_RL_152 3 (by decide +kernel) rfl ⟨(Nat.le_of_ble_eq_true rfl), (Nat.le_of_ble_eq_true rfl)⟩ hl.1 rfl (Nat.le_of_ble_eq_true rfl) dL_give_7 ⟨(Nat.le_of_ble_eq_true rfl), (Nat.le_of_ble_eq_true rfl)⟩ hP hD hS (va_free (wc := [(a0, .inr (12, [.ref z0, .ref z1, .ref z2, .ref z3, .ref z4, .ref z5, .ref a1, .ref z6, .ref z7, .ref z8, .ref z9, .ref z10, .ref z11, .ref z12, .ref z13])), (a1, .inr (2, [.ref a2, .ref z14])), (a2, .inl (y 3, 81, .inl (fun _ => 0)))]) hD hS hA [0, 1, 2] rfl) (fun _ h => h) [0, 1, 2] [0, 1, 2] [3] rfl rfl rfl rfl rfl (by decide) 0 (ci := 12) rfl rfl rfl (fun u_1 H locs hP hD hS => ?_)
  have hP : va_P D vwCl [(a3, .inl (y 2, 1, .inr (.inl (fun _ => 0)))), (a0, .inr (12, [.ref z0, .ref z1, .ref z2, .ref z3, .ref z4, .ref z5, .ref a1, .ref z6, .ref z7, .ref z8, .ref z9, .ref z10, .ref z11, .ref z12, .ref z13])), (a1, .inr (2, [.ref a2, .ref z14])), (a2, .inl (y 3, 81, .inl (fun _ => 0)))] H := hP
  have hD : va_D A [(a3, .inl (y 2, 1, .inr (.inl (fun _ => 0)))), (a0, .inr (12, [.ref z0, .ref z1, .ref z2, .ref z3, .ref z4, .ref z5, .ref a1, .ref z6, .ref z7, .ref z8, .ref z9, .ref z10, .ref z11, .ref z12, .ref z13])), (a1, .inr (2, [.ref a2, .ref z14])), (a2, .inl (y 3, 81, .inl (fun _ => 0)))] := hD
  refine W.widen (k := 0) (n := 0) (Nat.le_of_ble_eq_true rfl) (Nat.le_of_ble_eq_true rfl) ?_
  refine W.eq (g2 := F0 m 10 ls [.int 0, .int 0, .ref a3]) rfl ?_
  refine lv_if_eq (tgt := 17) hx hb dL_give_10 (by decide) (fun _ => ?_) (fun c => absurd (by decide) c)
  refine lv_lconst (v := 0) hx hb dL_give_17 (by decide) ?_
  refine va_last hx hb hK hP hD hS 0 2 rfl rfl (vp_in_nI (n := 0) (by decide) (by decide)) dL_give_18 (fun H locs hP hD hS => ?_)
  obtain ⟨hP, hD⟩ := same_l (g := (fun _ => 0)) hP hD 0 rfl (fun j _ => up_l rfl)
  have hP : va_P D vwCl [(a3, .inl (y 2, 1, .inr (.inl (fun _ => 0)))), (a0, .inr (12, [.ref z0, .ref z1, .ref z2, .ref z3, .ref z4, .ref z5, .ref a1, .ref z6, .ref z7, .ref z8, .ref z9, .ref z10, .ref z11, .ref z12, .ref z13])), (a1, .inr (2, [.ref a2, .ref z14])), (a2, .inl (y 3, 81, .inl (fun _ => 0)))] H := hP
  have hD : va_D A [(a3, .inl (y 2, 1, .inr (.inl (fun _ => 0)))), (a0, .inr (12, [.ref z0, .ref z1, .ref z2, .ref z3, .ref z4, .ref z5, .ref a1, .ref z6, .ref z7, .ref z8, .ref z9, .ref z10, .ref z11, .ref z12, .ref z13])), (a1, .inr (2, [.ref a2, .ref z14])), (a2, .inl (y 3, 81, .inl (fun _ => 0)))] := hD
  refine lv_goto (tgt := 26) hx hb dL_give_19 (by decide) ?_
  refine lv_iconst (v := 0) hx hb dL_give_26 (by decide) ?_
  exact e_i hF hr (Nat.le_of_ble_eq_true rfl) (Nat.le_of_ble_eq_true rfl) hS (qg_end hS (fun _ => 0) rfl [1, 2, 3, 0] hP rfl (hD.sub [1, 2, 3, 0] rfl rfl)) dL_give_27

set_option maxHeartbeats 4000000 in
set_option maxRecDepth 100000 in
theorem c432_X11_give (l : Launch) (a0 : Nat) (a1 : Nat) (a2 : Nat) (a3 : Nat) (a4 : Nat) (a5 : Nat) (a6 : Nat) (a7 : Nat) (a8 : Nat) (a9 : Nat) (a10 : Nat) (z0 : Nat) (z1 : Nat) (z2 : Nat) (z3 : Nat) (z4 : Nat) (z5 : Nat) (z6 : Nat) (z7 : Nat) (z8 : Nat) (z9 : Nat) (z10 : Nat) (z11 : Nat) (z12 : Nat) (p0 : Int32) (p1 : Int32) (f0 : ¬ p0 < 0) (f1 : ¬ 9 ≤ p0) (f2 : ¬ p1 < 0) (f3 : ¬ 9 ≤ p1) (f4 : ¬ p0 = p1) : CT l (.code yX11_give cX11_give 5 (some .boolean)) yX11_give { frames := 1, cells := 0, slots := 0, locals := 23 } [.ref a0, .int p0, .int p1, .int 0] (fun y => [(a0, .inr (13, [.ref z0, .ref z1, .ref z2, .ref z3, .ref z4, .ref z5, .int 45, .ref z6, .ref z7, .ref z8, .int 0, .ref a10, .ref z9, .int 0, .int 0, .int 0, .int 0, .ref z10, .int 0, .null, .ref z11, .ref z12])), (a1, .inl (y 3, 9, .inl (fun _ => 0))), (a2, .inl (y 3, 9, .inl (fun _ => 0))), (a3, .inl (y 3, 9, .inl (fun _ => 0))), (a4, .inl (y 3, 9, .inl (fun _ => 0))), (a5, .inl (y 3, 9, .inl (fun _ => 0))), (a6, .inl (y 3, 9, .inl (fun _ => 0))), (a7, .inl (y 3, 9, .inl (fun _ => 0))), (a8, .inl (y 3, 9, .inl (fun _ => 0))), (a9, .inl (y 3, 9, .inl (fun _ => 0))), (a10, .inl (y 5, 9, .inr (.inr (.inr (.inr (fun i => [a1, a2, a3, a4, a5, a6, a7, a8, a9][i]?))))))]) (fun y => [(a0, .inr (13, [.ref z0, .ref z1, .ref z2, .ref z3, .ref z4, .ref z5, .int 45, .ref z6, .ref z7, .ref z8, .int 0, .ref a10, .ref z9, .int 0, .int 0, .int 0, .int 0, .ref z10, .int 0, .null, .ref z11, .ref z12])), (a1, .inl (y 3, 9, .inl (fun _ => 0))), (a2, .inl (y 3, 9, .inl (fun _ => 0))), (a3, .inl (y 3, 9, .inl (fun _ => 0))), (a4, .inl (y 3, 9, .inl (fun _ => 0))), (a5, .inl (y 3, 9, .inl (fun _ => 0))), (a6, .inl (y 3, 9, .inl (fun _ => 0))), (a7, .inl (y 3, 9, .inl (fun _ => 0))), (a8, .inl (y 3, 9, .inl (fun _ => 0))), (a9, .inl (y 3, 9, .inl (fun _ => 0))), (a10, .inl (y 5, 9, .inr (.inr (.inr (.inr (fun i => [a1, a2, a3, a4, a5, a6, a7, a8, a9][i]?))))))]) (fun u => some (.int 0)) (fun y u => [(a0, .inr (13, [.ref z0, .ref z1, .ref z2, .ref z3, .ref z4, .ref z5, .int 45, .ref z6, .ref z7, .ref z8, .int 0, .ref a10, .ref z9, .int 0, .int 0, .int 0, .int 0, .ref z10, .int 0, .null, .ref z11, .ref z12])), (a10, .inl (y 5, 9, .inr (.inr (.inr (.inr (fun i => [a1, a2, a3, a4, a5, a6, a7, a8, a9][i]?))))))]) := by
  refine mkM (by decide) (Nat.le_of_ble_eq_true rfl) ?_
  intro p e s m args below meth c D y A ls hF hr hAe hP hD hS hl
  have hF : FX p e s m args meth c cX11_give 5 RX11 "give" D y A := hF
  obtain ⟨⟨hx, hb, hml, hown, hts⟩, hev, heh, hA, hlk, hnm⟩ := id hF
  have hK := hev.1
  have hP : va_P D vwCl [(a0, .inr (13, [.ref z0, .ref z1, .ref z2, .ref z3, .ref z4, .ref z5, .int 45, .ref z6, .ref z7, .ref z8, .int 0, .ref a10, .ref z9, .int 0, .int 0, .int 0, .int 0, .ref z10, .int 0, .null, .ref z11, .ref z12])), (a1, .inl (y 3, 9, .inl (fun _ => 0))), (a2, .inl (y 3, 9, .inl (fun _ => 0))), (a3, .inl (y 3, 9, .inl (fun _ => 0))), (a4, .inl (y 3, 9, .inl (fun _ => 0))), (a5, .inl (y 3, 9, .inl (fun _ => 0))), (a6, .inl (y 3, 9, .inl (fun _ => 0))), (a7, .inl (y 3, 9, .inl (fun _ => 0))), (a8, .inl (y 3, 9, .inl (fun _ => 0))), (a9, .inl (y 3, 9, .inl (fun _ => 0))), (a10, .inl (y 5, 9, .inr (.inr (.inr (.inr (fun i => [a1, a2, a3, a4, a5, a6, a7, a8, a9][i]?))))))] s.heap := hP
  have hD : va_D A [(a0, .inr (13, [.ref z0, .ref z1, .ref z2, .ref z3, .ref z4, .ref z5, .int 45, .ref z6, .ref z7, .ref z8, .int 0, .ref a10, .ref z9, .int 0, .int 0, .int 0, .int 0, .ref z10, .int 0, .null, .ref z11, .ref z12])), (a1, .inl (y 3, 9, .inl (fun _ => 0))), (a2, .inl (y 3, 9, .inl (fun _ => 0))), (a3, .inl (y 3, 9, .inl (fun _ => 0))), (a4, .inl (y 3, 9, .inl (fun _ => 0))), (a5, .inl (y 3, 9, .inl (fun _ => 0))), (a6, .inl (y 3, 9, .inl (fun _ => 0))), (a7, .inl (y 3, 9, .inl (fun _ => 0))), (a8, .inl (y 3, 9, .inl (fun _ => 0))), (a9, .inl (y 3, 9, .inl (fun _ => 0))), (a10, .inl (y 5, 9, .inr (.inr (.inr (.inr (fun i => [a1, a2, a3, a4, a5, a6, a7, a8, a9][i]?))))))] := by rw [← hAe]; exact hD.self
  have hl : lv_has ls 5 [(0, .ref a0), (1, .int p0), (2, .int p1), (3, .int 0)] := hl
  refine lv_aload_n hx hb dX11_give_0 rfl (lv_at hl 0 rfl) ?_
  refine lv_iload_n hx hb dX11_give_1 rfl (lv_at hl 1 rfl) ?_
  refine lv_iconst (v := 0) hx hb dX11_give_2 (by decide) ?_
  refine lv_bipush (v := 8) hx hb dX11_give_3 (by decide) ?_
  refine cS (l := l) (yM := yX11_in) (As := [.int p0, .int 0, .int 8]) (rest := [.ref a0]) (wr := [(a0, .inr (13, [.ref z0, .ref z1, .ref z2, .ref z3, .ref z4, .ref z5, .int 45, .ref z6, .ref z7, .ref z8, .int 0, .ref a10, .ref z9, .int 0, .int 0, .int 0, .int 0, .ref z10, .int 0, .null, .ref z11, .ref z12])), (a1, .inl (y 3, 9, .inl (fun _ => 0))), (a2, .inl (y 3, 9, .inl (fun _ => 0))), (a3, .inl (y 3, 9, .inl (fun _ => 0))), (a4, .inl (y 3, 9, .inl (fun _ => 0))), (a5, .inl (y 3, 9, .inl (fun _ => 0))), (a6, .inl (y 3, 9, .inl (fun _ => 0))), (a7, .inl (y 3, 9, .inl (fun _ => 0))), (a8, .inl (y 3, 9, .inl (fun _ => 0))), (a9, .inl (y 3, 9, .inl (fun _ => 0))), (a10, .inl (y 5, 9, .inr (.inr (.inr (.inr (fun i => [a1, a2, a3, a4, a5, a6, a7, a8, a9][i]?))))))]) hF (c420_X11_in l p0 f0 f1) gs_RX11_78 3 (by decide +kernel) rfl ⟨(Nat.le_of_ble_eq_true rfl), (Nat.le_of_ble_eq_true rfl)⟩ hl.1 rfl (Nat.le_of_ble_eq_true rfl) dX11_give_5 ⟨(Nat.le_of_ble_eq_true rfl), (Nat.le_of_ble_eq_true rfl)⟩ hP hD hS (pA hA hS) (fun _ h => h) [] [] [0, 1, 2, 3, 4, 5, 6, 7, 8, 9, 10] rfl rfl rfl rfl rfl (by decide) (fun u_1 H locs hP hD hS => ?_)
  have hP : va_P D vwCl [(a0, .inr (13, [.ref z0, .ref z1, .ref z2, .ref z3, .ref z4, .ref z5, .int 45, .ref z6, .ref z7, .ref z8, .int 0, .ref a10, .ref z9, .int 0, .int 0, .int 0, .int 0, .ref z10, .int 0, .null, .ref z11, .ref z12])), (a1, .inl (y 3, 9, .inl (fun _ => 0))), (a2, .inl (y 3, 9, .inl (fun _ => 0))), (a3, .inl (y 3, 9, .inl (fun _ => 0))), (a4, .inl (y 3, 9, .inl (fun _ => 0))), (a5, .inl (y 3, 9, .inl (fun _ => 0))), (a6, .inl (y 3, 9, .inl (fun _ => 0))), (a7, .inl (y 3, 9, .inl (fun _ => 0))), (a8, .inl (y 3, 9, .inl (fun _ => 0))), (a9, .inl (y 3, 9, .inl (fun _ => 0))), (a10, .inl (y 5, 9, .inr (.inr (.inr (.inr (fun i => [a1, a2, a3, a4, a5, a6, a7, a8, a9][i]?))))))] H := hP
  have hD : va_D A [(a0, .inr (13, [.ref z0, .ref z1, .ref z2, .ref z3, .ref z4, .ref z5, .int 45, .ref z6, .ref z7, .ref z8, .int 0, .ref a10, .ref z9, .int 0, .int 0, .int 0, .int 0, .ref z10, .int 0, .null, .ref z11, .ref z12])), (a1, .inl (y 3, 9, .inl (fun _ => 0))), (a2, .inl (y 3, 9, .inl (fun _ => 0))), (a3, .inl (y 3, 9, .inl (fun _ => 0))), (a4, .inl (y 3, 9, .inl (fun _ => 0))), (a5, .inl (y 3, 9, .inl (fun _ => 0))), (a6, .inl (y 3, 9, .inl (fun _ => 0))), (a7, .inl (y 3, 9, .inl (fun _ => 0))), (a8, .inl (y 3, 9, .inl (fun _ => 0))), (a9, .inl (y 3, 9, .inl (fun _ => 0))), (a10, .inl (y 5, 9, .inr (.inr (.inr (.inr (fun i => [a1, a2, a3, a4, a5, a6, a7, a8, a9][i]?))))))] := hD
  refine W.widen (k := 0) (n := 0) (Nat.le_of_ble_eq_true rfl) (Nat.le_of_ble_eq_true rfl) ?_
  refine W.eq (g2 := F0 m 8 ls [.int 1, .ref a0]) rfl ?_
  refine lv_if_eq (tgt := 26) hx hb dX11_give_8 (by decide) (fun c => absurd c (by decide)) (fun _ => ?_)
  refine lv_iload_n hx hb dX11_give_11 rfl (lv_at hl 2 rfl) ?_
  refine lv_iconst (v := 0) hx hb dX11_give_12 (by decide) ?_
  refine lv_bipush (v := 8) hx hb dX11_give_13 (by decide) ?_
  refine cS (l := l) (yM := yX11_in) (As := [.int p1, .int 0, .int 8]) (rest := [.ref a0]) (wr := [(a0, .inr (13, [.ref z0, .ref z1, .ref z2, .ref z3, .ref z4, .ref z5, .int 45, .ref z6, .ref z7, .ref z8, .int 0, .ref a10, .ref z9, .int 0, .int 0, .int 0, .int 0, .ref z10, .int 0, .null, .ref z11, .ref z12])), (a1, .inl (y 3, 9, .inl (fun _ => 0))), (a2, .inl (y 3, 9, .inl (fun _ => 0))), (a3, .inl (y 3, 9, .inl (fun _ => 0))), (a4, .inl (y 3, 9, .inl (fun _ => 0))), (a5, .inl (y 3, 9, .inl (fun _ => 0))), (a6, .inl (y 3, 9, .inl (fun _ => 0))), (a7, .inl (y 3, 9, .inl (fun _ => 0))), (a8, .inl (y 3, 9, .inl (fun _ => 0))), (a9, .inl (y 3, 9, .inl (fun _ => 0))), (a10, .inl (y 5, 9, .inr (.inr (.inr (.inr (fun i => [a1, a2, a3, a4, a5, a6, a7, a8, a9][i]?))))))]) hF (c420_X11_in l p1 f2 f3) gs_RX11_78 3 (by decide +kernel) rfl ⟨(Nat.le_of_ble_eq_true rfl), (Nat.le_of_ble_eq_true rfl)⟩ hl.1 rfl (Nat.le_of_ble_eq_true rfl) dX11_give_15 ⟨(Nat.le_of_ble_eq_true rfl), (Nat.le_of_ble_eq_true rfl)⟩ hP hD hS (pA hA hS) (fun _ h => h) [] [] [0, 1, 2, 3, 4, 5, 6, 7, 8, 9, 10] rfl rfl rfl rfl rfl (by decide) (fun u_2 H locs hP hD hS => ?_)
  have hP : va_P D vwCl [(a0, .inr (13, [.ref z0, .ref z1, .ref z2, .ref z3, .ref z4, .ref z5, .int 45, .ref z6, .ref z7, .ref z8, .int 0, .ref a10, .ref z9, .int 0, .int 0, .int 0, .int 0, .ref z10, .int 0, .null, .ref z11, .ref z12])), (a1, .inl (y 3, 9, .inl (fun _ => 0))), (a2, .inl (y 3, 9, .inl (fun _ => 0))), (a3, .inl (y 3, 9, .inl (fun _ => 0))), (a4, .inl (y 3, 9, .inl (fun _ => 0))), (a5, .inl (y 3, 9, .inl (fun _ => 0))), (a6, .inl (y 3, 9, .inl (fun _ => 0))), (a7, .inl (y 3, 9, .inl (fun _ => 0))), (a8, .inl (y 3, 9, .inl (fun _ => 0))), (a9, .inl (y 3, 9, .inl (fun _ => 0))), (a10, .inl (y 5, 9, .inr (.inr (.inr (.inr (fun i => [a1, a2, a3, a4, a5, a6, a7, a8, a9][i]?))))))] H := hP
  have hD : va_D A [(a0, .inr (13, [.ref z0, .ref z1, .ref z2, .ref z3, .ref z4, .ref z5, .int 45, .ref z6, .ref z7, .ref z8, .int 0, .ref a10, .ref z9, .int 0, .int 0, .int 0, .int 0, .ref z10, .int 0, .null, .ref z11, .ref z12])), (a1, .inl (y 3, 9, .inl (fun _ => 0))), (a2, .inl (y 3, 9, .inl (fun _ => 0))), (a3, .inl (y 3, 9, .inl (fun _ => 0))), (a4, .inl (y 3, 9, .inl (fun _ => 0))), (a5, .inl (y 3, 9, .inl (fun _ => 0))), (a6, .inl (y 3, 9, .inl (fun _ => 0))), (a7, .inl (y 3, 9, .inl (fun _ => 0))), (a8, .inl (y 3, 9, .inl (fun _ => 0))), (a9, .inl (y 3, 9, .inl (fun _ => 0))), (a10, .inl (y 5, 9, .inr (.inr (.inr (.inr (fun i => [a1, a2, a3, a4, a5, a6, a7, a8, a9][i]?))))))] := hD
  refine W.widen (k := 0) (n := 0) (Nat.le_of_ble_eq_true rfl) (Nat.le_of_ble_eq_true rfl) ?_
  refine W.eq (g2 := F0 m 18 ls [.int 1, .ref a0]) rfl ?_
  refine lv_if_eq (tgt := 26) hx hb dX11_give_18 (by decide) (fun c => absurd c (by decide)) (fun _ => ?_)
  refine lv_iload_n hx hb dX11_give_21 rfl (lv_at hl 1 rfl) ?_
  refine lv_iload_n hx hb dX11_give_22 rfl (lv_at hl 2 rfl) ?_
  refine lv_icmp_ne (tgt := 30) hx hb dX11_give_23 (by decide) (fun _ => ?_) (fun c => absurd c f4)
  refine lv_iconst (v := 0) hx hb dX11_give_30 (by decide) ?_
  refine lv_iconst (v := 0) hx hb dX11_give_31 (by decide) ?_
  refine lv_iconst (v := 0) hx hb dX11_give_32 (by decide) ?_
  refine cV (l := l) (yM := yX11_fails) (C := RX11) (As := [.int 0, .int 0, .int 0]) (rest := []) (wr := [(a1, .inl (y 3, 9, .inl (fun _ => 0))), (a2, .inl (y 3, 9, .inl (fun _ => 0))), (a3, .inl (y 3, 9, .inl (fun _ => 0))), (a4, .inl (y 3, 9, .inl (fun _ => 0))), (a5, .inl (y 3, 9, .inl (fun _ => 0))), (a6, .inl (y 3, 9, .inl (fun _ => 0))), (a7, .inl (y 3, 9, .inl (fun _ => 0))), (a8, .inl (y 3, 9, .inl (fun _ => 0))), (a9, .inl (y 3, 9, .inl (fun _ => 0))), (a10, .inl (y 5, 9, .inr (.inr (.inr (.inr (fun i => [a1, a2, a3, a4, a5, a6, a7, a8, a9][i]?))))))]) hF (c32_X11_fails l a0 z0 z1 z2 z3 z4 z5 z6 z7 z8 a10 z9 z10 z11 z12) gv_RX11_128 3 (by decide +kernel) rfl ⟨(Nat.le_of_ble_eq_true rfl), (Nat.le_of_ble_eq_true rfl)⟩ hl.1 rfl (Nat.le_of_ble_eq_true rfl) dX11_give_33 ⟨(Nat.le_of_ble_eq_true rfl), (Nat.le_of_ble_eq_true rfl)⟩ hP hD hS (va_free (wc := [(a0, .inr (13, [.ref z0, .ref z1, .ref z2, .ref z3, .ref z4, .ref z5, .int 45, .ref z6, .ref z7, .ref z8, .int 0, .ref a10, .ref z9, .int 0, .int 0, .int 0, .int 0, .ref z10, .int 0, .null, .ref z11, .ref z12]))]) hD hS hA [0] rfl) (fun _ h => h) [0] [0] [1, 2, 3, 4, 5, 6, 7, 8, 9, 10] rfl rfl rfl rfl rfl (by decide) 0 (ci := 13) rfl rfl rfl (fun u_3 H locs hP hD hS => ?_)
  have hP : va_P D vwCl [(a1, .inl (y 3, 9, .inl (fun _ => 0))), (a2, .inl (y 3, 9, .inl (fun _ => 0))), (a3, .inl (y 3, 9, .inl (fun _ => 0))), (a4, .inl (y 3, 9, .inl (fun _ => 0))), (a5, .inl (y 3, 9, .inl (fun _ => 0))), (a6, .inl (y 3, 9, .inl (fun _ => 0))), (a7, .inl (y 3, 9, .inl (fun _ => 0))), (a8, .inl (y 3, 9, .inl (fun _ => 0))), (a9, .inl (y 3, 9, .inl (fun _ => 0))), (a10, .inl (y 5, 9, .inr (.inr (.inr (.inr (fun i => [a1, a2, a3, a4, a5, a6, a7, a8, a9][i]?)))))), (a0, .inr (13, [.ref z0, .ref z1, .ref z2, .ref z3, .ref z4, .ref z5, .int 45, .ref z6, .ref z7, .ref z8, .int 0, .ref a10, .ref z9, .int 0, .int 0, .int 0, .int 0, .ref z10, .int 0, .null, .ref z11, .ref z12]))] H := hP
  have hD : va_D A [(a1, .inl (y 3, 9, .inl (fun _ => 0))), (a2, .inl (y 3, 9, .inl (fun _ => 0))), (a3, .inl (y 3, 9, .inl (fun _ => 0))), (a4, .inl (y 3, 9, .inl (fun _ => 0))), (a5, .inl (y 3, 9, .inl (fun _ => 0))), (a6, .inl (y 3, 9, .inl (fun _ => 0))), (a7, .inl (y 3, 9, .inl (fun _ => 0))), (a8, .inl (y 3, 9, .inl (fun _ => 0))), (a9, .inl (y 3, 9, .inl (fun _ => 0))), (a10, .inl (y 5, 9, .inr (.inr (.inr (.inr (fun i => [a1, a2, a3, a4, a5, a6, a7, a8, a9][i]?)))))), (a0, .inr (13, [.ref z0, .ref z1, .ref z2, .ref z3, .ref z4, .ref z5, .int 45, .ref z6, .ref z7, .ref z8, .int 0, .ref a10, .ref z9, .int 0, .int 0, .int 0, .int 0, .ref z10, .int 0, .null, .ref z11, .ref z12]))] := hD
  refine W.widen (k := 0) (n := 0) (Nat.le_of_ble_eq_true rfl) (Nat.le_of_ble_eq_true rfl) ?_
  refine W.eq (g2 := F0 m 36 ls [.int 0]) rfl ?_
  refine lv_if_eq (tgt := 41) hx hb dX11_give_36 (by decide) (fun _ => ?_) (fun c => absurd (by decide) c)
  refine lv_aload_n hx hb dX11_give_41 rfl (lv_at hl 0 rfl) ?_
  refine va_get (D := D) (ci := 13) (v := .ref a10) (C := RX11) (T := TX11) (N := 22) hx hb hts inX11 hown hK hP 10 rfl rfl 11 (by decide) (hts _ wd_131) (fun _ h9 => h9) rfl dX11_give_42 ?_
  refine lv_iload_n hx hb dX11_give_45 rfl (lv_at hl 1 rfl) ?_
  rcases sp9 f0 (by have e0 : (0 : Int32).toInt = 0 := (by decide); have e1 : (8 : Int32).toInt = 8 := (by decide); have e2 : (9 : Int32).toInt = 9 := (by decide); have h9 := (⟨f0, f1, f4⟩ : _ ∧ _ ∧ _); simp only [Int32.lt_iff_toInt_lt, Int32.le_iff_toInt_le, ← Int32.toInt_inj, e0, e1, e2] at h9 ⊢; omega) with rfl | rfl | rfl | rfl | rfl | rfl | rfl | rfl | rfl
  · refine ald_A (v := .ref a1) hF hP 9 5 rfl rfl rfl (vp_in_nI (n := 0) (by decide) (by decide)) rfl dX11_give_46 ?_
    refine lv_iload_n hx hb dX11_give_47 rfl (lv_at hl 2 rfl) ?_
    refine va_zald hx hb hK hP 0 3 rfl rfl (vin2 (n := 9) f2 f3 (by decide)) dX11_give_48 ?_
    refine tp_i (v := 0) rfl ?_
    refine lv_istore (lv' := [(4, .int 0), (0, .ref a0), (1, .int 0), (2, .int p1), (3, .int 0)]) hx hb dX11_give_49 hl (by decide) rfl (fun ls hl => ?_)
    refine lv_aload_n hx hb dX11_give_51 rfl (lv_at hl 1 rfl) ?_
    refine va_get (D := D) (ci := 13) (v := .ref a10) (C := RX11) (T := TX11) (N := 22) hx hb hts inX11 hown hK hP 10 rfl rfl 11 (by decide) (hts _ wd_131) (fun _ h9 => h9) rfl dX11_give_52 ?_
    refine lv_iload_n hx hb dX11_give_55 rfl (lv_at hl 2 rfl) ?_
    refine ald_A (v := .ref a1) hF hP 9 5 rfl rfl rfl (vp_in_nI (n := 0) (by decide) (by decide)) rfl dX11_give_56 ?_
    refine lv_iload_n hx hb dX11_give_57 rfl (lv_at hl 3 rfl) ?_
    refine lv_iload_n hx hb dX11_give_58 rfl (lv_at hl 4 rfl) ?_
    refine va_zast hx hb hK hP hD hS 0 3 rfl rfl (vin2 (n := 9) f2 f3 (by decide)) dX11_give_59 (fun H locs hP hD hS => ?_)
    obtain ⟨hP, hD⟩ := same_c (g := (fun _ => 0)) hP hD 0 rfl (fun j _ => up_c rfl)
    have hP : va_P D vwCl [(a1, .inl (y 3, 9, .inl (fun _ => 0))), (a2, .inl (y 3, 9, .inl (fun _ => 0))), (a3, .inl (y 3, 9, .inl (fun _ => 0))), (a4, .inl (y 3, 9, .inl (fun _ => 0))), (a5, .inl (y 3, 9, .inl (fun _ => 0))), (a6, .inl (y 3, 9, .inl (fun _ => 0))), (a7, .inl (y 3, 9, .inl (fun _ => 0))), (a8, .inl (y 3, 9, .inl (fun _ => 0))), (a9, .inl (y 3, 9, .inl (fun _ => 0))), (a10, .inl (y 5, 9, .inr (.inr (.inr (.inr (fun i => [a1, a2, a3, a4, a5, a6, a7, a8, a9][i]?)))))), (a0, .inr (13, [.ref z0, .ref z1, .ref z2, .ref z3, .ref z4, .ref z5, .int 45, .ref z6, .ref z7, .ref z8, .int 0, .ref a10, .ref z9, .int 0, .int 0, .int 0, .int 0, .ref z10, .int 0, .null, .ref z11, .ref z12]))] H := hP
    have hD : va_D A [(a1, .inl (y 3, 9, .inl (fun _ => 0))), (a2, .inl (y 3, 9, .inl (fun _ => 0))), (a3, .inl (y 3, 9, .inl (fun _ => 0))), (a4, .inl (y 3, 9, .inl (fun _ => 0))), (a5, .inl (y 3, 9, .inl (fun _ => 0))), (a6, .inl (y 3, 9, .inl (fun _ => 0))), (a7, .inl (y 3, 9, .inl (fun _ => 0))), (a8, .inl (y 3, 9, .inl (fun _ => 0))), (a9, .inl (y 3, 9, .inl (fun _ => 0))), (a10, .inl (y 5, 9, .inr (.inr (.inr (.inr (fun i => [a1, a2, a3, a4, a5, a6, a7, a8, a9][i]?)))))), (a0, .inr (13, [.ref z0, .ref z1, .ref z2, .ref z3, .ref z4, .ref z5, .int 45, .ref z6, .ref z7, .ref z8, .int 0, .ref a10, .ref z9, .int 0, .int 0, .int 0, .int 0, .ref z10, .int 0, .null, .ref z11, .ref z12]))] := hD
    refine lv_iload hx hb dX11_give_60 (lv_at hl 0 rfl) ?_
    exact e_z hF hr (by decide) (Nat.le_of_ble_eq_true rfl) (Nat.le_of_ble_eq_true rfl) hS (qg_end hS (fun _ => 0) rfl [10, 9] hP rfl (hD.sub [10, 9] rfl rfl)) dX11_give_62
  · refine ald_A (v := .ref a2) hF hP 9 5 rfl rfl rfl (vp_in_nI (n := 1) (by decide) (by decide)) rfl dX11_give_46 ?_
    refine lv_iload_n hx hb dX11_give_47 rfl (lv_at hl 2 rfl) ?_
    refine va_zald hx hb hK hP 1 3 rfl rfl (vin2 (n := 9) f2 f3 (by decide)) dX11_give_48 ?_
    refine tp_i (v := 0) rfl ?_
    refine lv_istore (lv' := [(4, .int 0), (0, .ref a0), (1, .int 1), (2, .int p1), (3, .int 0)]) hx hb dX11_give_49 hl (by decide) rfl (fun ls hl => ?_)
    refine lv_aload_n hx hb dX11_give_51 rfl (lv_at hl 1 rfl) ?_
    refine va_get (D := D) (ci := 13) (v := .ref a10) (C := RX11) (T := TX11) (N := 22) hx hb hts inX11 hown hK hP 10 rfl rfl 11 (by decide) (hts _ wd_131) (fun _ h9 => h9) rfl dX11_give_52 ?_
    refine lv_iload_n hx hb dX11_give_55 rfl (lv_at hl 2 rfl) ?_
    refine ald_A (v := .ref a2) hF hP 9 5 rfl rfl rfl (vp_in_nI (n := 1) (by decide) (by decide)) rfl dX11_give_56 ?_
    refine lv_iload_n hx hb dX11_give_57 rfl (lv_at hl 3 rfl) ?_
    refine lv_iload_n hx hb dX11_give_58 rfl (lv_at hl 4 rfl) ?_
    refine va_zast hx hb hK hP hD hS 1 3 rfl rfl (vin2 (n := 9) f2 f3 (by decide)) dX11_give_59 (fun H locs hP hD hS => ?_)
    obtain ⟨hP, hD⟩ := same_c (g := (fun _ => 0)) hP hD 1 rfl (fun j _ => up_c rfl)
    have hP : va_P D vwCl [(a1, .inl (y 3, 9, .inl (fun _ => 0))), (a2, .inl (y 3, 9, .inl (fun _ => 0))), (a3, .inl (y 3, 9, .inl (fun _ => 0))), (a4, .inl (y 3, 9, .inl (fun _ => 0))), (a5, .inl (y 3, 9, .inl (fun _ => 0))), (a6, .inl (y 3, 9, .inl (fun _ => 0))), (a7, .inl (y 3, 9, .inl (fun _ => 0))), (a8, .inl (y 3, 9, .inl (fun _ => 0))), (a9, .inl (y 3, 9, .inl (fun _ => 0))), (a10, .inl (y 5, 9, .inr (.inr (.inr (.inr (fun i => [a1, a2, a3, a4, a5, a6, a7, a8, a9][i]?)))))), (a0, .inr (13, [.ref z0, .ref z1, .ref z2, .ref z3, .ref z4, .ref z5, .int 45, .ref z6, .ref z7, .ref z8, .int 0, .ref a10, .ref z9, .int 0, .int 0, .int 0, .int 0, .ref z10, .int 0, .null, .ref z11, .ref z12]))] H := hP
    have hD : va_D A [(a1, .inl (y 3, 9, .inl (fun _ => 0))), (a2, .inl (y 3, 9, .inl (fun _ => 0))), (a3, .inl (y 3, 9, .inl (fun _ => 0))), (a4, .inl (y 3, 9, .inl (fun _ => 0))), (a5, .inl (y 3, 9, .inl (fun _ => 0))), (a6, .inl (y 3, 9, .inl (fun _ => 0))), (a7, .inl (y 3, 9, .inl (fun _ => 0))), (a8, .inl (y 3, 9, .inl (fun _ => 0))), (a9, .inl (y 3, 9, .inl (fun _ => 0))), (a10, .inl (y 5, 9, .inr (.inr (.inr (.inr (fun i => [a1, a2, a3, a4, a5, a6, a7, a8, a9][i]?)))))), (a0, .inr (13, [.ref z0, .ref z1, .ref z2, .ref z3, .ref z4, .ref z5, .int 45, .ref z6, .ref z7, .ref z8, .int 0, .ref a10, .ref z9, .int 0, .int 0, .int 0, .int 0, .ref z10, .int 0, .null, .ref z11, .ref z12]))] := hD
    refine lv_iload hx hb dX11_give_60 (lv_at hl 0 rfl) ?_
    exact e_z hF hr (by decide) (Nat.le_of_ble_eq_true rfl) (Nat.le_of_ble_eq_true rfl) hS (qg_end hS (fun _ => 0) rfl [10, 9] hP rfl (hD.sub [10, 9] rfl rfl)) dX11_give_62
  · refine ald_A (v := .ref a3) hF hP 9 5 rfl rfl rfl (vp_in_nI (n := 2) (by decide) (by decide)) rfl dX11_give_46 ?_
    refine lv_iload_n hx hb dX11_give_47 rfl (lv_at hl 2 rfl) ?_
    refine va_zald hx hb hK hP 2 3 rfl rfl (vin2 (n := 9) f2 f3 (by decide)) dX11_give_48 ?_
    refine tp_i (v := 0) rfl ?_
    refine lv_istore (lv' := [(4, .int 0), (0, .ref a0), (1, .int 2), (2, .int p1), (3, .int 0)]) hx hb dX11_give_49 hl (by decide) rfl (fun ls hl => ?_)
    refine lv_aload_n hx hb dX11_give_51 rfl (lv_at hl 1 rfl) ?_
    refine va_get (D := D) (ci := 13) (v := .ref a10) (C := RX11) (T := TX11) (N := 22) hx hb hts inX11 hown hK hP 10 rfl rfl 11 (by decide) (hts _ wd_131) (fun _ h9 => h9) rfl dX11_give_52 ?_
    refine lv_iload_n hx hb dX11_give_55 rfl (lv_at hl 2 rfl) ?_
    refine ald_A (v := .ref a3) hF hP 9 5 rfl rfl rfl (vp_in_nI (n := 2) (by decide) (by decide)) rfl dX11_give_56 ?_
    refine lv_iload_n hx hb dX11_give_57 rfl (lv_at hl 3 rfl) ?_
    refine lv_iload_n hx hb dX11_give_58 rfl (lv_at hl 4 rfl) ?_
    refine va_zast hx hb hK hP hD hS 2 3 rfl rfl (vin2 (n := 9) f2 f3 (by decide)) dX11_give_59 (fun H locs hP hD hS => ?_)
    obtain ⟨hP, hD⟩ := same_c (g := (fun _ => 0)) hP hD 2 rfl (fun j _ => up_c rfl)
    have hP : va_P D vwCl [(a1, .inl (y 3, 9, .inl (fun _ => 0))), (a2, .inl (y 3, 9, .inl (fun _ => 0))), (a3, .inl (y 3, 9, .inl (fun _ => 0))), (a4, .inl (y 3, 9, .inl (fun _ => 0))), (a5, .inl (y 3, 9, .inl (fun _ => 0))), (a6, .inl (y 3, 9, .inl (fun _ => 0))), (a7, .inl (y 3, 9, .inl (fun _ => 0))), (a8, .inl (y 3, 9, .inl (fun _ => 0))), (a9, .inl (y 3, 9, .inl (fun _ => 0))), (a10, .inl (y 5, 9, .inr (.inr (.inr (.inr (fun i => [a1, a2, a3, a4, a5, a6, a7, a8, a9][i]?)))))), (a0, .inr (13, [.ref z0, .ref z1, .ref z2, .ref z3, .ref z4, .ref z5, .int 45, .ref z6, .ref z7, .ref z8, .int 0, .ref a10, .ref z9, .int 0, .int 0, .int 0, .int 0, .ref z10, .int 0, .null, .ref z11, .ref z12]))] H := hP
    have hD : va_D A [(a1, .inl (y 3, 9, .inl (fun _ => 0))), (a2, .inl (y 3, 9, .inl (fun _ => 0))), (a3, .inl (y 3, 9, .inl (fun _ => 0))), (a4, .inl (y 3, 9, .inl (fun _ => 0))), (a5, .inl (y 3, 9, .inl (fun _ => 0))), (a6, .inl (y 3, 9, .inl (fun _ => 0))), (a7, .inl (y 3, 9, .inl (fun _ => 0))), (a8, .inl (y 3, 9, .inl (fun _ => 0))), (a9, .inl (y 3, 9, .inl (fun _ => 0))), (a10, .inl (y 5, 9, .inr (.inr (.inr (.inr (fun i => [a1, a2, a3, a4, a5, a6, a7, a8, a9][i]?)))))), (a0, .inr (13, [.ref z0, .ref z1, .ref z2, .ref z3, .ref z4, .ref z5, .int 45, .ref z6, .ref z7, .ref z8, .int 0, .ref a10, .ref z9, .int 0, .int 0, .int 0, .int 0, .ref z10, .int 0, .null, .ref z11, .ref z12]))] := hD
    refine lv_iload hx hb dX11_give_60 (lv_at hl 0 rfl) ?_
    exact e_z hF hr (by decide) (Nat.le_of_ble_eq_true rfl) (Nat.le_of_ble_eq_true rfl) hS (qg_end hS (fun _ => 0) rfl [10, 9] hP rfl (hD.sub [10, 9] rfl rfl)) dX11_give_62
  · refine ald_A (v := .ref a4) hF hP 9 5 rfl rfl rfl (vp_in_nI (n := 3) (by decide) (by decide)) rfl dX11_give_46 ?_
    refine lv_iload_n hx hb dX11_give_47 rfl (lv_at hl 2 rfl) ?_
    refine va_zald hx hb hK hP 3 3 rfl rfl (vin2 (n := 9) f2 f3 (by decide)) dX11_give_48 ?_
    refine tp_i (v := 0) rfl ?_
    refine lv_istore (lv' := [(4, .int 0), (0, .ref a0), (1, .int 3), (2, .int p1), (3, .int 0)]) hx hb dX11_give_49 hl (by decide) rfl (fun ls hl => ?_)
    refine lv_aload_n hx hb dX11_give_51 rfl (lv_at hl 1 rfl) ?_
    refine va_get (D := D) (ci := 13) (v := .ref a10) (C := RX11) (T := TX11) (N := 22) hx hb hts inX11 hown hK hP 10 rfl rfl 11 (by decide) (hts _ wd_131) (fun _ h9 => h9) rfl dX11_give_52 ?_
    refine lv_iload_n hx hb dX11_give_55 rfl (lv_at hl 2 rfl) ?_
    refine ald_A (v := .ref a4) hF hP 9 5 rfl rfl rfl (vp_in_nI (n := 3) (by decide) (by decide)) rfl dX11_give_56 ?_
    refine lv_iload_n hx hb dX11_give_57 rfl (lv_at hl 3 rfl) ?_
    refine lv_iload_n hx hb dX11_give_58 rfl (lv_at hl 4 rfl) ?_
    refine va_zast hx hb hK hP hD hS 3 3 rfl rfl (vin2 (n := 9) f2 f3 (by decide)) dX11_give_59 (fun H locs hP hD hS => ?_)
    obtain ⟨hP, hD⟩ := same_c (g := (fun _ => 0)) hP hD 3 rfl (fun j _ => up_c rfl)
    have hP : va_P D vwCl [(a1, .inl (y 3, 9, .inl (fun _ => 0))), (a2, .inl (y 3, 9, .inl (fun _ => 0))), (a3, .inl (y 3, 9, .inl (fun _ => 0))), (a4, .inl (y 3, 9, .inl (fun _ => 0))), (a5, .inl (y 3, 9, .inl (fun _ => 0))), (a6, .inl (y 3, 9, .inl (fun _ => 0))), (a7, .inl (y 3, 9, .inl (fun _ => 0))), (a8, .inl (y 3, 9, .inl (fun _ => 0))), (a9, .inl (y 3, 9, .inl (fun _ => 0))), (a10, .inl (y 5, 9, .inr (.inr (.inr (.inr (fun i => [a1, a2, a3, a4, a5, a6, a7, a8, a9][i]?)))))), (a0, .inr (13, [.ref z0, .ref z1, .ref z2, .ref z3, .ref z4, .ref z5, .int 45, .ref z6, .ref z7, .ref z8, .int 0, .ref a10, .ref z9, .int 0, .int 0, .int 0, .int 0, .ref z10, .int 0, .null, .ref z11, .ref z12]))] H := hP
    have hD : va_D A [(a1, .inl (y 3, 9, .inl (fun _ => 0))), (a2, .inl (y 3, 9, .inl (fun _ => 0))), (a3, .inl (y 3, 9, .inl (fun _ => 0))), (a4, .inl (y 3, 9, .inl (fun _ => 0))), (a5, .inl (y 3, 9, .inl (fun _ => 0))), (a6, .inl (y 3, 9, .inl (fun _ => 0))), (a7, .inl (y 3, 9, .inl (fun _ => 0))), (a8, .inl (y 3, 9, .inl (fun _ => 0))), (a9, .inl (y 3, 9, .inl (fun _ => 0))), (a10, .inl (y 5, 9, .inr (.inr (.inr (.inr (fun i => [a1, a2, a3, a4, a5, a6, a7, a8, a9][i]?)))))), (a0, .inr (13, [.ref z0, .ref z1, .ref z2, .ref z3, .ref z4, .ref z5, .int 45, .ref z6, .ref z7, .ref z8, .int 0, .ref a10, .ref z9, .int 0, .int 0, .int 0, .int 0, .ref z10, .int 0, .null, .ref z11, .ref z12]))] := hD
    refine lv_iload hx hb dX11_give_60 (lv_at hl 0 rfl) ?_
    exact e_z hF hr (by decide) (Nat.le_of_ble_eq_true rfl) (Nat.le_of_ble_eq_true rfl) hS (qg_end hS (fun _ => 0) rfl [10, 9] hP rfl (hD.sub [10, 9] rfl rfl)) dX11_give_62
  · refine ald_A (v := .ref a5) hF hP 9 5 rfl rfl rfl (vp_in_nI (n := 4) (by decide) (by decide)) rfl dX11_give_46 ?_
    refine lv_iload_n hx hb dX11_give_47 rfl (lv_at hl 2 rfl) ?_
    refine va_zald hx hb hK hP 4 3 rfl rfl (vin2 (n := 9) f2 f3 (by decide)) dX11_give_48 ?_
    refine tp_i (v := 0) rfl ?_
    refine lv_istore (lv' := [(4, .int 0), (0, .ref a0), (1, .int 4), (2, .int p1), (3, .int 0)]) hx hb dX11_give_49 hl (by decide) rfl (fun ls hl => ?_)
    refine lv_aload_n hx hb dX11_give_51 rfl (lv_at hl 1 rfl) ?_
    refine va_get (D := D) (ci := 13) (v := .ref a10) (C := RX11) (T := TX11) (N := 22) hx hb hts inX11 hown hK hP 10 rfl rfl 11 (by decide) (hts _ wd_131) (fun _ h9 => h9) rfl dX11_give_52 ?_
    refine lv_iload_n hx hb dX11_give_55 rfl (lv_at hl 2 rfl) ?_
    refine ald_A (v := .ref a5) hF hP 9 5 rfl rfl rfl (vp_in_nI (n := 4) (by decide) (by decide)) rfl dX11_give_56 ?_
    refine lv_iload_n hx hb dX11_give_57 rfl (lv_at hl 3 rfl) ?_
    refine lv_iload_n hx hb dX11_give_58 rfl (lv_at hl 4 rfl) ?_
    refine va_zast hx hb hK hP hD hS 4 3 rfl rfl (vin2 (n := 9) f2 f3 (by decide)) dX11_give_59 (fun H locs hP hD hS => ?_)
    obtain ⟨hP, hD⟩ := same_c (g := (fun _ => 0)) hP hD 4 rfl (fun j _ => up_c rfl)
    have hP : va_P D vwCl [(a1, .inl (y 3, 9, .inl (fun _ => 0))), (a2, .inl (y 3, 9, .inl (fun _ => 0))), (a3, .inl (y 3, 9, .inl (fun _ => 0))), (a4, .inl (y 3, 9, .inl (fun _ => 0))), (a5, .inl (y 3, 9, .inl (fun _ => 0))), (a6, .inl (y 3, 9, .inl (fun _ => 0))), (a7, .inl (y 3, 9, .inl (fun _ => 0))), (a8, .inl (y 3, 9, .inl (fun _ => 0))), (a9, .inl (y 3, 9, .inl (fun _ => 0))), (a10, .inl (y 5, 9, .inr (.inr (.inr (.inr (fun i => [a1, a2, a3, a4, a5, a6, a7, a8, a9][i]?)))))), (a0, .inr (13, [.ref z0, .ref z1, .ref z2, .ref z3, .ref z4, .ref z5, .int 45, .ref z6, .ref z7, .ref z8, .int 0, .ref a10, .ref z9, .int 0, .int 0, .int 0, .int 0, .ref z10, .int 0, .null, .ref z11, .ref z12]))] H := hP
    have hD : va_D A [(a1, .inl (y 3, 9, .inl (fun _ => 0))), (a2, .inl (y 3, 9, .inl (fun _ => 0))), (a3, .inl (y 3, 9, .inl (fun _ => 0))), (a4, .inl (y 3, 9, .inl (fun _ => 0))), (a5, .inl (y 3, 9, .inl (fun _ => 0))), (a6, .inl (y 3, 9, .inl (fun _ => 0))), (a7, .inl (y 3, 9, .inl (fun _ => 0))), (a8, .inl (y 3, 9, .inl (fun _ => 0))), (a9, .inl (y 3, 9, .inl (fun _ => 0))), (a10, .inl (y 5, 9, .inr (.inr (.inr (.inr (fun i => [a1, a2, a3, a4, a5, a6, a7, a8, a9][i]?)))))), (a0, .inr (13, [.ref z0, .ref z1, .ref z2, .ref z3, .ref z4, .ref z5, .int 45, .ref z6, .ref z7, .ref z8, .int 0, .ref a10, .ref z9, .int 0, .int 0, .int 0, .int 0, .ref z10, .int 0, .null, .ref z11, .ref z12]))] := hD
    refine lv_iload hx hb dX11_give_60 (lv_at hl 0 rfl) ?_
    exact e_z hF hr (by decide) (Nat.le_of_ble_eq_true rfl) (Nat.le_of_ble_eq_true rfl) hS (qg_end hS (fun _ => 0) rfl [10, 9] hP rfl (hD.sub [10, 9] rfl rfl)) dX11_give_62
  · refine ald_A (v := .ref a6) hF hP 9 5 rfl rfl rfl (vp_in_nI (n := 5) (by decide) (by decide)) rfl dX11_give_46 ?_
    refine lv_iload_n hx hb dX11_give_47 rfl (lv_at hl 2 rfl) ?_
    refine va_zald hx hb hK hP 5 3 rfl rfl (vin2 (n := 9) f2 f3 (by decide)) dX11_give_48 ?_
    refine tp_i (v := 0) rfl ?_
    refine lv_istore (lv' := [(4, .int 0), (0, .ref a0), (1, .int 5), (2, .int p1), (3, .int 0)]) hx hb dX11_give_49 hl (by decide) rfl (fun ls hl => ?_)
    refine lv_aload_n hx hb dX11_give_51 rfl (lv_at hl 1 rfl) ?_
    refine va_get (D := D) (ci := 13) (v := .ref a10) (C := RX11) (T := TX11) (N := 22) hx hb hts inX11 hown hK hP 10 rfl rfl 11 (by decide) (hts _ wd_131) (fun _ h9 => h9) rfl dX11_give_52 ?_
    refine lv_iload_n hx hb dX11_give_55 rfl (lv_at hl 2 rfl) ?_
    refine ald_A (v := .ref a6) hF hP 9 5 rfl rfl rfl (vp_in_nI (n := 5) (by decide) (by decide)) rfl dX11_give_56 ?_
    refine lv_iload_n hx hb dX11_give_57 rfl (lv_at hl 3 rfl) ?_
    refine lv_iload_n hx hb dX11_give_58 rfl (lv_at hl 4 rfl) ?_
    refine va_zast hx hb hK hP hD hS 5 3 rfl rfl (vin2 (n := 9) f2 f3 (by decide)) dX11_give_59 (fun H locs hP hD hS => ?_)
    obtain ⟨hP, hD⟩ := same_c (g := (fun _ => 0)) hP hD 5 rfl (fun j _ => up_c rfl)
    have hP : va_P D vwCl [(a1, .inl (y 3, 9, .inl (fun _ => 0))), (a2, .inl (y 3, 9, .inl (fun _ => 0))), (a3, .inl (y 3, 9, .inl (fun _ => 0))), (a4, .inl (y 3, 9, .inl (fun _ => 0))), (a5, .inl (y 3, 9, .inl (fun _ => 0))), (a6, .inl (y 3, 9, .inl (fun _ => 0))), (a7, .inl (y 3, 9, .inl (fun _ => 0))), (a8, .inl (y 3, 9, .inl (fun _ => 0))), (a9, .inl (y 3, 9, .inl (fun _ => 0))), (a10, .inl (y 5, 9, .inr (.inr (.inr (.inr (fun i => [a1, a2, a3, a4, a5, a6, a7, a8, a9][i]?)))))), (a0, .inr (13, [.ref z0, .ref z1, .ref z2, .ref z3, .ref z4, .ref z5, .int 45, .ref z6, .ref z7, .ref z8, .int 0, .ref a10, .ref z9, .int 0, .int 0, .int 0, .int 0, .ref z10, .int 0, .null, .ref z11, .ref z12]))] H := hP
    have hD : va_D A [(a1, .inl (y 3, 9, .inl (fun _ => 0))), (a2, .inl (y 3, 9, .inl (fun _ => 0))), (a3, .inl (y 3, 9, .inl (fun _ => 0))), (a4, .inl (y 3, 9, .inl (fun _ => 0))), (a5, .inl (y 3, 9, .inl (fun _ => 0))), (a6, .inl (y 3, 9, .inl (fun _ => 0))), (a7, .inl (y 3, 9, .inl (fun _ => 0))), (a8, .inl (y 3, 9, .inl (fun _ => 0))), (a9, .inl (y 3, 9, .inl (fun _ => 0))), (a10, .inl (y 5, 9, .inr (.inr (.inr (.inr (fun i => [a1, a2, a3, a4, a5, a6, a7, a8, a9][i]?)))))), (a0, .inr (13, [.ref z0, .ref z1, .ref z2, .ref z3, .ref z4, .ref z5, .int 45, .ref z6, .ref z7, .ref z8, .int 0, .ref a10, .ref z9, .int 0, .int 0, .int 0, .int 0, .ref z10, .int 0, .null, .ref z11, .ref z12]))] := hD
    refine lv_iload hx hb dX11_give_60 (lv_at hl 0 rfl) ?_
    exact e_z hF hr (by decide) (Nat.le_of_ble_eq_true rfl) (Nat.le_of_ble_eq_true rfl) hS (qg_end hS (fun _ => 0) rfl [10, 9] hP rfl (hD.sub [10, 9] rfl rfl)) dX11_give_62
  · refine ald_A (v := .ref a7) hF hP 9 5 rfl rfl rfl (vp_in_nI (n := 6) (by decide) (by decide)) rfl dX11_give_46 ?_
    refine lv_iload_n hx hb dX11_give_47 rfl (lv_at hl 2 rfl) ?_
    refine va_zald hx hb hK hP 6 3 rfl rfl (vin2 (n := 9) f2 f3 (by decide)) dX11_give_48 ?_
    refine tp_i (v := 0) rfl ?_
    refine lv_istore (lv' := [(4, .int 0), (0, .ref a0), (1, .int 6), (2, .int p1), (3, .int 0)]) hx hb dX11_give_49 hl (by decide) rfl (fun ls hl => ?_)
    refine lv_aload_n hx hb dX11_give_51 rfl (lv_at hl 1 rfl) ?_
    refine va_get (D := D) (ci := 13) (v := .ref a10) (C := RX11) (T := TX11) (N := 22) hx hb hts inX11 hown hK hP 10 rfl rfl 11 (by decide) (hts _ wd_131) (fun _ h9 => h9) rfl dX11_give_52 ?_
    refine lv_iload_n hx hb dX11_give_55 rfl (lv_at hl 2 rfl) ?_
    refine ald_A (v := .ref a7) hF hP 9 5 rfl rfl rfl (vp_in_nI (n := 6) (by decide) (by decide)) rfl dX11_give_56 ?_
    refine lv_iload_n hx hb dX11_give_57 rfl (lv_at hl 3 rfl) ?_
    refine lv_iload_n hx hb dX11_give_58 rfl (lv_at hl 4 rfl) ?_
    refine va_zast hx hb hK hP hD hS 6 3 rfl rfl (vin2 (n := 9) f2 f3 (by decide)) dX11_give_59 (fun H locs hP hD hS => ?_)
    obtain ⟨hP, hD⟩ := same_c (g := (fun _ => 0)) hP hD 6 rfl (fun j _ => up_c rfl)
    have hP : va_P D vwCl [(a1, .inl (y 3, 9, .inl (fun _ => 0))), (a2, .inl (y 3, 9, .inl (fun _ => 0))), (a3, .inl (y 3, 9, .inl (fun _ => 0))), (a4, .inl (y 3, 9, .inl (fun _ => 0))), (a5, .inl (y 3, 9, .inl (fun _ => 0))), (a6, .inl (y 3, 9, .inl (fun _ => 0))), (a7, .inl (y 3, 9, .inl (fun _ => 0))), (a8, .inl (y 3, 9, .inl (fun _ => 0))), (a9, .inl (y 3, 9, .inl (fun _ => 0))), (a10, .inl (y 5, 9, .inr (.inr (.inr (.inr (fun i => [a1, a2, a3, a4, a5, a6, a7, a8, a9][i]?)))))), (a0, .inr (13, [.ref z0, .ref z1, .ref z2, .ref z3, .ref z4, .ref z5, .int 45, .ref z6, .ref z7, .ref z8, .int 0, .ref a10, .ref z9, .int 0, .int 0, .int 0, .int 0, .ref z10, .int 0, .null, .ref z11, .ref z12]))] H := hP
    have hD : va_D A [(a1, .inl (y 3, 9, .inl (fun _ => 0))), (a2, .inl (y 3, 9, .inl (fun _ => 0))), (a3, .inl (y 3, 9, .inl (fun _ => 0))), (a4, .inl (y 3, 9, .inl (fun _ => 0))), (a5, .inl (y 3, 9, .inl (fun _ => 0))), (a6, .inl (y 3, 9, .inl (fun _ => 0))), (a7, .inl (y 3, 9, .inl (fun _ => 0))), (a8, .inl (y 3, 9, .inl (fun _ => 0))), (a9, .inl (y 3, 9, .inl (fun _ => 0))), (a10, .inl (y 5, 9, .inr (.inr (.inr (.inr (fun i => [a1, a2, a3, a4, a5, a6, a7, a8, a9][i]?)))))), (a0, .inr (13, [.ref z0, .ref z1, .ref z2, .ref z3, .ref z4, .ref z5, .int 45, .ref z6, .ref z7, .ref z8, .int 0, .ref a10, .ref z9, .int 0, .int 0, .int 0, .int 0, .ref z10, .int 0, .null, .ref z11, .ref z12]))] := hD
    refine lv_iload hx hb dX11_give_60 (lv_at hl 0 rfl) ?_
    exact e_z hF hr (by decide) (Nat.le_of_ble_eq_true rfl) (Nat.le_of_ble_eq_true rfl) hS (qg_end hS (fun _ => 0) rfl [10, 9] hP rfl (hD.sub [10, 9] rfl rfl)) dX11_give_62
  · refine ald_A (v := .ref a8) hF hP 9 5 rfl rfl rfl (vp_in_nI (n := 7) (by decide) (by decide)) rfl dX11_give_46 ?_
    refine lv_iload_n hx hb dX11_give_47 rfl (lv_at hl 2 rfl) ?_
    refine va_zald hx hb hK hP 7 3 rfl rfl (vin2 (n := 9) f2 f3 (by decide)) dX11_give_48 ?_
    refine tp_i (v := 0) rfl ?_
    refine lv_istore (lv' := [(4, .int 0), (0, .ref a0), (1, .int 7), (2, .int p1), (3, .int 0)]) hx hb dX11_give_49 hl (by decide) rfl (fun ls hl => ?_)
    refine lv_aload_n hx hb dX11_give_51 rfl (lv_at hl 1 rfl) ?_
    refine va_get (D := D) (ci := 13) (v := .ref a10) (C := RX11) (T := TX11) (N := 22) hx hb hts inX11 hown hK hP 10 rfl rfl 11 (by decide) (hts _ wd_131) (fun _ h9 => h9) rfl dX11_give_52 ?_
    refine lv_iload_n hx hb dX11_give_55 rfl (lv_at hl 2 rfl) ?_
    refine ald_A (v := .ref a8) hF hP 9 5 rfl rfl rfl (vp_in_nI (n := 7) (by decide) (by decide)) rfl dX11_give_56 ?_
    refine lv_iload_n hx hb dX11_give_57 rfl (lv_at hl 3 rfl) ?_
    refine lv_iload_n hx hb dX11_give_58 rfl (lv_at hl 4 rfl) ?_
    refine va_zast hx hb hK hP hD hS 7 3 rfl rfl (vin2 (n := 9) f2 f3 (by decide)) dX11_give_59 (fun H locs hP hD hS => ?_)
    obtain ⟨hP, hD⟩ := same_c (g := (fun _ => 0)) hP hD 7 rfl (fun j _ => up_c rfl)
    have hP : va_P D vwCl [(a1, .inl (y 3, 9, .inl (fun _ => 0))), (a2, .inl (y 3, 9, .inl (fun _ => 0))), (a3, .inl (y 3, 9, .inl (fun _ => 0))), (a4, .inl (y 3, 9, .inl (fun _ => 0))), (a5, .inl (y 3, 9, .inl (fun _ => 0))), (a6, .inl (y 3, 9, .inl (fun _ => 0))), (a7, .inl (y 3, 9, .inl (fun _ => 0))), (a8, .inl (y 3, 9, .inl (fun _ => 0))), (a9, .inl (y 3, 9, .inl (fun _ => 0))), (a10, .inl (y 5, 9, .inr (.inr (.inr (.inr (fun i => [a1, a2, a3, a4, a5, a6, a7, a8, a9][i]?)))))), (a0, .inr (13, [.ref z0, .ref z1, .ref z2, .ref z3, .ref z4, .ref z5, .int 45, .ref z6, .ref z7, .ref z8, .int 0, .ref a10, .ref z9, .int 0, .int 0, .int 0, .int 0, .ref z10, .int 0, .null, .ref z11, .ref z12]))] H := hP
    have hD : va_D A [(a1, .inl (y 3, 9, .inl (fun _ => 0))), (a2, .inl (y 3, 9, .inl (fun _ => 0))), (a3, .inl (y 3, 9, .inl (fun _ => 0))), (a4, .inl (y 3, 9, .inl (fun _ => 0))), (a5, .inl (y 3, 9, .inl (fun _ => 0))), (a6, .inl (y 3, 9, .inl (fun _ => 0))), (a7, .inl (y 3, 9, .inl (fun _ => 0))), (a8, .inl (y 3, 9, .inl (fun _ => 0))), (a9, .inl (y 3, 9, .inl (fun _ => 0))), (a10, .inl (y 5, 9, .inr (.inr (.inr (.inr (fun i => [a1, a2, a3, a4, a5, a6, a7, a8, a9][i]?)))))), (a0, .inr (13, [.ref z0, .ref z1, .ref z2, .ref z3, .ref z4, .ref z5, .int 45, .ref z6, .ref z7, .ref z8, .int 0, .ref a10, .ref z9, .int 0, .int 0, .int 0, .int 0, .ref z10, .int 0, .null, .ref z11, .ref z12]))] := hD
    refine lv_iload hx hb dX11_give_60 (lv_at hl 0 rfl) ?_
    exact e_z hF hr (by decide) (Nat.le_of_ble_eq_true rfl) (Nat.le_of_ble_eq_true rfl) hS (qg_end hS (fun _ => 0) rfl [10, 9] hP rfl (hD.sub [10, 9] rfl rfl)) dX11_give_62
  · refine ald_A (v := .ref a9) hF hP 9 5 rfl rfl rfl (vp_in_nI (n := 8) (by decide) (by decide)) rfl dX11_give_46 ?_
    refine lv_iload_n hx hb dX11_give_47 rfl (lv_at hl 2 rfl) ?_
    refine va_zald hx hb hK hP 8 3 rfl rfl (vin2 (n := 9) f2 f3 (by decide)) dX11_give_48 ?_
    refine tp_i (v := 0) rfl ?_
    refine lv_istore (lv' := [(4, .int 0), (0, .ref a0), (1, .int 8), (2, .int p1), (3, .int 0)]) hx hb dX11_give_49 hl (by decide) rfl (fun ls hl => ?_)
    refine lv_aload_n hx hb dX11_give_51 rfl (lv_at hl 1 rfl) ?_
    refine va_get (D := D) (ci := 13) (v := .ref a10) (C := RX11) (T := TX11) (N := 22) hx hb hts inX11 hown hK hP 10 rfl rfl 11 (by decide) (hts _ wd_131) (fun _ h9 => h9) rfl dX11_give_52 ?_
    refine lv_iload_n hx hb dX11_give_55 rfl (lv_at hl 2 rfl) ?_
    refine ald_A (v := .ref a9) hF hP 9 5 rfl rfl rfl (vp_in_nI (n := 8) (by decide) (by decide)) rfl dX11_give_56 ?_
    refine lv_iload_n hx hb dX11_give_57 rfl (lv_at hl 3 rfl) ?_
    refine lv_iload_n hx hb dX11_give_58 rfl (lv_at hl 4 rfl) ?_
    refine va_zast hx hb hK hP hD hS 8 3 rfl rfl (vin2 (n := 9) f2 f3 (by decide)) dX11_give_59 (fun H locs hP hD hS => ?_)
    obtain ⟨hP, hD⟩ := same_c (g := (fun _ => 0)) hP hD 8 rfl (fun j _ => up_c rfl)
    have hP : va_P D vwCl [(a1, .inl (y 3, 9, .inl (fun _ => 0))), (a2, .inl (y 3, 9, .inl (fun _ => 0))), (a3, .inl (y 3, 9, .inl (fun _ => 0))), (a4, .inl (y 3, 9, .inl (fun _ => 0))), (a5, .inl (y 3, 9, .inl (fun _ => 0))), (a6, .inl (y 3, 9, .inl (fun _ => 0))), (a7, .inl (y 3, 9, .inl (fun _ => 0))), (a8, .inl (y 3, 9, .inl (fun _ => 0))), (a9, .inl (y 3, 9, .inl (fun _ => 0))), (a10, .inl (y 5, 9, .inr (.inr (.inr (.inr (fun i => [a1, a2, a3, a4, a5, a6, a7, a8, a9][i]?)))))), (a0, .inr (13, [.ref z0, .ref z1, .ref z2, .ref z3, .ref z4, .ref z5, .int 45, .ref z6, .ref z7, .ref z8, .int 0, .ref a10, .ref z9, .int 0, .int 0, .int 0, .int 0, .ref z10, .int 0, .null, .ref z11, .ref z12]))] H := hP
    have hD : va_D A [(a1, .inl (y 3, 9, .inl (fun _ => 0))), (a2, .inl (y 3, 9, .inl (fun _ => 0))), (a3, .inl (y 3, 9, .inl (fun _ => 0))), (a4, .inl (y 3, 9, .inl (fun _ => 0))), (a5, .inl (y 3, 9, .inl (fun _ => 0))), (a6, .inl (y 3, 9, .inl (fun _ => 0))), (a7, .inl (y 3, 9, .inl (fun _ => 0))), (a8, .inl (y 3, 9, .inl (fun _ => 0))), (a9, .inl (y 3, 9, .inl (fun _ => 0))), (a10, .inl (y 5, 9, .inr (.inr (.inr (.inr (fun i => [a1, a2, a3, a4, a5, a6, a7, a8, a9][i]?)))))), (a0, .inr (13, [.ref z0, .ref z1, .ref z2, .ref z3, .ref z4, .ref z5, .int 45, .ref z6, .ref z7, .ref z8, .int 0, .ref a10, .ref z9, .int 0, .int 0, .int 0, .int 0, .ref z10, .int 0, .null, .ref z11, .ref z12]))] := hD
    refine lv_iload hx hb dX11_give_60 (lv_at hl 0 rfl) ?_
    exact e_z hF hr (by decide) (Nat.le_of_ble_eq_true rfl) (Nat.le_of_ble_eq_true rfl) hS (qg_end hS (fun _ => 0) rfl [10, 9] hP rfl (hD.sub [10, 9] rfl rfl)) dX11_give_62

