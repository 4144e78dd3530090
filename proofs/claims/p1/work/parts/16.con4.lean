set_option maxHeartbeats 4000000 in
set_option maxRecDepth 100000 in
theorem c217_X11_in (l : Launch) : CT l (.code yX11_in cX11_in 3 (some .boolean)) yX11_in { frames := 0, cells := 0, slots := 0, locals := 0 } [.int 2, .int 0, .int 1] (fun y => []) (fun _ => []) (fun u => some (.int 0)) (fun y u => []) := by
  refine mkM (by decide) (Nat.le_of_ble_eq_true rfl) ?_
  intro p e s m args below meth c D y A ls hF hr hAe hP hD hS hl
  have hF : FX p e s m args meth c cX11_in 3 RX11 "in" D y A := hF
  obtain ⟨⟨hx, hb, hml, hown, hts⟩, hev, heh, hA, hlk, hnm⟩ := id hF
  have hK := hev.1
  have hP : va_P D vwCl [] s.heap := hP
  have hD : va_D A [] := by rw [← hAe]; exact hD.self
  have hl : lv_has ls 3 [(0, .int 2), (1, .int 0), (2, .int 1)] := hl
  refine lv_iload_n hx hb dX11_in_0 rfl (lv_at hl 0 rfl) ?_
  refine lv_iload_n hx hb dX11_in_1 rfl (lv_at hl 1 rfl) ?_
  refine lv_icmp_lt (tgt := 14) hx hb dX11_in_2 (by decide) (fun c => absurd c (by decide)) (fun _ => ?_)
  refine lv_iload_n hx hb dX11_in_5 rfl (lv_at hl 0 rfl) ?_
  refine lv_iload_n hx hb dX11_in_6 rfl (lv_at hl 2 rfl) ?_
  refine lv_icmp_gt (tgt := 14) hx hb dX11_in_7 (by decide) (fun _ => ?_) (fun c => absurd (by decide) c)
  refine lv_iconst (v := 0) hx hb dX11_in_14 (by decide) ?_
  exact e_z hF hr (by decide) (Nat.le_of_ble_eq_true rfl) (Nat.le_of_ble_eq_true rfl) hS (qg_end hS (fun _ => 0) rfl [] hP rfl d_nil) dX11_in_15

set_option maxHeartbeats 4000000 in
set_option maxRecDepth 100000 in
theorem c218_X11_in (l : Launch) : CT l (.code yX11_in cX11_in 3 (some .boolean)) yX11_in { frames := 0, cells := 0, slots := 0, locals := 0 } [.int (-1), .int 0, .int 1] (fun y => []) (fun _ => []) (fun u => some (.int 0)) (fun y u => []) := by
  refine mkM (by decide) (Nat.le_of_ble_eq_true rfl) ?_
  intro p e s m args below meth c D y A ls hF hr hAe hP hD hS hl
  have hF : FX p e s m args meth c cX11_in 3 RX11 "in" D y A := hF
  obtain ⟨⟨hx, hb, hml, hown, hts⟩, hev, heh, hA, hlk, hnm⟩ := id hF
  have hK := hev.1
  have hP : va_P D vwCl [] s.heap := hP
  have hD : va_D A [] := by rw [← hAe]; exact hD.self
  have hl : lv_has ls 3 [(0, .int (-1)), (1, .int 0), (2, .int 1)] := hl
  refine lv_iload_n hx hb dX11_in_0 rfl (lv_at hl 0 rfl) ?_
  refine lv_iload_n hx hb dX11_in_1 rfl (lv_at hl 1 rfl) ?_
  refine lv_icmp_lt (tgt := 14) hx hb dX11_in_2 (by decide) (fun _ => ?_) (fun c => absurd (by decide) c)
  refine lv_iconst (v := 0) hx hb dX11_in_14 (by decide) ?_
  exact e_z hF hr (by decide) (Nat.le_of_ble_eq_true rfl) (Nat.le_of_ble_eq_true rfl) hS (qg_end hS (fun _ => 0) rfl [] hP rfl d_nil) dX11_in_15

set_option maxHeartbeats 4000000 in
set_option maxRecDepth 100000 in
theorem c217_X11_begin (l : Launch) (a0 : Nat) (z0 : Nat) (z1 : Nat) (z2 : Nat) (z3 : Nat) (z4 : Nat) (z5 : Nat) (z6 : Nat) (z7 : Nat) (z8 : Nat) (z9 : Nat) (z10 : Nat) (z11 : Nat) (z12 : Nat) (z13 : Nat) (p0 : Int32) (f0 : ¬ p0 = 112) (f1 : ¬ p0 = 104) : CT l (.code yX11_begin cX11_begin 2 (some .int)) yX11_begin { frames := 5, cells := 0, slots := 0, locals := 111 } [.ref a0, .int p0] (fun y => [(a0, .inr (13, [.ref z0, .ref z1, .ref z2, .ref z3, .ref z4, .ref z5, .int 45, .ref z6, .ref z7, .ref z8, .int 0, .ref z9, .ref z10, .int 0, .int 0, .int 0, .int 0, .ref z11, .int 0, .null, .ref z12, .ref z13]))]) (fun y => [(a0, .inr (13, [.ref z0, .ref z1, .ref z2, .ref z3, .ref z4, .ref z5, .int 45, .ref z6, .ref z7, .ref z8, .int 0, .ref z9, .ref z10, .int 0, .int 0, .int 0, .int 0, .ref z11, .int 0, .null, .ref z12, .ref z13]))]) (fun u => some (.int 0)) (fun y u => [(a0, .inr (13, [.ref z0, .ref z1, .ref z2, .ref z3, .ref z4, .ref z5, .int 45, .ref z6, .ref z7, .ref z8, .int 0, .ref z9, .ref z10, .int 0, .int 0, .int 1, .int 0, .ref z11, .int 0, .null, .ref z12, .ref z13]))]) := by
  refine mkM (by decide) (Nat.le_of_ble_eq_true rfl) ?_
  intro p e s m args below meth c D y A ls hF hr hAe hP hD hS hl
  have hF : FX p e s m args meth c cX11_begin 2 RX11 "begin" D y A := hF
  obtain ⟨⟨hx, hb, hml, hown, hts⟩, hev, heh, hA, hlk, hnm⟩ := id hF
  have hK := hev.1
  have hP : va_P D vwCl [(a0, .inr (13, [.ref z0, .ref z1, .ref z2, .ref z3, .ref z4, .ref z5, .int 45, .ref z6, .ref z7, .ref z8, .int 0, .ref z9, .ref z10, .int 0, .int 0, .int 0, .int 0, .ref z11, .int 0, .null, .ref z12, .ref z13]))] s.heap := hP
  have hD : va_D A [(a0, .inr (13, [.ref z0, .ref z1, .ref z2, .ref z3, .ref z4, .ref z5, .int 45, .ref z6, .ref z7, .ref z8, .int 0, .ref z9, .ref z10, .int 0, .int 0, .int 0, .int 0, .ref z11, .int 0, .null, .ref z12, .ref z13]))] := by rw [← hAe]; exact hD.self
  have hl : lv_has ls 2 [(0, .ref a0), (1, .int p0)] := hl
  refine lv_aload_n hx hb dX11_begin_0 rfl (lv_at hl 0 rfl) ?_
  refine lv_iload_n hx hb dX11_begin_1 rfl (lv_at hl 1 rfl) ?_
  rcases Classical.em (p0 = 109) with c_1 | c_1
  · subst c_1
    refine cS (l := l) (yM := yX11_sideOf) (As := [.int 109]) (rest := [.ref a0]) (wr := [(a0, .inr (13, [.ref z0, .ref z1, .ref z2, .ref z3, .ref z4, .ref z5, .int 45, .ref z6, .ref z7, .ref z8, .int 0, .ref z9, .ref z10, .int 0, .int 0, .int 0, .int 0, .ref z11, .int 0, .null, .ref z12, .ref z13]))]) hF (c49_X11_sideOf l) gs_RX11_124 1 (by decide +kernel) rfl ⟨(Nat.le_of_ble_eq_true rfl), (Nat.le_of_ble_eq_true rfl)⟩ hl.1 rfl (Nat.le_of_ble_eq_true rfl) dX11_begin_2 ⟨(Nat.le_of_ble_eq_true rfl), (Nat.le_of_ble_eq_true rfl)⟩ hP hD hS (pA hA hS) (fun _ h => h) [] [] [0] rfl rfl rfl rfl rfl (by decide) (fun u_2 H locs hP hD hS => ?_)
    have hP : va_P D vwCl [(a0, .inr (13, [.ref z0, .ref z1, .ref z2, .ref z3, .ref z4, .ref z5, .int 45, .ref z6, .ref z7, .ref z8, .int 0, .ref z9, .ref z10, .int 0, .int 0, .int 0, .int 0, .ref z11, .int 0, .null, .ref z12, .ref z13]))] H := hP
    have hD : va_D A [(a0, .inr (13, [.ref z0, .ref z1, .ref z2, .ref z3, .ref z4, .ref z5, .int 45, .ref z6, .ref z7, .ref z8, .int 0, .ref z9, .ref z10, .int 0, .int 0, .int 0, .int 0, .ref z11, .int 0, .null, .ref z12, .ref z13]))] := hD
    refine W.widen (k := 0) (n := 0) (Nat.le_of_ble_eq_true rfl) (Nat.le_of_ble_eq_true rfl) ?_
    refine W.eq (g2 := F0 m 5 ls [.int 2, .ref a0]) rfl ?_
    refine lv_iconst (v := 0) hx hb dX11_begin_5 (by decide) ?_
    refine lv_iconst (v := 1) hx hb dX11_begin_6 (by decide) ?_
    refine cS (l := l) (yM := yX11_in) (As := [.int 2, .int 0, .int 1]) (rest := [.ref a0]) (wr := [(a0, .inr (13, [.ref z0, .ref z1, .ref z2, .ref z3, .ref z4, .ref z5, .int 45, .ref z6, .ref z7, .ref z8, .int 0, .ref z9, .ref z10, .int 0, .int 0, .int 0, .int 0, .ref z11, .int 0, .null, .ref z12, .ref z13]))]) hF (c217_X11_in l) gs_RX11_78 3 (by decide +kernel) rfl ⟨(Nat.le_of_ble_eq_true rfl), (Nat.le_of_ble_eq_true rfl)⟩ hl.1 rfl (Nat.le_of_ble_eq_true rfl) dX11_begin_7 ⟨(Nat.le_of_ble_eq_true rfl), (Nat.le_of_ble_eq_true rfl)⟩ hP hD hS (pA hA hS) (fun _ h => h) [] [] [0] rfl rfl rfl rfl rfl (by decide) (fun u_3 H locs hP hD hS => ?_)
    have hP : va_P D vwCl [(a0, .inr (13, [.ref z0, .ref z1, .ref z2, .ref z3, .ref z4, .ref z5, .int 45, .ref z6, .ref z7, .ref z8, .int 0, .ref z9, .ref z10, .int 0, .int 0, .int 0, .int 0, .ref z11, .int 0, .null, .ref z12, .ref z13]))] H := hP
    have hD : va_D A [(a0, .inr (13, [.ref z0, .ref z1, .ref z2, .ref z3, .ref z4, .ref z5, .int 45, .ref z6, .ref z7, .ref z8, .int 0, .ref z9, .ref z10, .int 0, .int 0, .int 0, .int 0, .ref z11, .int 0, .null, .ref z12, .ref z13]))] := hD
    refine W.widen (k := 0) (n := 0) (Nat.le_of_ble_eq_true rfl) (Nat.le_of_ble_eq_true rfl) ?_
    refine W.eq (g2 := F0 m 10 ls [.int 0, .ref a0]) rfl ?_
    refine lv_if_ne (tgt := 17) hx hb dX11_begin_10 (by decide) (fun c => absurd (by decide) c) (fun _ => ?_)
    refine lv_iconst (v := 1) hx hb dX11_begin_13 (by decide) ?_
    refine lv_goto (tgt := 18) hx hb dX11_begin_14 (by decide) ?_
    refine lv_iconst (v := 0) hx hb dX11_begin_18 (by decide) ?_
    refine lv_iconst (v := 0) hx hb dX11_begin_19 (by decide) ?_
    refine cV (l := l) (yM := yX11_fails) (C := RX11) (As := [.int 1, .int 0, .int 0]) (rest := []) (wr := []) hF (c67_X11_fails l a0 z0 z1 z2 z3 z4 z5 z6 z7 z8 z9 z10 z11 z12 z13) gv_RX11_128 3 (by decide +kernel) rfl ⟨(Nat.le_of_ble_eq_true rfl), (Nat.le_of_ble_eq_true rfl)⟩ hl.1 rfl (Nat.le_of_ble_eq_true rfl) dX11_begin_20 ⟨(Nat.le_of_ble_eq_true rfl), (Nat.le_of_ble_eq_true rfl)⟩ hP hD hS (va_free (wc := [(a0, .inr (13, [.ref z0, .ref z1, .ref z2, .ref z3, .ref z4, .ref z5, .int 45, .ref z6, .ref z7, .ref z8, .int 0, .ref z9, .ref z10, .int 0, .int 0, .int 0, .int 0, .ref z11, .int 0, .null, .ref z12, .ref z13]))]) hD hS hA [0] rfl) (fun _ h => h) [0] [0] [] rfl rfl rfl rfl rfl (by decide) 0 (ci := 13) rfl rfl rfl (fun u_4 H locs hP hD hS => ?_)
    have hP : va_P D vwCl [(a0, .inr (13, [.ref z0, .ref z1, .ref z2, .ref z3, .ref z4, .ref z5, .int 45, .ref z6, .ref z7, .ref z8, .int 0, .ref z9, .ref z10, .int 0, .int 0, .int 1, .int 0, .ref z11, .int 0, .null, .ref z12, .ref z13]))] H := hP
    have hD : va_D A [(a0, .inr (13, [.ref z0, .ref z1, .ref z2, .ref z3, .ref z4, .ref z5, .int 45, .ref z6, .ref z7, .ref z8, .int 0, .ref z9, .ref z10, .int 0, .int 0, .int 1, .int 0, .ref z11, .int 0, .null, .ref z12, .ref z13]))] := hD
    refine W.widen (k := 0) (n := 0) (Nat.le_of_ble_eq_true rfl) (Nat.le_of_ble_eq_true rfl) ?_
    refine W.eq (g2 := F0 m 23 ls [.int 1]) rfl ?_
    refine lv_if_eq (tgt := 28) hx hb dX11_begin_23 (by decide) (fun c => absurd c (by decide)) (fun _ => ?_)
    refine lv_iconst (v := 0) hx hb dX11_begin_26 (by decide) ?_
    exact e_i hF hr (Nat.le_of_ble_eq_true rfl) (Nat.le_of_ble_eq_true rfl) hS (qg_end hS (fun _ => 0) rfl [0] hP rfl (hD.sub [0] rfl rfl)) dX11_begin_27
  · refine cS (l := l) (yM := yX11_sideOf) (As := [.int p0]) (rest := [.ref a0]) (wr := [(a0, .inr (13, [.ref z0, .ref z1, .ref z2, .ref z3, .ref z4, .ref z5, .int 45, .ref z6, .ref z7, .ref z8, .int 0, .ref z9, .ref z10, .int 0, .int 0, .int 0, .int 0, .ref z11, .int 0, .null, .ref z12, .ref z13]))]) hF (c59_X11_sideOf l p0 f0 f1 c_1) gs_RX11_124 1 (by decide +kernel) rfl ⟨(Nat.le_of_ble_eq_true rfl), (Nat.le_of_ble_eq_true rfl)⟩ hl.1 rfl (Nat.le_of_ble_eq_true rfl) dX11_begin_2 ⟨(Nat.le_of_ble_eq_true rfl), (Nat.le_of_ble_eq_true rfl)⟩ hP hD hS (pA hA hS) (fun _ h => h) [] [] [0] rfl rfl rfl rfl rfl (by decide) (fun u_5 H locs hP hD hS => ?_)
    have hP : va_P D vwCl [(a0, .inr (13, [.ref z0, .ref z1, .ref z2, .ref z3, .ref z4, .ref z5, .int 45, .ref z6, .ref z7, .ref z8, .int 0, .ref z9, .ref z10, .int 0, .int 0, .int 0, .int 0, .ref z11, .int 0, .null, .ref z12, .ref z13]))] H := hP
    have hD : va_D A [(a0, .inr (13, [.ref z0, .ref z1, .ref z2, .ref z3, .ref z4, .ref z5, .int 45, .ref z6, .ref z7, .ref z8, .int 0, .ref z9, .ref z10, .int 0, .int 0, .int 0, .int 0, .ref z11, .int 0, .null, .ref z12, .ref z13]))] := hD
    refine W.widen (k := 0) (n := 0) (Nat.le_of_ble_eq_true rfl) (Nat.le_of_ble_eq_true rfl) ?_
    refine W.eq (g2 := F0 m 5 ls [.int (-1), .ref a0]) rfl ?_
    refine lv_iconst (v := 0) hx hb dX11_begin_5 (by decide) ?_
    refine lv_iconst (v := 1) hx hb dX11_begin_6 (by decide) ?_
    refine cS (l := l) (yM := yX11_in) (As := [.int (-1), .int 0, .int 1]) (rest := [.ref a0]) (wr := [(a0, .inr (13, [.ref z0, .ref z1, .ref z2, .ref z3, .ref z4, .ref z5, .int 45, .ref z6, .ref z7, .ref z8, .int 0, .ref z9, .ref z10, .int 0, .int 0, .int 0, .int 0, .ref z11, .int 0, .null, .ref z12, .ref z13]))]) hF (c218_X11_in l) gs_RX11_78 3 (by decide +kernel) rfl ⟨(Nat.le_of_ble_eq_true rfl), (Nat.le_of_ble_eq_true rfl)⟩ hl.1 rfl (Nat.le_of_ble_eq_true rfl) dX11_begin_7 ⟨(Nat.le_of_ble_eq_true rfl), (Nat.le_of_ble_eq_true rfl)⟩ hP hD hS (pA hA hS) (fun _ h => h) [] [] [0] rfl rfl rfl rfl rfl (by decide) (fun u_6 H locs hP hD hS => ?_)
    have hP : va_P D vwCl [(a0, .inr (13, [.ref z0, .ref z1, .ref z2, .ref z3, .ref z4, .ref z5, .int 45, .ref z6, .ref z7, .ref z8, .int 0, .ref z9, .ref z10, .int 0, .int 0, .int 0, .int 0, .ref z11, .int 0, .null, .ref z12, .ref z13]))] H := hP
    have hD : va_D A [(a0, .inr (13, [.ref z0, .ref z1, .ref z2, .ref z3, .ref z4, .ref z5, .int 45, .ref z6, .ref z7, .ref z8, .int 0, .ref z9, .ref z10, .int 0, .int 0, .int 0, .int 0, .ref z11, .int 0, .null, .ref z12, .ref z13]))] := hD
    refine W.widen (k := 0) (n := 0) (Nat.le_of_ble_eq_true rfl) (Nat.le_of_ble_eq_true rfl) ?_
    refine W.eq (g2 := F0 m 10 ls [.int 0, .ref a0]) rfl ?_
    refine lv_if_ne (tgt := 17) hx hb dX11_begin_10 (by decide) (fun c => absurd (by decide) c) (fun _ => ?_)
    refine lv_iconst (v := 1) hx hb dX11_begin_13 (by decide) ?_
    refine lv_goto (tgt := 18) hx hb dX11_begin_14 (by decide) ?_
    refine lv_iconst (v := 0) hx hb dX11_begin_18 (by decide) ?_
    refine lv_iconst (v := 0) hx hb dX11_begin_19 (by decide) ?_
    refine cV (l := l) (yM := yX11_fails) (C := RX11) (As := [.int 1, .int 0, .int 0]) (rest := []) (wr := []) hF (c67_X11_fails l a0 z0 z1 z2 z3 z4 z5 z6 z7 z8 z9 z10 z11 z12 z13) gv_RX11_128 3 (by decide +kernel) rfl ⟨(Nat.le_of_ble_eq_true rfl), (Nat.le_of_ble_eq_true rfl)⟩ hl.1 rfl (Nat.le_of_ble_eq_true rfl) dX11_begin_20 ⟨(Nat.le_of_ble_eq_true rfl), (Nat.le_of_ble_eq_true rfl)⟩ hP hD hS (va_free (wc := [(a0, .inr (13, [.ref z0, .ref z1, .ref z2, .ref z3, .ref z4, .ref z5, .int 45, .ref z6, .ref z7, .ref z8, .int 0, .ref z9, .ref z10, .int 0, .int 0, .int 0, .int 0, .ref z11, .int 0, .null, .ref z12, .ref z13]))]) hD hS hA [0] rfl) (fun _ h => h) [0] [0] [] rfl rfl rfl rfl rfl (by decide) 0 (ci := 13) rfl rfl rfl (fun u_7 H locs hP hD hS => ?_)
    have hP : va_P D vwCl [(a0, .inr (13, [.ref z0, .ref z1, .ref z2, .ref z3, .ref z4, .ref z5, .int 45, .ref z6, .ref z7, .ref z8, .int 0, .ref z9, .ref z10, .int 0, .int 0, .int 1, .int 0, .ref z11, .int 0, .null, .ref z12, .ref z13]))] H := hP
    have hD : va_D A [(a0, .inr (13, [.ref z0, .ref z1, .ref z2, .ref z3, .ref z4, .ref z5, .int 45, .ref z6, .ref z7, .ref z8, .int 0, .ref z9, .ref z10, .int 0, .int 0, .int 1, .int 0, .ref z11, .int 0, .null, .ref z12, .ref z13]))] := hD
    refine W.widen (k := 0) (n := 0) (Nat.le_of_ble_eq_true rfl) (Nat.le_of_ble_eq_true rfl) ?_
    refine W.eq (g2 := F0 m 23 ls [.int 1]) rfl ?_
    refine lv_if_eq (tgt := 28) hx hb dX11_begin_23 (by decide) (fun c => absurd c (by decide)) (fun _ => ?_)
    refine lv_iconst (v := 0) hx hb dX11_begin_26 (by decide) ?_
    exact e_i hF hr (Nat.le_of_ble_eq_true rfl) (Nat.le_of_ble_eq_true rfl) hS (qg_end hS (fun _ => 0) rfl [0] hP rfl (hD.sub [0] rfl rfl)) dX11_begin_27

set_option maxHeartbeats 4000000 in
set_option maxRecDepth 100000 in
theorem c220_X10_needOffers (l : Launch) (hlt : l.stackTraces = false) (a0 : Nat) (a1 : Nat) (z0 : Nat) (z1 : Nat) (z2 : Nat) (z3 : Nat) (z4 : Nat) (z5 : Nat) (z6 : Nat) (z7 : Nat) (z8 : Nat) (z9 : Nat) (z10 : Nat) (z11 : Nat) (z12 : Nat) (z13 : Nat) (z14 : Nat) (z15 : Nat) (z16 : Nat) : CX l (.code yX10_needOffers cX10_needOffers 1 none) yX10_needOffers { frames := 6, cells := 1, slots := 6, locals := 90 } [.ref a0] (fun y => [(a0, .inr (12, [.ref z0, .ref z1, .ref z2, .ref z3, .ref z4, .ref a1, .ref z5, .ref z6, .ref z7, .ref z8, .ref z9, .ref z10, .ref z11, .ref z12, .ref z13])), (a1, .inr (6, [.int 0, .int 0, .int 0, .ref z14, .ref z15, .ref z16]))]) (fun _ => []) "java/lang/IllegalStateException" := by
  refine mkX (by decide) (Nat.le_of_ble_eq_true rfl) ?_
  intro p e s m args below meth c D y A ls hF htb hAe hP hD hS hl
  have hF : FX p e s m args meth c cX10_needOffers 1 RX10 "needOffers" D y A := hF
  obtain ⟨⟨hx, hb, hml, hown, hts⟩, hev, heh, hA, hlk, hnm⟩ := id hF
  have hK := hev.1
  have hP : va_P D vwCl [(a0, .inr (12, [.ref z0, .ref z1, .ref z2, .ref z3, .ref z4, .ref a1, .ref z5, .ref z6, .ref z7, .ref z8, .ref z9, .ref z10, .ref z11, .ref z12, .ref z13])), (a1, .inr (6, [.int 0, .int 0, .int 0, .ref z14, .ref z15, .ref z16]))] s.heap := hP
  have hD : va_D (fun _ => True) [(a0, .inr (12, [.ref z0, .ref z1, .ref z2, .ref z3, .ref z4, .ref a1, .ref z5, .ref z6, .ref z7, .ref z8, .ref z9, .ref z10, .ref z11, .ref z12, .ref z13])), (a1, .inr (6, [.int 0, .int 0, .int 0, .ref z14, .ref z15, .ref z16]))] := hD
  have hl : lv_has ls 1 [(0, .ref a0)] := hl
  refine lv_aload_n hx hb dX10_needOffers_0 rfl (lv_at hl 0 rfl) ?_
  refine va_get (D := D) (ci := 12) (v := .ref a1) (C := RX10) (T := TX10) (N := 15) hx hb hts inX10 hown hK hP 0 rfl rfl 5 (by decide) (hts _ wd_57) (fun _ h9 => h9) rfl dX10_needOffers_1 ?_
  refine va_getN (D := D) (ci := 6) (v := .int 0) (C := RX4) (T := TX4) (N := 6) hx hb hts inX4 hown hK hP 1 rfl rfl 0 (by decide) (va_Nw.use (A := args) rfl (hev.2.1 (RX10, 474, RX4, "begun", "Z") (List.mem_of_getElem? (i := 16) rfl))) (fun _ h9 => h9) rfl dX10_needOffers_4 ?_
  refine lv_if_ne (tgt := 21) hx hb dX10_needOffers_7 (by decide) (fun c => absurd (by decide) c) (fun _ => ?_)
  exact th_W (text := "no offers have begun") hF htb hlt (by decide) wd_440 wd_441 (List.mem_of_getElem? (i := 12) rfl) exg1 exf1 exo1 hS hl.1 (Nat.le_of_ble_eq_true rfl) ⟨(Nat.le_of_ble_eq_true rfl), (Nat.le_of_ble_eq_true rfl)⟩ ⟨(Nat.le_of_ble_eq_true rfl), (Nat.le_of_ble_eq_true rfl)⟩ ⟨(Nat.le_of_ble_eq_true rfl), (Nat.le_of_ble_eq_true rfl)⟩ dX10_needOffers_10 dX10_needOffers_13 dX10_needOffers_14 dX10_needOffers_17 dX10_needOffers_20

set_option maxHeartbeats 4000000 in
set_option maxRecDepth 100000 in
theorem c220_X10_offer (l : Launch) (hlt : l.stackTraces = false) (a0 : Nat) (a1 : Nat) (z0 : Nat) (z1 : Nat) (z2 : Nat) (z3 : Nat) (z4 : Nat) (z5 : Nat) (z6 : Nat) (z7 : Nat) (z8 : Nat) (z9 : Nat) (z10 : Nat) (z11 : Nat) (z12 : Nat) (z13 : Nat) (z14 : Nat) (z15 : Nat) (z16 : Nat) (p0 : Int32) : CX l (.code yX10_offer cX10_offer 2 (some .char)) yX10_offer { frames := 7, cells := 1, slots := 6, locals := 110 } [.ref a0, .int p0] (fun y => [(a0, .inr (12, [.ref z0, .ref z1, .ref z2, .ref z3, .ref z4, .ref a1, .ref z5, .ref z6, .ref z7, .ref z8, .ref z9, .ref z10, .ref z11, .ref z12, .ref z13])), (a1, .inr (6, [.int 0, .int 0, .int 0, .ref z14, .ref z15, .ref z16]))]) (fun _ => []) "java/lang/IllegalStateException" := by
  refine mkX (by decide) (Nat.le_of_ble_eq_true rfl) ?_
  intro p e s m args below meth c D y A ls hF htb hAe hP hD hS hl
  have hF : FX p e s m args meth c cX10_offer 2 RX10 "offer" D y A := hF
  obtain ⟨⟨hx, hb, hml, hown, hts⟩, hev, heh, hA, hlk, hnm⟩ := id hF
  have hK := hev.1
  have hP : va_P D vwCl [(a0, .inr (12, [.ref z0, .ref z1, .ref z2, .ref z3, .ref z4, .ref a1, .ref z5, .ref z6, .ref z7, .ref z8, .ref z9, .ref z10, .ref z11, .ref z12, .ref z13])), (a1, .inr (6, [.int 0, .int 0, .int 0, .ref z14, .ref z15, .ref z16]))] s.heap := hP
  have hD : va_D (fun _ => True) [(a0, .inr (12, [.ref z0, .ref z1, .ref z2, .ref z3, .ref z4, .ref a1, .ref z5, .ref z6, .ref z7, .ref z8, .ref z9, .ref z10, .ref z11, .ref z12, .ref z13])), (a1, .inr (6, [.int 0, .int 0, .int 0, .ref z14, .ref z15, .ref z16]))] := hD
  have hl : lv_has ls 2 [(0, .ref a0), (1, .int p0)] := hl
  refine lv_aload_n hx hb dX10_offer_0 rfl (lv_at hl 0 rfl) ?_
  exact xV (l := l) (yM := yX10_needOffers) (C := RX10) (As := []) (rest := []) hF htb (c220_X10_needOffers l hlt a0 a1 z0 z1 z2 z3 z4 z5 z6 z7 z8 z9 z10 z11 z12 z13 z14 z15 z16) gv_RX10_209 0 (by decide +kernel) rfl ⟨(Nat.le_of_ble_eq_true rfl), (Nat.le_of_ble_eq_true rfl)⟩ hl.1 rfl (Nat.le_of_ble_eq_true rfl) dX10_offer_1 ⟨(Nat.le_of_ble_eq_true rfl), (Nat.le_of_ble_eq_true rfl)⟩ hP hD hS (pA hA hS) [0, 1] rfl rfl 0 (ci := 12) rfl rfl rfl ⟨(Nat.le_of_ble_eq_true rfl), (Nat.le_of_ble_eq_true rfl)⟩

set_option maxHeartbeats 4000000 in
set_option maxRecDepth 100000 in
theorem c220_L_offer (l : Launch) (hlt : l.stackTraces = false) (a0 : Nat) (a1 : Nat) (z0 : Nat) (z1 : Nat) (z2 : Nat) (z3 : Nat) (z4 : Nat) (z5 : Nat) (z6 : Nat) (z7 : Nat) (z8 : Nat) (z9 : Nat) (z10 : Nat) (z11 : Nat) (z12 : Nat) (z13 : Nat) (z14 : Nat) (z15 : Nat) (z16 : Nat) (p0 : Int32) (z17 : Nat) : CT l (.codeWith yL_offer cL_offer 4 (some .int) [(0, 9, 12, 15), (0, 9, 15, 24), (0, 9, 18, 61)]) yL_offer { frames := 8, cells := 1, slots := 6, locals := 131 } [.ref a0, .int p0, .ref z17] (fun y => [(a0, .inr (12, [.ref z0, .ref z1, .ref z2, .ref z3, .ref z4, .ref a1, .ref z5, .ref z6, .ref z7, .ref z8, .ref z9, .ref z10, .ref z11, .ref z12, .ref z13])), (a1, .inr (6, [.int 0, .int 0, .int 0, .ref z14, .ref z15, .ref z16]))]) (fun _ => []) (fun u => some (.int 1)) (fun y u => []) := by
  refine mkH (by decide) (Nat.le_of_ble_eq_true rfl) ?_
  intro p e s m args below meth c D y A ls hF htab hr hAe hP hD hS hl
  have hF : FX p e s m args meth c cL_offer 4 RL "offer" D y A := hF
  obtain ⟨⟨hx, hb, hml, hown, hts⟩, hev, heh, hA, hlk, hnm⟩ := id hF
  have hK := hev.1
  have hP : va_P D vwCl [(a0, .inr (12, [.ref z0, .ref z1, .ref z2, .ref z3, .ref z4, .ref a1, .ref z5, .ref z6, .ref z7, .ref z8, .ref z9, .ref z10, .ref z11, .ref z12, .ref z13])), (a1, .inr (6, [.int 0, .int 0, .int 0, .ref z14, .ref z15, .ref z16]))] s.heap := hP
  have hD : va_D (fun _ => True) [(a0, .inr (12, [.ref z0, .ref z1, .ref z2, .ref z3, .ref z4, .ref a1, .ref z5, .ref z6, .ref z7, .ref z8, .ref z9, .ref z10, .ref z11, .ref z12, .ref z13])), (a1, .inr (6, [.int 0, .int 0, .int 0, .ref z14, .ref z15, .ref z16]))] := hD
  have hl : lv_has ls 4 [(0, .ref a0), (1, .int p0), (2, .ref z17)] := hl
  refine lv_aload_n hx hb dL_offer_0 rfl (lv_at hl 2 rfl) ?_
  refine lv_iconst (v := 0) hx hb dL_offer_1 (by decide) ?_
  refine lv_aload_n hx hb dL_offer_2 rfl (lv_at hl 0 rfl) ?_
  refine lv_iload_n hx hb dL_offer_3 rfl (lv_at hl 1 rfl) ?_
  refine hV (wr := [(a0, .inr (12, [.ref z0, .ref z1, .ref z2, .ref z3, .ref z4, .ref a1, .ref z5, .ref z6, .ref z7, .ref z8, .ref z9, .ref z10, .ref z11, .ref z12, .ref z13])), (a1, .inr (6, [.int 0, .int 0, .int 0, .ref z14, .ref z15, .ref z16]))]) (name := "java/lang/IllegalStateException") (E0 := "java/lang/IllegalStateException") (l := l) (yM := yX10_offer) (C := RX10) (As := [.int p0]) (rest := [.int 0, .ref z17]) hF (c220_X10_offer l hlt a0 a1 z0 z1 z2 z3 z4 z5 z6 z7 z8 z9 z10 z11 z12 z13 z14 z15 z16 p0) gv_RL_58 1 (by decide +kernel) rfl ⟨(Nat.le_of_ble_eq_true rfl), (Nat.le_of_ble_eq_true rfl)⟩ hl.1 rfl (Nat.le_of_ble_eq_true rfl) dL_offer_4 ⟨(Nat.le_of_ble_eq_true rfl), (Nat.le_of_ble_eq_true rfl)⟩ hP hD hS (pA hA hS) (fun _ _ => trivial) [0, 1] [] [0, 1] rfl rfl rfl rfl rfl (by decide) 0 (ci := 12) rfl rfl rfl [] ⟨0, 9, 12, 15⟩ [⟨0, 9, 15, 24⟩, ⟨0, 9, 18, 61⟩] htab (fun z hz => nomatch hz) (by decide) (by decide) wd_450 (by decide) (fun q9 H locs hP hD hS => ?_)
  have hP : va_P D vwCl [(a0, .inr (12, [.ref z0, .ref z1, .ref z2, .ref z3, .ref z4, .ref a1, .ref z5, .ref z6, .ref z7, .ref z8, .ref z9, .ref z10, .ref z11, .ref z12, .ref z13])), (a1, .inr (6, [.int 0, .int 0, .int 0, .ref z14, .ref z15, .ref z16]))] H := hP
  have hD : va_D (fun _ => True) [(a0, .inr (12, [.ref z0, .ref z1, .ref z2, .ref z3, .ref z4, .ref a1, .ref z5, .ref z6, .ref z7, .ref z8, .ref z9, .ref z10, .ref z11, .ref z12, .ref z13])), (a1, .inr (6, [.int 0, .int 0, .int 0, .ref z14, .ref z15, .ref z16]))] := hD
  refine W.widen (k := 1) (n := 6) (Nat.le_of_ble_eq_true rfl) (Nat.le_of_ble_eq_true rfl) ?_
  refine W.eq (g2 := F0 m 12 ls [.ref q9]) rfl ?_
  refine lv_astore_n (lv' := [(3, .ref q9), (0, .ref a0), (1, .int p0), (2, .ref z17)]) hx hb dL_offer_12 rfl hl (by decide) rfl (fun ls hl => ?_)
  refine lv_iconst (v := 1) hx hb dL_offer_13 (by decide) ?_
  exact e_i hF hr (Nat.le_of_ble_eq_true rfl) (Nat.le_of_ble_eq_true rfl) hS (qg_end hS (fun _ => 0) rfl [] hP rfl d_nil) dL_offer_14

set_option maxHeartbeats 4000000 in
set_option maxRecDepth 100000 in
theorem c223_X11_offer (l : Launch) (a0 : Nat) (z0 : Nat) (z1 : Nat) (z2 : Nat) (z3 : Nat) (z4 : Nat) (z5 : Nat) (z6 : Nat) (z7 : Nat) (z8 : Nat) (z9 : Nat) (z10 : Nat) (z11 : Nat) (z12 : Nat) (z13 : Nat) (p0 : Int32) : CT l (.code yX11_offer cX11_offer 4 (some .char)) yX11_offer { frames := 1, cells := 0, slots := 0, locals := 23 } [.ref a0, .int p0] (fun y => [(a0, .inr (13, [.ref z0, .ref z1, .ref z2, .ref z3, .ref z4, .ref z5, .int 45, .ref z6, .ref z7, .ref z8, .int 0, .ref z9, .ref z10, .int 0, .int 0, .int 0, .int 0, .ref z11, .int 0, .null, .ref z12, .ref z13]))]) (fun y => [(a0, .inr (13, [.ref z0, .ref z1, .ref z2, .ref z3, .ref z4, .ref z5, .int 45, .ref z6, .ref z7, .ref z8, .int 0, .ref z9, .ref z10, .int 0, .int 0, .int 0, .int 0, .ref z11, .int 0, .null, .ref z12, .ref z13]))]) (fun u => some (.int 32)) (fun y u => [(a0, .inr (13, [.ref z0, .ref z1, .ref z2, .ref z3, .ref z4, .ref z5, .int 45, .ref z6, .ref z7, .ref z8, .int 0, .ref z9, .ref z10, .int 0, .int 0, .int 1, .int 0, .ref z11, .int 0, .null, .ref z12, .ref z13]))]) := by
  refine mkM (by decide) (Nat.le_of_ble_eq_true rfl) ?_
  intro p e s m args below meth c D y A ls hF hr hAe hP hD hS hl
  have hF : FX p e s m args meth c cX11_offer 4 RX11 "offer" D y A := hF
  obtain ⟨⟨hx, hb, hml, hown, hts⟩, hev, heh, hA, hlk, hnm⟩ := id hF
  have hK := hev.1
  have hP : va_P D vwCl [(a0, .inr (13, [.ref z0, .ref z1, .ref z2, .ref z3, .ref z4, .ref z5, .int 45, .ref z6, .ref z7, .ref z8, .int 0, .ref z9, .ref z10, .int 0, .int 0, .int 0, .int 0, .ref z11, .int 0, .null, .ref z12, .ref z13]))] s.heap := hP
  have hD : va_D A [(a0, .inr (13, [.ref z0, .ref z1, .ref z2, .ref z3, .ref z4, .ref z5, .int 45, .ref z6, .ref z7, .ref z8, .int 0, .ref z9, .ref z10, .int 0, .int 0, .int 0, .int 0, .ref z11, .int 0, .null, .ref z12, .ref z13]))] := by rw [← hAe]; exact hD.self
  have hl : lv_has ls 4 [(0, .ref a0), (1, .int p0)] := hl
  refine lv_aload_n hx hb dX11_offer_0 rfl (lv_at hl 0 rfl) ?_
  refine va_get (D := D) (ci := 13) (v := .int 45) (C := RX11) (T := TX11) (N := 22) hx hb hts inX11 hown hK hP 0 rfl rfl 6 (by decide) (hts _ wd_126) (fun _ h9 => h9) rfl dX11_offer_1 ?_
  refine lv_bipush (v := 45) hx hb dX11_offer_4 (by decide) ?_
  refine lv_icmp_eq (tgt := 13) hx hb dX11_offer_6 (by decide) (fun _ => ?_) (fun c => absurd (by decide) c)
  refine lv_iconst (v := 0) hx hb dX11_offer_13 (by decide) ?_
  refine lv_istore_n (lv' := [(2, .int 0), (0, .ref a0), (1, .int p0)]) hx hb dX11_offer_14 rfl hl (by decide) rfl (fun ls hl => ?_)
  refine lv_iload_n hx hb dX11_offer_15 rfl (lv_at hl 0 rfl) ?_
  refine lv_if_eq (tgt := 52) hx hb dX11_offer_16 (by decide) (fun _ => ?_) (fun c => absurd (by decide) c)
  refine lv_iconst (v := 0) hx hb dX11_offer_52 (by decide) ?_
  refine lv_istore_n (lv' := [(3, .int 0), (2, .int 0), (0, .ref a0), (1, .int p0)]) hx hb dX11_offer_53 rfl hl (by decide) rfl (fun ls hl => ?_)
  refine lv_aload_n hx hb dX11_offer_54 rfl (lv_at hl 2 rfl) ?_
  refine lv_iload_n hx hb dX11_offer_55 rfl (lv_at hl 1 rfl) ?_
  refine lv_if_ne (tgt := 63) hx hb dX11_offer_56 (by decide) (fun c => absurd (by decide) c) (fun _ => ?_)
  refine lv_iconst (v := 1) hx hb dX11_offer_59 (by decide) ?_
  refine lv_goto (tgt := 64) hx hb dX11_offer_60 (by decide) ?_
  refine lv_iload_n hx hb dX11_offer_64 rfl (lv_at hl 0 rfl) ?_
  refine lv_if_ne (tgt := 72) hx hb dX11_offer_65 (by decide) (fun c => absurd (by decide) c) (fun _ => ?_)
  refine lv_iconst (v := 1) hx hb dX11_offer_68 (by decide) ?_
  refine lv_goto (tgt := 73) hx hb dX11_offer_69 (by decide) ?_
  refine lv_iload_n hx hb dX11_offer_73 rfl (lv_at hl 0 rfl) ?_
  refine lv_if_eq (tgt := 112) hx hb dX11_offer_74 (by decide) (fun _ => ?_) (fun c => absurd (by decide) c)
  refine lv_iconst (v := 0) hx hb dX11_offer_112 (by decide) ?_
  refine cV (l := l) (yM := yX11_fails) (C := RX11) (As := [.int 1, .int 1, .int 0]) (rest := []) (wr := []) hF (c89_X11_fails l a0 z0 z1 z2 z3 z4 z5 z6 z7 z8 z9 z10 z11 z12 z13) gv_RX11_128 3 (by decide +kernel) rfl ⟨(Nat.le_of_ble_eq_true rfl), (Nat.le_of_ble_eq_true rfl)⟩ hl.1 rfl (Nat.le_of_ble_eq_true rfl) dX11_offer_113 ⟨(Nat.le_of_ble_eq_true rfl), (Nat.le_of_ble_eq_true rfl)⟩ hP hD hS (va_free (wc := [(a0, .inr (13, [.ref z0, .ref z1, .ref z2, .ref z3, .ref z4, .ref z5, .int 45, .ref z6, .ref z7, .ref z8, .int 0, .ref z9, .ref z10, .int 0, .int 0, .int 0, .int 0, .ref z11, .int 0, .null, .ref z12, .ref z13]))]) hD hS hA [0] rfl) (fun _ h => h) [0] [0] [] rfl rfl rfl rfl rfl (by decide) 0 (ci := 13) rfl rfl rfl (fun u_1 H locs hP hD hS => ?_)
  have hP : va_P D vwCl [(a0, .inr (13, [.ref z0, .ref z1, .ref z2, .ref z3, .ref z4, .ref z5, .int 45, .ref z6, .ref z7, .ref z8, .int 0, .ref z9, .ref z10, .int 0, .int 0, .int 1, .int 0, .ref z11, .int 0, .null, .ref z12, .ref z13]))] H := hP
  have hD : va_D A [(a0, .inr (13, [.ref z0, .ref z1, .ref z2, .ref z3, .ref z4, .ref z5, .int 45, .ref z6, .ref z7, .ref z8, .int 0, .ref z9, .ref z10, .int 0, .int 0, .int 1, .int 0, .ref z11, .int 0, .null, .ref z12, .ref z13]))] := hD
  refine W.widen (k := 0) (n := 0) (Nat.le_of_ble_eq_true rfl) (Nat.le_of_ble_eq_true rfl) ?_
  refine W.eq (g2 := F0 m 116 ls [.int 1]) rfl ?_
  refine lv_if_eq (tgt := 122) hx hb dX11_offer_116 (by decide) (fun c => absurd c (by decide)) (fun _ => ?_)
  refine lv_bipush (v := 32) hx hb dX11_offer_119 (by decide) ?_
  exact e_z hF hr (by decide) (Nat.le_of_ble_eq_true rfl) (Nat.le_of_ble_eq_true rfl) hS (qg_end hS (fun _ => 0) rfl [0] hP rfl (hD.sub [0] rfl rfl)) dX11_offer_121

set_option maxHeartbeats 4000000 in
set_option maxRecDepth 100000 in
theorem c224_X10_open (l : Launch) (hlt : l.stackTraces = false) (a0 : Nat) (a1 : Nat) (z0 : Nat) (z1 : Nat) (z2 : Nat) (z3 : Nat) (z4 : Nat) (z5 : Nat) (z6 : Nat) (z7 : Nat) (z8 : Nat) (z9 : Nat) (z10 : Nat) (z11 : Nat) (z12 : Nat) (z13 : Nat) (z14 : Nat) (z15 : Nat) (z16 : Nat) : CX l (.code yX10_open cX10_open 1 (some .int)) yX10_open { frames := 7, cells := 1, slots := 6, locals := 110 } [.ref a0] (fun y => [(a0, .inr (12, [.ref z0, .ref z1, .ref z2, .ref z3, .ref z4, .ref a1, .ref z5, .ref z6, .ref z7, .ref z8, .ref z9, .ref z10, .ref z11, .ref z12, .ref z13])), (a1, .inr (6, [.int 0, .int 0, .int 0, .ref z14, .ref z15, .ref z16]))]) (fun _ => []) "java/lang/IllegalStateException" := by
  refine mkX (by decide) (Nat.le_of_ble_eq_true rfl) ?_
  intro p e s m args below meth c D y A ls hF htb hAe hP hD hS hl
  have hF : FX p e s m args meth c cX10_open 1 RX10 "open" D y A := hF
  obtain ⟨⟨hx, hb, hml, hown, hts⟩, hev, heh, hA, hlk, hnm⟩ := id hF
  have hK := hev.1
  have hP : va_P D vwCl [(a0, .inr (12, [.ref z0, .ref z1, .ref z2, .ref z3, .ref z4, .ref a1, .ref z5, .ref z6, .ref z7, .ref z8, .ref z9, .ref z10, .ref z11, .ref z12, .ref z13])), (a1, .inr (6, [.int 0, .int 0, .int 0, .ref z14, .ref z15, .ref z16]))] s.heap := hP
  have hD : va_D (fun _ => True) [(a0, .inr (12, [.ref z0, .ref z1, .ref z2, .ref z3, .ref z4, .ref a1, .ref z5, .ref z6, .ref z7, .ref z8, .ref z9, .ref z10, .ref z11, .ref z12, .ref z13])), (a1, .inr (6, [.int 0, .int 0, .int 0, .ref z14, .ref z15, .ref z16]))] := hD
  have hl : lv_has ls 1 [(0, .ref a0)] := hl
  refine lv_aload_n hx hb dX10_open_0 rfl (lv_at hl 0 rfl) ?_
  exact xV (l := l) (yM := yX10_needOffers) (C := RX10) (As := []) (rest := []) hF htb (c220_X10_needOffers l hlt a0 a1 z0 z1 z2 z3 z4 z5 z6 z7 z8 z9 z10 z11 z12 z13 z14 z15 z16) gv_RX10_209 0 (by decide +kernel) rfl ⟨(Nat.le_of_ble_eq_true rfl), (Nat.le_of_ble_eq_true rfl)⟩ hl.1 rfl (Nat.le_of_ble_eq_true rfl) dX10_open_1 ⟨(Nat.le_of_ble_eq_true rfl), (Nat.le_of_ble_eq_true rfl)⟩ hP hD hS (pA hA hS) [0, 1] rfl rfl 0 (ci := 12) rfl rfl rfl ⟨(Nat.le_of_ble_eq_true rfl), (Nat.le_of_ble_eq_true rfl)⟩

set_option maxHeartbeats 4000000 in
set_option maxRecDepth 100000 in
theorem c224_L_open (l : Launch) (hlt : l.stackTraces = false) (a0 : Nat) (a1 : Nat) (z0 : Nat) (z1 : Nat) (z2 : Nat) (z3 : Nat) (z4 : Nat) (z5 : Nat) (z6 : Nat) (z7 : Nat) (z8 : Nat) (z9 : Nat) (z10 : Nat) (z11 : Nat) (z12 : Nat) (z13 : Nat) (z14 : Nat) (z15 : Nat) (z16 : Nat) (z17 : Nat) : CT l (.codeWith yL_open cL_open 3 (some .int) [(0, 8, 11, 15)]) yL_open { frames := 8, cells := 1, slots := 6, locals := 130 } [.ref a0, .ref z17] (fun y => [(a0, .inr (12, [.ref z0, .ref z1, .ref z2, .ref z3, .ref z4, .ref a1, .ref z5, .ref z6, .ref z7, .ref z8, .ref z9, .ref z10, .ref z11, .ref z12, .ref z13])), (a1, .inr (6, [.int 0, .int 0, .int 0, .ref z14, .ref z15, .ref z16]))]) (fun _ => []) (fun u => some (.int 1)) (fun y u => []) := by
  refine mkH (by decide) (Nat.le_of_ble_eq_true rfl) ?_
  intro p e s m args below meth c D y A ls hF htab hr hAe hP hD hS hl
  have hF : FX p e s m args meth c cL_open 3 RL "open" D y A := hF
  obtain ⟨⟨hx, hb, hml, hown, hts⟩, hev, heh, hA, hlk, hnm⟩ := id hF
  have hK := hev.1
  have hP : va_P D vwCl [(a0, .inr (12, [.ref z0, .ref z1, .ref z2, .ref z3, .ref z4, .ref a1, .ref z5, .ref z6, .ref z7, .ref z8, .ref z9, .ref z10, .ref z11, .ref z12, .ref z13])), (a1, .inr (6, [.int 0, .int 0, .int 0, .ref z14, .ref z15, .ref z16]))] s.heap := hP
  have hD : va_D (fun _ => True) [(a0, .inr (12, [.ref z0, .ref z1, .ref z2, .ref z3, .ref z4, .ref a1, .ref z5, .ref z6, .ref z7, .ref z8, .ref z9, .ref z10, .ref z11, .ref z12, .ref z13])), (a1, .inr (6, [.int 0, .int 0, .int 0, .ref z14, .ref z15, .ref z16]))] := hD
  have hl : lv_has ls 3 [(0, .ref a0), (1, .ref z17)] := hl
  refine lv_aload_n hx hb dL_open_0 rfl (lv_at hl 1 rfl) ?_
  refine lv_iconst (v := 0) hx hb dL_open_1 (by decide) ?_
  refine lv_aload_n hx hb dL_open_2 rfl (lv_at hl 0 rfl) ?_
  refine hV (wr := [(a0, .inr (12, [.ref z0, .ref z1, .ref z2, .ref z3, .ref z4, .ref a1, .ref z5, .ref z6, .ref z7, .ref z8, .ref z9, .ref z10, .ref z11, .ref z12, .ref z13])), (a1, .inr (6, [.int 0, .int 0, .int 0, .ref z14, .ref z15, .ref z16]))]) (name := "java/lang/IllegalStateException") (E0 := "java/lang/IllegalStateException") (l := l) (yM := yX10_open) (C := RX10) (As := []) (rest := [.int 0, .ref z17]) hF (c224_X10_open l hlt a0 a1 z0 z1 z2 z3 z4 z5 z6 z7 z8 z9 z10 z11 z12 z13 z14 z15 z16) gv_RL_63 0 (by decide +kernel) rfl ⟨(Nat.le_of_ble_eq_true rfl), (Nat.le_of_ble_eq_true rfl)⟩ hl.1 rfl (Nat.le_of_ble_eq_true rfl) dL_open_3 ⟨(Nat.le_of_ble_eq_true rfl), (Nat.le_of_ble_eq_true rfl)⟩ hP hD hS (pA hA hS) (fun _ _ => trivial) [0, 1] [] [0, 1] rfl rfl rfl rfl rfl (by decide) 0 (ci := 12) rfl rfl rfl [] ⟨0, 8, 11, 15⟩ [] htab (fun z hz => nomatch hz) (by decide) (by decide) wd_450 (by decide) (fun q9 H locs hP hD hS => ?_)
  have hP : va_P D vwCl [(a0, .inr (12, [.ref z0, .ref z1, .ref z2, .ref z3, .ref z4, .ref a1, .ref z5, .ref z6, .ref z7, .ref z8, .ref z9, .ref z10, .ref z11, .ref z12, .ref z13])), (a1, .inr (6, [.int 0, .int 0, .int 0, .ref z14, .ref z15, .ref z16]))] H := hP
  have hD : va_D (fun _ => True) [(a0, .inr (12, [.ref z0, .ref z1, .ref z2, .ref z3, .ref z4, .ref a1, .ref z5, .ref z6, .ref z7, .ref z8, .ref z9, .ref z10, .ref z11, .ref z12, .ref z13])), (a1, .inr (6, [.int 0, .int 0, .int 0, .ref z14, .ref z15, .ref z16]))] := hD
  refine W.widen (k := 1) (n := 6) (Nat.le_of_ble_eq_true rfl) (Nat.le_of_ble_eq_true rfl) ?_
  refine W.eq (g2 := F0 m 11 ls [.ref q9]) rfl ?_
  refine lv_astore_n (lv' := [(2, .ref q9), (0, .ref a0), (1, .ref z17)]) hx hb dL_open_11 rfl hl (by decide) rfl (fun ls hl => ?_)
  refine lv_iconst (v := 1) hx hb dL_open_12 (by decide) ?_
  exact e_i hF hr (Nat.le_of_ble_eq_true rfl) (Nat.le_of_ble_eq_true rfl) hS (qg_end hS (fun _ => 0) rfl [] hP rfl d_nil) dL_open_13

set_option maxHeartbeats 4000000 in
set_option maxRecDepth 100000 in
theorem c226_X11_open (l : Launch) (a0 : Nat) (z0 : Nat) (z1 : Nat) (z2 : Nat) (z3 : Nat) (z4 : Nat) (z5 : Nat) (z6 : Nat) (z7 : Nat) (z8 : Nat) (z9 : Nat) (z10 : Nat) (z11 : Nat) (z12 : Nat) (z13 : Nat) : CT l (.code yX11_open cX11_open 1 (some .int)) yX11_open { frames := 1, cells := 0, slots := 0, locals := 23 } [.ref a0] (fun y => [(a0, .inr (13, [.ref z0, .ref z1, .ref z2, .ref z3, .ref z4, .ref z5, .int 45, .ref z6, .ref z7, .ref z8, .int 0, .ref z9, .ref z10, .int 0, .int 0, .int 0, .int 0, .ref z11, .int 0, .null, .ref z12, .ref z13]))]) (fun y => [(a0, .inr (13, [.ref z0, .ref z1, .ref z2, .ref z3, .ref z4, .ref z5, .int 45, .ref z6, .ref z7, .ref z8, .int 0, .ref z9, .ref z10, .int 0, .int 0, .int 0, .int 0, .ref z11, .int 0, .null, .ref z12, .ref z13]))]) (fun u => some (.int 0)) (fun y u => [(a0, .inr (13, [.ref z0, .ref z1, .ref z2, .ref z3, .ref z4, .ref z5, .int 45, .ref z6, .ref z7, .ref z8, .int 0, .ref z9, .ref z10, .int 0, .int 0, .int 1, .int 0, .ref z11, .int 0, .null, .ref z12, .ref z13]))]) := by
  refine mkM (by decide) (Nat.le_of_ble_eq_true rfl) ?_
  intro p e s m args below meth c D y A ls hF hr hAe hP hD hS hl
  have hF : FX p e s m args meth c cX11_open 1 RX11 "open" D y A := hF
  obtain ⟨⟨hx, hb, hml, hown, hts⟩, hev, heh, hA, hlk, hnm⟩ := id hF
  have hK := hev.1
  have hP : va_P D vwCl [(a0, .inr (13, [.ref z0, .ref z1, .ref z2, .ref z3, .ref z4, .ref z5, .int 45, .ref z6, .ref z7, .ref z8, .int 0, .ref z9, .ref z10, .int 0, .int 0, .int 0, .int 0, .ref z11, .int 0, .null, .ref z12, .ref z13]))] s.heap := hP
  have hD : va_D A [(a0, .inr (13, [.ref z0, .ref z1, .ref z2, .ref z3, .ref z4, .ref z5, .int 45, .ref z6, .ref z7, .ref z8, .int 0, .ref z9, .ref z10, .int 0, .int 0, .int 0, .int 0, .ref z11, .int 0, .null, .ref z12, .ref z13]))] := by rw [← hAe]; exact hD.self
  have hl : lv_has ls 1 [(0, .ref a0)] := hl
  refine lv_aload_n hx hb dX11_open_0 rfl (lv_at hl 0 rfl) ?_
  refine lv_aload_n hx hb dX11_open_1 rfl (lv_at hl 0 rfl) ?_
  refine va_get (D := D) (ci := 13) (v := .int 45) (C := RX11) (T := TX11) (N := 22) hx hb hts inX11 hown hK hP 0 rfl rfl 6 (by decide) (hts _ wd_126) (fun _ h9 => h9) rfl dX11_open_2 ?_
  refine lv_bipush (v := 45) hx hb dX11_open_5 (by decide) ?_
  refine lv_icmp_ne (tgt := 14) hx hb dX11_open_7 (by decide) (fun c => absurd (by decide) c) (fun _ => ?_)
  refine lv_iconst (v := 1) hx hb dX11_open_10 (by decide) ?_
  refine lv_goto (tgt := 15) hx hb dX11_open_11 (by decide) ?_
  refine lv_iconst (v := 0) hx hb dX11_open_15 (by decide) ?_
  refine lv_iconst (v := 0) hx hb dX11_open_16 (by decide) ?_
  refine cV (l := l) (yM := yX11_fails) (C := RX11) (As := [.int 1, .int 0, .int 0]) (rest := []) (wr := []) hF (c67_X11_fails l a0 z0 z1 z2 z3 z4 z5 z6 z7 z8 z9 z10 z11 z12 z13) gv_RX11_128 3 (by decide +kernel) rfl ⟨(Nat.le_of_ble_eq_true rfl), (Nat.le_of_ble_eq_true rfl)⟩ hl.1 rfl (Nat.le_of_ble_eq_true rfl) dX11_open_17 ⟨(Nat.le_of_ble_eq_true rfl), (Nat.le_of_ble_eq_true rfl)⟩ hP hD hS (va_free (wc := [(a0, .inr (13, [.ref z0, .ref z1, .ref z2, .ref z3, .ref z4, .ref z5, .int 45, .ref z6, .ref z7, .ref z8, .int 0, .ref z9, .ref z10, .int 0, .int 0, .int 0, .int 0, .ref z11, .int 0, .null, .ref z12, .ref z13]))]) hD hS hA [0] rfl) (fun _ h => h) [0] [0] [] rfl rfl rfl rfl rfl (by decide) 0 (ci := 13) rfl rfl rfl (fun u_1 H locs hP hD hS => ?_)
  have hP : va_P D vwCl [(a0, .inr (13, [.ref z0, .ref z1, .ref z2, .ref z3, .ref z4, .ref z5, .int 45, .ref z6, .ref z7, .ref z8, .int 0, .ref z9, .ref z10, .int 0, .int 0, .int 1, .int 0, .ref z11, .int 0, .null, .ref z12, .ref z13]))] H := hP
  have hD : va_D A [(a0, .inr (13, [.ref z0, .ref z1, .ref z2, .ref z3, .ref z4, .ref z5, .int 45, .ref z6, .ref z7, .ref z8, .int 0, .ref z9, .ref z10, .int 0, .int 0, .int 1, .int 0, .ref z11, .int 0, .null, .ref z12, .ref z13]))] := hD
  refine W.widen (k := 0) (n := 0) (Nat.le_of_ble_eq_true rfl) (Nat.le_of_ble_eq_true rfl) ?_
  refine W.eq (g2 := F0 m 20 ls [.int 1]) rfl ?_
  refine lv_if_eq (tgt := 27) hx hb dX11_open_20 (by decide) (fun c => absurd c (by decide)) (fun _ => ?_)
  refine lv_iconst (v := 0) hx hb dX11_open_23 (by decide) ?_
  refine lv_goto (tgt := 31) hx hb dX11_open_24 (by decide) ?_
  exact e_i hF hr (Nat.le_of_ble_eq_true rfl) (Nat.le_of_ble_eq_true rfl) hS (qg_end hS (fun _ => 0) rfl [0] hP rfl (hD.sub [0] rfl rfl)) dX11_open_31

set_option maxHeartbeats 4000000 in
set_option maxRecDepth 100000 in
theorem c227_X4_chooseAble (l : Launch) (a0 : Nat) (a1 : Nat) (a2 : Nat) (a3 : Nat) (z0 : Nat) (z1 : Nat) (z2 : Nat) (z3 : Nat) (z4 : Nat) (z5 : Nat) (z6 : Nat) (z7 : Nat) : CT l (.code yX4_chooseAble cX4_chooseAble 6 (some .int)) yX4_chooseAble { frames := 2, cells := 0, slots := 0, locals := 44 } [.ref a2, .ref a0, .ref z7, .int 0] (fun y => [(a0, .inr (5, [.ref a1, .ref z0, .ref z1])), (a1, .inr (4, [.int 0, .ref z2, .ref z3, .ref z4])), (a2, .inr (6, [.int 1, .int 0, .int 0, .ref a3, .ref z5, .ref z6])), (a3, .inl (y 0, 10, .inl (fun _ => 0)))]) (fun _ => []) (fun u => some (.int (-1))) (fun y u => []) := by
  refine mkM (by decide) (Nat.le_of_ble_eq_true rfl) ?_
  intro p e s m args below meth c D y A ls hF hr hAe hP hD hS hl
  have hF : FX p e s m args meth c cX4_chooseAble 6 RX4 "chooseAble" D y A := hF
  obtain ⟨⟨hx, hb, hml, hown, hts⟩, hev, heh, hA, hlk, hnm⟩ := id hF
  have hK := hev.1
  have hP : va_P D vwCl [(a0, .inr (5, [.ref a1, .ref z0, .ref z1])), (a1, .inr (4, [.int 0, .ref z2, .ref z3, .ref z4])), (a2, .inr (6, [.int 1, .int 0, .int 0, .ref a3, .ref z5, .ref z6])), (a3, .inl (y 0, 10, .inl (fun _ => 0)))] s.heap := hP
  have hD : va_D (fun _ => True) [(a0, .inr (5, [.ref a1, .ref z0, .ref z1])), (a1, .inr (4, [.int 0, .ref z2, .ref z3, .ref z4])), (a2, .inr (6, [.int 1, .int 0, .int 0, .ref a3, .ref z5, .ref z6])), (a3, .inl (y 0, 10, .inl (fun _ => 0)))] := hD
  have hl : lv_has ls 6 [(0, .ref a2), (1, .ref a0), (2, .ref z7), (3, .int 0)] := hl
  refine lv_iconst (v := 0) hx hb dX4_chooseAble_0 (by decide) ?_
  refine lv_istore (lv' := [(4, .int 0), (0, .ref a2), (1, .ref a0), (2, .ref z7), (3, .int 0)]) hx hb dX4_chooseAble_1 hl (by decide) rfl (fun ls hl => ?_)
  refine lpF (lo := 0) (N := 10) (by decide) (Wd := fun i => [(a0, .inr (5, [.ref a1, .ref z0, .ref z1])), (a1, .inr (4, [.int 0, .ref z2, .ref z3, .ref z4])), (a2, .inr (6, [.int 1, .int 0, .int 0, .ref a3, .ref z5, .ref z6])), (a3, .inl (y 0, 10, .inl (fun _ => 0)))]) (Lv := fun i => [(4, .int (nI i)), (0, .ref a2), (1, .ref a0), (2, .ref z7), (3, .int 0)]) hP hD hS (lv_sub hl [0, 1, 2, 3, 4] rfl) (fun i hlo_i hi ih_i H locs ls hP hD hS hl => ?_) (fun H locs ls hP hD hS hl => ?_)
  · have hP : va_P D vwCl [(a0, .inr (5, [.ref a1, .ref z0, .ref z1])), (a1, .inr (4, [.int 0, .ref z2, .ref z3, .ref z4])), (a2, .inr (6, [.int 1, .int 0, .int 0, .ref a3, .ref z5, .ref z6])), (a3, .inl (y 0, 10, .inl (fun _ => 0)))] H := hP
    have hD : va_D (fun _ => True) [(a0, .inr (5, [.ref a1, .ref z0, .ref z1])), (a1, .inr (4, [.int 0, .ref z2, .ref z3, .ref z4])), (a2, .inr (6, [.int 1, .int 0, .int 0, .ref a3, .ref z5, .ref z6])), (a3, .inl (y 0, 10, .inl (fun _ => 0)))] := hD
    have hl : lv_has ls 6 [(4, .int (nI i)), (0, .ref a2), (1, .ref a0), (2, .ref z7), (3, .int 0)] := hl
    have hi_1 : (nI i) < (10 : Int32) := nI_lt hi (by decide)
    have hi_0 : ¬ (nI i) < (0 : Int32) := nI_pos (by omega)
    refine lv_iload hx hb dX4_chooseAble_3 (lv_at hl 0 rfl) ?_
    refine lv_bipush (v := 10) hx hb dX4_chooseAble_5 (by decide) ?_
    refine lv_icmp_ge (tgt := 46) hx hb dX4_chooseAble_7 (by decide) (fun c => absurd c (by have e0 : (0 : Int32).toInt = 0 := (by decide); have e1 : (10 : Int32).toInt = 10 := (by decide); have h9 := And.intro hi_1 hi_0; simp only [Int32.lt_iff_toInt_lt, Int32.le_iff_toInt_le, ← Int32.toInt_inj, e0, e1] at h9 ⊢; omega)) (fun _ => ?_)
    refine lv_iload_n hx hb dX4_chooseAble_10 rfl (lv_at hl 4 rfl) ?_
    refine lv_if_eq (tgt := 22) hx hb dX4_chooseAble_11 (by decide) (fun _ => ?_) (fun c => absurd (by decide) c)
    refine lv_iload hx hb dX4_chooseAble_22 (lv_at hl 0 rfl) ?_
    refine lv_istore (lv' := [(5, .int (nI i)), (4, .int (nI i)), (0, .ref a2), (1, .ref a0), (2, .ref z7), (3, .int 0)]) hx hb dX4_chooseAble_24 hl (by decide) rfl (fun ls hl => ?_)
    refine lv_aload_n hx hb dX4_chooseAble_26 rfl (lv_at hl 2 rfl) ?_
    refine lv_aload_n hx hb dX4_chooseAble_27 rfl (lv_at hl 3 rfl) ?_
    refine lv_aload_n hx hb dX4_chooseAble_28 rfl (lv_at hl 4 rfl) ?_
    refine lv_iload hx hb dX4_chooseAble_29 (lv_at hl 0 rfl) ?_
    refine cV (l := l) (yM := yX4_canMake) (C := RX4) (As := [.ref a0, .ref z7, .int (nI i)]) (rest := []) (wr := [(a0, .inr (5, [.ref a1, .ref z0, .ref z1])), (a1, .inr (4, [.int 0, .ref z2, .ref z3, .ref z4])), (a2, .inr (6, [.int 1, .int 0, .int 0, .ref a3, .ref z5, .ref z6])), (a3, .inl (y 0, 10, .inl (fun _ => 0)))]) hF (c191_X4_canMake l a0 a1 a2 a3 z0 z1 z2 z3 z4 z5 z6 z7 (nI i)) gv_RX4_67 3 (by decide +kernel) rfl ⟨(Nat.le_of_ble_eq_true rfl), (Nat.le_of_ble_eq_true rfl)⟩ hl.1 rfl (Nat.le_of_ble_eq_true rfl) dX4_chooseAble_31 ⟨(Nat.le_of_ble_eq_true rfl), (Nat.le_of_ble_eq_true rfl)⟩ hP hD hS (pA hA hS) (fun _ _ => trivial) [0, 1, 2, 3] [] [0, 1, 2, 3] rfl rfl rfl rfl rfl (by decide) 2 (ci := 6) rfl rfl rfl (fun u_1 H locs hP hD hS => ?_)
    have hP : va_P D vwCl [(a0, .inr (5, [.ref a1, .ref z0, .ref z1])), (a1, .inr (4, [.int 0, .ref z2, .ref z3, .ref z4])), (a2, .inr (6, [.int 1, .int 0, .int 0, .ref a3, .ref z5, .ref z6])), (a3, .inl (y 0, 10, .inl (fun _ => 0)))] H := hP
    have hD : va_D (fun _ => True) [(a0, .inr (5, [.ref a1, .ref z0, .ref z1])), (a1, .inr (4, [.int 0, .ref z2, .ref z3, .ref z4])), (a2, .inr (6, [.int 1, .int 0, .int 0, .ref a3, .ref z5, .ref z6])), (a3, .inl (y 0, 10, .inl (fun _ => 0)))] := hD
    refine W.widen (k := 0) (n := 0) (Nat.le_of_ble_eq_true rfl) (Nat.le_of_ble_eq_true rfl) ?_
    refine W.eq (g2 := F0 m 34 ls [.int 0]) rfl ?_
    refine lv_if_eq (tgt := 40) hx hb dX4_chooseAble_34 (by decide) (fun _ => ?_) (fun c => absurd (by decide) c)
    refine lv_iinc (v := nI (i + 1)) (lv' := [(4, .int (nI (i + 1))), (5, .int (nI i)), (0, .ref a2), (1, .ref a0), (2, .ref z7), (3, .int 0)]) hx hb dX4_chooseAble_40 hl (k := 1) rfl (nI_inc i) (by decide) rfl (fun ls hl => ?_)
    refine lv_goto (tgt := 3) hx hb dX4_chooseAble_43 (by decide) ?_
    exact ih_i _ _ _ hP hD hS (lv_sub hl [0, 2, 3, 4, 5] rfl)
  · have hP : va_P D vwCl [(a0, .inr (5, [.ref a1, .ref z0, .ref z1])), (a1, .inr (4, [.int 0, .ref z2, .ref z3, .ref z4])), (a2, .inr (6, [.int 1, .int 0, .int 0, .ref a3, .ref z5, .ref z6])), (a3, .inl (y 0, 10, .inl (fun _ => 0)))] H := hP
    have hD : va_D (fun _ => True) [(a0, .inr (5, [.ref a1, .ref z0, .ref z1])), (a1, .inr (4, [.int 0, .ref z2, .ref z3, .ref z4])), (a2, .inr (6, [.int 1, .int 0, .int 0, .ref a3, .ref z5, .ref z6])), (a3, .inl (y 0, 10, .inl (fun _ => 0)))] := hD
    have hl : lv_has ls 6 [(4, .int 10), (0, .ref a2), (1, .ref a0), (2, .ref z7), (3, .int 0)] := hl
    refine lv_iload hx hb dX4_chooseAble_3 (lv_at hl 0 rfl) ?_
    refine lv_bipush (v := 10) hx hb dX4_chooseAble_5 (by decide) ?_
    refine lv_icmp_ge (tgt := 46) hx hb dX4_chooseAble_7 (by decide) (fun _ => ?_) (fun c => absurd (by decide) c)
    refine lv_iconst (v := (-1)) hx hb dX4_chooseAble_46 (by decide) ?_
    exact e_i hF hr (Nat.le_of_ble_eq_true rfl) (Nat.le_of_ble_eq_true rfl) hS (qg_end hS (fun _ => 0) rfl [] hP rfl d_nil) dX4_chooseAble_47

set_option maxHeartbeats 4000000 in
set_option maxRecDepth 100000 in
theorem c227_X4_makeAll (l : Launch) (a0 : Nat) (a1 : Nat) (a2 : Nat) (a3 : Nat) (a4 : Nat) (a5 : Nat) (a6 : Nat) (z0 : Nat) (z1 : Nat) (z2 : Nat) (z3 : Nat) (z4 : Nat) (z5 : Nat) (z6 : Nat) : CT l (.code yX4_makeAll cX4_makeAll 7 none) yX4_makeAll { frames := 3, cells := 0, slots := 0, locals := 69 } [.ref a5, .ref a0, .ref a2, .int 112, .int 0] (fun y => [(a0, .inr (5, [.ref a1, .ref z0, .ref z1])), (a1, .inr (4, [.int 0, .ref z2, .ref z3, .ref z4])), (a2, .inr (7, [.ref a3, .ref a4])), (a3, .inl (y 0, 10, .inl (fun _ => (-1)))), (a4, .inl (y 0, 10, .inl (fun _ => 0))), (a5, .inr (6, [.int 0, .int 0, .int 0, .ref a6, .ref z5, .ref z6])), (a6, .inl (y 0, 10, .inl (fun _ => 0)))]) (fun y => [(a0, .inr (5, [.ref a1, .ref z0, .ref z1])), (a1, .inr (4, [.int 0, .ref z2, .ref z3, .ref z4])), (a2, .inr (7, [.ref a3, .ref a4])), (a3, .inl (y 0, 10, .inl (fun _ => (-1)))), (a4, .inl (y 0, 10, .inl (fun _ => 0))), (a5, .inr (6, [.int 0, .int 0, .int 0, .ref a6, .ref z5, .ref z6])), (a6, .inl (y 0, 10, .inl (fun _ => 0)))]) (fun u => none) (fun y u => [(a0, .inr (5, [.ref a1, .ref z0, .ref z1])), (a1, .inr (4, [.int 0, .ref z2, .ref z3, .ref z4])), (a2, .inr (7, [.ref a3, .ref a4])), (a3, .inl (y 0, 10, .inl (fun _ => (-1)))), (a4, .inl (y 0, 10, .inl (fun _ => 0))), (a5, .inr (6, [.int 1, .int 0, .int 0, .ref a6, .ref z5, .ref z6])), (a6, .inl (y 0, 10, .inl (fun _ => 0)))]) := by
  refine mkM (by decide) (Nat.le_of_ble_eq_true rfl) ?_
  intro p e s m args below meth c D y A ls hF hr hAe hP hD hS hl
  have hF : FX p e s m args meth c cX4_makeAll 7 RX4 "makeAll" D y A := hF
  obtain ⟨⟨hx, hb, hml, hown, hts⟩, hev, heh, hA, hlk, hnm⟩ := id hF
  have hK := hev.1
  have hP : va_P D vwCl [(a0, .inr (5, [.ref a1, .ref z0, .ref z1])), (a1, .inr (4, [.int 0, .ref z2, .ref z3, .ref z4])), (a2, .inr (7, [.ref a3, .ref a4])), (a3, .inl (y 0, 10, .inl (fun _ => (-1)))), (a4, .inl (y 0, 10, .inl (fun _ => 0))), (a5, .inr (6, [.int 0, .int 0, .int 0, .ref a6, .ref z5, .ref z6])), (a6, .inl (y 0, 10, .inl (fun _ => 0)))] s.heap := hP
  have hD : va_D A [(a0, .inr (5, [.ref a1, .ref z0, .ref z1])), (a1, .inr (4, [.int 0, .ref z2, .ref z3, .ref z4])), (a2, .inr (7, [.ref a3, .ref a4])), (a3, .inl (y 0, 10, .inl (fun _ => (-1)))), (a4, .inl (y 0, 10, .inl (fun _ => 0))), (a5, .inr (6, [.int 0, .int 0, .int 0, .ref a6, .ref z5, .ref z6])), (a6, .inl (y 0, 10, .inl (fun _ => 0)))] := by rw [← hAe]; exact hD.self
  have hl : lv_has ls 7 [(0, .ref a5), (1, .ref a0), (2, .ref a2), (3, .int 112), (4, .int 0)] := hl
  refine lv_aload_n hx hb dX4_makeAll_0 rfl (lv_at hl 2 rfl) ?_
  refine cV (l := l) (yM := yX5_clear) (C := RX5) (As := []) (rest := []) (wr := [(a0, .inr (5, [.ref a1, .ref z0, .ref z1])), (a1, .inr (4, [.int 0, .ref z2, .ref z3, .ref z4])), (a5, .inr (6, [.int 0, .int 0, .int 0, .ref a6, .ref z5, .ref z6])), (a6, .inl (y 0, 10, .inl (fun _ => 0)))]) hF (c16_X5_clear l a2 a3 a4) gv_RX4_71 0 (by decide +kernel) rfl ⟨(Nat.le_of_ble_eq_true rfl), (Nat.le_of_ble_eq_true rfl)⟩ hl.1 rfl (Nat.le_of_ble_eq_true rfl) dX4_makeAll_1 ⟨(Nat.le_of_ble_eq_true rfl), (Nat.le_of_ble_eq_true rfl)⟩ hP hD hS (va_free (wc := [(a2, .inr (7, [.ref a3, .ref a4])), (a3, .inl (y 0, 10, .inl (fun _ => (-1)))), (a4, .inl (y 0, 10, .inl (fun _ => 0)))]) hD hS hA [2, 3, 4] rfl) (fun _ h => h) [2, 3, 4] [2, 3, 4] [0, 1, 5, 6] rfl rfl rfl rfl rfl (by decide) 2 (ci := 7) rfl rfl rfl (fun u_1 H locs hP hD hS => ?_)
  have hP : va_P D vwCl [(a0, .inr (5, [.ref a1, .ref z0, .ref z1])), (a1, .inr (4, [.int 0, .ref z2, .ref z3, .ref z4])), (a5, .inr (6, [.int 0, .int 0, .int 0, .ref a6, .ref z5, .ref z6])), (a6, .inl (y 0, 10, .inl (fun _ => 0))), (a2, .inr (7, [.ref a3, .ref a4])), (a3, .inl (y 0, 10, .inl (fun _ => (-1)))), (a4, .inl (y 0, 10, .inl (fun _ => 0)))] H := hP
  have hD : va_D A [(a0, .inr (5, [.ref a1, .ref z0, .ref z1])), (a1, .inr (4, [.int 0, .ref z2, .ref z3, .ref z4])), (a5, .inr (6, [.int 0, .int 0, .int 0, .ref a6, .ref z5, .ref z6])), (a6, .inl (y 0, 10, .inl (fun _ => 0))), (a2, .inr (7, [.ref a3, .ref a4])), (a3, .inl (y 0, 10, .inl (fun _ => (-1)))), (a4, .inl (y 0, 10, .inl (fun _ => 0)))] := hD
  refine W.widen (k := 0) (n := 0) (Nat.le_of_ble_eq_true rfl) (Nat.le_of_ble_eq_true rfl) ?_
  refine W.eq (g2 := F0 m 4 ls []) rfl ?_
  refine lv_aload_n hx hb dX4_makeAll_4 rfl (lv_at hl 0 rfl) ?_
  refine lv_iload_n hx hb dX4_makeAll_5 rfl (lv_at hl 3 rfl) ?_
  refine cV (l := l) (yM := yX4_start) (C := RX4) (As := [.int 112]) (rest := []) (wr := [(a0, .inr (5, [.ref a1, .ref z0, .ref z1])), (a1, .inr (4, [.int 0, .ref z2, .ref z3, .ref z4])), (a2, .inr (7, [.ref a3, .ref a4])), (a3, .inl (y 0, 10, .inl (fun _ => (-1)))), (a4, .inl (y 0, 10, .inl (fun _ => 0)))]) hF (c190_X4_start l a5 a6 z5 z6) gv_RX4_74 1 (by decide +kernel) rfl ⟨(Nat.le_of_ble_eq_true rfl), (Nat.le_of_ble_eq_true rfl)⟩ hl.1 rfl (Nat.le_of_ble_eq_true rfl) dX4_makeAll_6 ⟨(Nat.le_of_ble_eq_true rfl), (Nat.le_of_ble_eq_true rfl)⟩ hP hD hS (va_free (wc := [(a5, .inr (6, [.int 0, .int 0, .int 0, .ref a6, .ref z5, .ref z6])), (a6, .inl (y 0, 10, .inl (fun _ => 0)))]) hD hS hA [2, 3] rfl) (fun _ h => h) [2, 3] [2, 3] [0, 1, 4, 5, 6] rfl rfl rfl rfl rfl (by decide) 2 (ci := 6) rfl rfl rfl (fun u_2 H locs hP hD hS => ?_)
  have hP : va_P D vwCl [(a0, .inr (5, [.ref a1, .ref z0, .ref z1])), (a1, .inr (4, [.int 0, .ref z2, .ref z3, .ref z4])), (a2, .inr (7, [.ref a3, .ref a4])), (a3, .inl (y 0, 10, .inl (fun _ => (-1)))), (a4, .inl (y 0, 10, .inl (fun _ => 0))), (a5, .inr (6, [.int 1, .int 0, .int 0, .ref a6, .ref z5, .ref z6])), (a6, .inl (y 0, 10, .inl (fun _ => 0)))] H := hP
  have hD : va_D A [(a0, .inr (5, [.ref a1, .ref z0, .ref z1])), (a1, .inr (4, [.int 0, .ref z2, .ref z3, .ref z4])), (a2, .inr (7, [.ref a3, .ref a4])), (a3, .inl (y 0, 10, .inl (fun _ => (-1)))), (a4, .inl (y 0, 10, .inl (fun _ => 0))), (a5, .inr (6, [.int 1, .int 0, .int 0, .ref a6, .ref z5, .ref z6])), (a6, .inl (y 0, 10, .inl (fun _ => 0)))] := hD
  refine W.widen (k := 0) (n := 0) (Nat.le_of_ble_eq_true rfl) (Nat.le_of_ble_eq_true rfl) ?_
  refine W.eq (g2 := F0 m 9 ls []) rfl ?_
  refine lv_iconst (v := 0) hx hb dX4_makeAll_9 (by decide) ?_
  refine lv_istore (lv' := [(5, .int 0), (0, .ref a5), (1, .ref a0), (2, .ref a2), (3, .int 112), (4, .int 0)]) hx hb dX4_makeAll_10 hl (by decide) rfl (fun ls hl => ?_)
  refine lv_iload hx hb dX4_makeAll_12 (lv_at hl 0 rfl) ?_
  refine lv_bipush (v := 100) hx hb dX4_makeAll_14 (by decide) ?_
  refine lv_icmp_ge (tgt := 51) hx hb dX4_makeAll_16 (by decide) (fun c => absurd c (by decide)) (fun _ => ?_)
  refine lv_aload_n hx hb dX4_makeAll_19 rfl (lv_at hl 1 rfl) ?_
  refine lv_aload_n hx hb dX4_makeAll_20 rfl (lv_at hl 2 rfl) ?_
  refine lv_aload_n hx hb dX4_makeAll_21 rfl (lv_at hl 3 rfl) ?_
  refine lv_iload hx hb dX4_makeAll_22 (lv_at hl 5 rfl) ?_
  refine cV (l := l) (yM := yX4_chooseAble) (C := RX4) (As := [.ref a0, .ref a2, .int 0]) (rest := []) (wr := [(a0, .inr (5, [.ref a1, .ref z0, .ref z1])), (a1, .inr (4, [.int 0, .ref z2, .ref z3, .ref z4])), (a2, .inr (7, [.ref a3, .ref a4])), (a3, .inl (y 0, 10, .inl (fun _ => (-1)))), (a4, .inl (y 0, 10, .inl (fun _ => 0))), (a5, .inr (6, [.int 1, .int 0, .int 0, .ref a6, .ref z5, .ref z6])), (a6, .inl (y 0, 10, .inl (fun _ => 0)))]) hF (c227_X4_chooseAble l a0 a1 a5 a6 z0 z1 z2 z3 z4 z5 z6 a2) gv_RX4_78 3 (by decide +kernel) rfl ⟨(Nat.le_of_ble_eq_true rfl), (Nat.le_of_ble_eq_true rfl)⟩ hl.1 rfl (Nat.le_of_ble_eq_true rfl) dX4_makeAll_24 ⟨(Nat.le_of_ble_eq_true rfl), (Nat.le_of_ble_eq_true rfl)⟩ hP hD hS (pA hA hS) (fun _ h => h) [0, 1, 5, 6] [] [0, 1, 2, 3, 4, 5, 6] rfl rfl rfl rfl rfl (by decide) 5 (ci := 6) rfl rfl rfl (fun u_3 H locs hP hD hS => ?_)
  have hP : va_P D vwCl [(a0, .inr (5, [.ref a1, .ref z0, .ref z1])), (a1, .inr (4, [.int 0, .ref z2, .ref z3, .ref z4])), (a2, .inr (7, [.ref a3, .ref a4])), (a3, .inl (y 0, 10, .inl (fun _ => (-1)))), (a4, .inl (y 0, 10, .inl (fun _ => 0))), (a5, .inr (6, [.int 1, .int 0, .int 0, .ref a6, .ref z5, .ref z6])), (a6, .inl (y 0, 10, .inl (fun _ => 0)))] H := hP
  have hD : va_D A [(a0, .inr (5, [.ref a1, .ref z0, .ref z1])), (a1, .inr (4, [.int 0, .ref z2, .ref z3, .ref z4])), (a2, .inr (7, [.ref a3, .ref a4])), (a3, .inl (y 0, 10, .inl (fun _ => (-1)))), (a4, .inl (y 0, 10, .inl (fun _ => 0))), (a5, .inr (6, [.int 1, .int 0, .int 0, .ref a6, .ref z5, .ref z6])), (a6, .inl (y 0, 10, .inl (fun _ => 0)))] := hD
  refine W.widen (k := 0) (n := 0) (Nat.le_of_ble_eq_true rfl) (Nat.le_of_ble_eq_true rfl) ?_
  refine W.eq (g2 := F0 m 27 ls [.int (-1)]) rfl ?_
  refine lv_istore (lv' := [(6, .int (-1)), (5, .int 0), (0, .ref a5), (1, .ref a0), (2, .ref a2), (3, .int 112), (4, .int 0)]) hx hb dX4_makeAll_27 hl (by decide) rfl (fun ls hl => ?_)
  refine lv_iload hx hb dX4_makeAll_29 (lv_at hl 0 rfl) ?_
  refine lv_iconst (v := (-1)) hx hb dX4_makeAll_31 (by decide) ?_
  refine lv_icmp_ne (tgt := 36) hx hb dX4_makeAll_32 (by decide) (fun c => absurd (by decide) c) (fun _ => ?_)
  exact e_v hF hr (Nat.le_of_ble_eq_true rfl) (Nat.le_of_ble_eq_true rfl) hS (qg_end hS (fun _ => 0) rfl [0, 1, 2, 3, 4, 5, 6] hP rfl (hD.sub [0, 1, 2, 3, 4, 5, 6] rfl rfl)) dX4_makeAll_35

set_option maxHeartbeats 4000000 in
set_option maxRecDepth 100000 in
theorem c227_X10_run (l : Launch) (a0 : Nat) (a1 : Nat) (a2 : Nat) (a3 : Nat) (a4 : Nat) (a5 : Nat) (a6 : Nat) (a7 : Nat) (z0 : Nat) (z1 : Nat) (z2 : Nat) (z3 : Nat) (z4 : Nat) (z5 : Nat) (z6 : Nat) (z7 : Nat) (z8 : Nat) (z9 : Nat) (z10 : Nat) (z11 : Nat) (z12 : Nat) (z13 : Nat) (z14 : Nat) (z15 : Nat) (z16 : Nat) (z17 : Nat) (z18 : Nat) : CT l (.code yX10_run cX10_run 2 (some .int)) yX10_run { frames := 4, cells := 0, slots := 0, locals := 95 } [.ref a0, .int 112] (fun y => [(a0, .inr (12, [.ref a1, .ref z0, .ref z1, .ref z2, .ref a3, .ref a6, .ref z3, .ref z4, .ref z5, .ref z6, .ref z7, .ref z8, .ref z9, .ref z10, .ref z11])), (a1, .inr (5, [.ref a2, .ref z12, .ref z13])), (a2, .inr (4, [.int 0, .ref z14, .ref z15, .ref z16])), (a3, .inr (7, [.ref a4, .ref a5])), (a4, .inl (y 0, 10, .inl (fun _ => (-1)))), (a5, .inl (y 0, 10, .inl (fun _ => 0))), (a6, .inr (6, [.int 0, .int 0, .int 0, .ref a7, .ref z17, .ref z18])), (a7, .inl (y 0, 10, .inl (fun _ => 0)))]) (fun y => [(a0, .inr (12, [.ref a1, .ref z0, .ref z1, .ref z2, .ref a3, .ref a6, .ref z3, .ref z4, .ref z5, .ref z6, .ref z7, .ref z8, .ref z9, .ref z10, .ref z11])), (a1, .inr (5, [.ref a2, .ref z12, .ref z13])), (a2, .inr (4, [.int 0, .ref z14, .ref z15, .ref z16])), (a3, .inr (7, [.ref a4, .ref a5])), (a4, .inl (y 0, 10, .inl (fun _ => (-1)))), (a5, .inl (y 0, 10, .inl (fun _ => 0))), (a6, .inr (6, [.int 0, .int 0, .int 0, .ref a7, .ref z17, .ref z18])), (a7, .inl (y 0, 10, .inl (fun _ => 0)))]) (fun u => some (.int 0)) (fun y u => [(a0, .inr (12, [.ref a1, .ref z0, .ref z1, .ref z2, .ref a3, .ref a6, .ref z3, .ref z4, .ref z5, .ref z6, .ref z7, .ref z8, .ref z9, .ref z10, .ref z11])), (a1, .inr (5, [.ref a2, .ref z12, .ref z13])), (a2, .inr (4, [.int 0, .ref z14, .ref z15, .ref z16])), (a3, .inr (7, [.ref a4, .ref a5])), (a4, .inl (y 0, 10, .inl (fun _ => (-1)))), (a5, .inl (y 0, 10, .inl (fun _ => 0))), (a6, .inr (6, [.int 1, .int 0, .int 0, .ref a7, .ref z17, .ref z18])), (a7, .inl (y 0, 10, .inl (fun _ => 0)))]) := by
  refine mkM (by decide) (Nat.le_of_ble_eq_true rfl) ?_
  intro p e s m args below meth c D y A ls hF hr hAe hP hD hS hl
  have hF : FX p e s m args meth c cX10_run 2 RX10 "run" D y A := hF
  obtain ⟨⟨hx, hb, hml, hown, hts⟩, hev, heh, hA, hlk, hnm⟩ := id hF
  have hK := hev.1
  have hP : va_P D vwCl [(a0, .inr (12, [.ref a1, .ref z0, .ref z1, .ref z2, .ref a3, .ref a6, .ref z3, .ref z4, .ref z5, .ref z6, .ref z7, .ref z8, .ref z9, .ref z10, .ref z11])), (a1, .inr (5, [.ref a2, .ref z12, .ref z13])), (a2, .inr (4, [.int 0, .ref z14, .ref z15, .ref z16])), (a3, .inr (7, [.ref a4, .ref a5])), (a4, .inl (y 0, 10, .inl (fun _ => (-1)))), (a5, .inl (y 0, 10, .inl (fun _ => 0))), (a6, .inr (6, [.int 0, .int 0, .int 0, .ref a7, .ref z17, .ref z18])), (a7, .inl (y 0, 10, .inl (fun _ => 0)))] s.heap := hP
  have hD : va_D A [(a0, .inr (12, [.ref a1, .ref z0, .ref z1, .ref z2, .ref a3, .ref a6, .ref z3, .ref z4, .ref z5, .ref z6, .ref z7, .ref z8, .ref z9, .ref z10, .ref z11])), (a1, .inr (5, [.ref a2, .ref z12, .ref z13])), (a2, .inr (4, [.int 0, .ref z14, .ref z15, .ref z16])), (a3, .inr (7, [.ref a4, .ref a5])), (a4, .inl (y 0, 10, .inl (fun _ => (-1)))), (a5, .inl (y 0, 10, .inl (fun _ => 0))), (a6, .inr (6, [.int 0, .int 0, .int 0, .ref a7, .ref z17, .ref z18])), (a7, .inl (y 0, 10, .inl (fun _ => 0)))] := by rw [← hAe]; exact hD.self
  have hl : lv_has ls 2 [(0, .ref a0), (1, .int 112)] := hl
  refine lv_aload_n hx hb dX10_run_0 rfl (lv_at hl 0 rfl) ?_
  refine lv_iload_n hx hb dX10_run_1 rfl (lv_at hl 1 rfl) ?_
  refine cV (l := l) (yM := yX10_needOfferSide) (C := RX10) (As := [.int 112]) (rest := []) (wr := [(a0, .inr (12, [.ref a1, .ref z0, .ref z1, .ref z2, .ref a3, .ref a6, .ref z3, .ref z4, .ref z5, .ref z6, .ref z7, .ref z8, .ref z9, .ref z10, .ref z11])), (a1, .inr (5, [.ref a2, .ref z12, .ref z13])), (a2, .inr (4, [.int 0, .ref z14, .ref z15, .ref z16])), (a3, .inr (7, [.ref a4, .ref a5])), (a4, .inl (y 0, 10, .inl (fun _ => (-1)))), (a5, .inl (y 0, 10, .inl (fun _ => 0))), (a6, .inr (6, [.int 0, .int 0, .int 0, .ref a7, .ref z17, .ref z18])), (a7, .inl (y 0, 10, .inl (fun _ => 0)))]) hF (c189_X10_needOfferSide l a0) gv_RX10_198 1 (by decide +kernel) rfl ⟨(Nat.le_of_ble_eq_true rfl), (Nat.le_of_ble_eq_true rfl)⟩ hl.1 rfl (Nat.le_of_ble_eq_true rfl) dX10_run_2 ⟨(Nat.le_of_ble_eq_true rfl), (Nat.le_of_ble_eq_true rfl)⟩ hP hD hS (pA hA hS) (fun _ h => h) [] [] [0, 1, 2, 3, 4, 5, 6, 7] rfl rfl rfl rfl rfl (by decide) 0 (ci := 12) rfl rfl rfl (fun u_1 H locs hP hD hS => ?_)
  have hP : va_P D vwCl [(a0, .inr (12, [.ref a1, .ref z0, .ref z1, .ref z2, .ref a3, .ref a6, .ref z3, .ref z4, .ref z5, .ref z6, .ref z7, .ref z8, .ref z9, .ref z10, .ref z11])), (a1, .inr (5, [.ref a2, .ref z12, .ref z13])), (a2, .inr (4, [.int 0, .ref z14, .ref z15, .ref z16])), (a3, .inr (7, [.ref a4, .ref a5])), (a4, .inl (y 0, 10, .inl (fun _ => (-1)))), (a5, .inl (y 0, 10, .inl (fun _ => 0))), (a6, .inr (6, [.int 0, .int 0, .int 0, .ref a7, .ref z17, .ref z18])), (a7, .inl (y 0, 10, .inl (fun _ => 0)))] H := hP
  have hD : va_D A [(a0, .inr (12, [.ref a1, .ref z0, .ref z1, .ref z2, .ref a3, .ref a6, .ref z3, .ref z4, .ref z5, .ref z6, .ref z7, .ref z8, .ref z9, .ref z10, .ref z11])), (a1, .inr (5, [.ref a2, .ref z12, .ref z13])), (a2, .inr (4, [.int 0, .ref z14, .ref z15, .ref z16])), (a3, .inr (7, [.ref a4, .ref a5])), (a4, .inl (y 0, 10, .inl (fun _ => (-1)))), (a5, .inl (y 0, 10, .inl (fun _ => 0))), (a6, .inr (6, [.int 0, .int 0, .int 0, .ref a7, .ref z17, .ref z18])), (a7, .inl (y 0, 10, .inl (fun _ => 0)))] := hD
  refine W.widen (k := 0) (n := 0) (Nat.le_of_ble_eq_true rfl) (Nat.le_of_ble_eq_true rfl) ?_
  refine W.eq (g2 := F0 m 5 ls []) rfl ?_
  refine lv_aload_n hx hb dX10_run_5 rfl (lv_at hl 0 rfl) ?_
  refine va_get (D := D) (ci := 12) (v := .ref a6) (C := RX10) (T := TX10) (N := 15) hx hb hts inX10 hown hK hP 0 rfl rfl 5 (by decide) (hts _ wd_57) (fun _ h9 => h9) rfl dX10_run_6 ?_
  refine lv_aload_n hx hb dX10_run_9 rfl (lv_at hl 0 rfl) ?_
  refine va_get (D := D) (ci := 12) (v := .ref a1) (C := RX10) (T := TX10) (N := 15) hx hb hts inX10 hown hK hP 0 rfl rfl 0 (by decide) (hts _ wd_24) (fun _ h9 => h9) rfl dX10_run_10 ?_
  refine lv_aload_n hx hb dX10_run_13 rfl (lv_at hl 0 rfl) ?_
  refine va_get (D := D) (ci := 12) (v := .ref a3) (C := RX10) (T := TX10) (N := 15) hx hb hts inX10 hown hK hP 0 rfl rfl 4 (by decide) (hts _ wd_47) (fun _ h9 => h9) rfl dX10_run_14 ?_
  refine lv_iload_n hx hb dX10_run_17 rfl (lv_at hl 1 rfl) ?_
  refine lv_iconst (v := 0) hx hb dX10_run_18 (by decide) ?_
  refine cV (l := l) (yM := yX4_makeAll) (C := RX4) (As := [.ref a1, .ref a3, .int 112, .int 0]) (rest := []) (wr := [(a0, .inr (12, [.ref a1, .ref z0, .ref z1, .ref z2, .ref a3, .ref a6, .ref z3, .ref z4, .ref z5, .ref z6, .ref z7, .ref z8, .ref z9, .ref z10, .ref z11]))]) hF (c227_X4_makeAll l a1 a2 a3 a4 a5 a6 a7 z12 z13 z14 z15 z16 z17 z18) gv_RX10_238 4 (by decide +kernel) rfl ⟨(Nat.le_of_ble_eq_true rfl), (Nat.le_of_ble_eq_true rfl)⟩ hl.1 rfl (Nat.le_of_ble_eq_true rfl) dX10_run_19 ⟨(Nat.le_of_ble_eq_true rfl), (Nat.le_of_ble_eq_true rfl)⟩ hP hD hS (va_free (wc := [(a1, .inr (5, [.ref a2, .ref z12, .ref z13])), (a2, .inr (4, [.int 0, .ref z14, .ref z15, .ref z16])), (a3, .inr (7, [.ref a4, .ref a5])), (a4, .inl (y 0, 10, .inl (fun _ => (-1)))), (a5, .inl (y 0, 10, .inl (fun _ => 0))), (a6, .inr (6, [.int 0, .int 0, .int 0, .ref a7, .ref z17, .ref z18])), (a7, .inl (y 0, 10, .inl (fun _ => 0)))]) hD hS hA [1, 2, 3, 4, 5, 6, 7] rfl) (fun _ h => h) [1, 2, 3, 4, 5, 6, 7] [1, 2, 3, 4, 5, 6, 7] [0] rfl rfl rfl rfl rfl (by decide) 6 (ci := 6) rfl rfl rfl (fun u_2 H locs hP hD hS => ?_)
  have hP : va_P D vwCl [(a0, .inr (12, [.ref a1, .ref z0, .ref z1, .ref z2, .ref a3, .ref a6, .ref z3, .ref z4, .ref z5, .ref z6, .ref z7, .ref z8, .ref z9, .ref z10, .ref z11])), (a1, .inr (5, [.ref a2, .ref z12, .ref z13])), (a2, .inr (4, [.int 0, .ref z14, .ref z15, .ref z16])), (a3, .inr (7, [.ref a4, .ref a5])), (a4, .inl (y 0, 10, .inl (fun _ => (-1)))), (a5, .inl (y 0, 10, .inl (fun _ => 0))), (a6, .inr (6, [.int 1, .int 0, .int 0, .ref a7, .ref z17, .ref z18])), (a7, .inl (y 0, 10, .inl (fun _ => 0)))] H := hP
  have hD : va_D A [(a0, .inr (12, [.ref a1, .ref z0, .ref z1, .ref z2, .ref a3, .ref a6, .ref z3, .ref z4, .ref z5, .ref z6, .ref z7, .ref z8, .ref z9, .ref z10, .ref z11])), (a1, .inr (5, [.ref a2, .ref z12, .ref z13])), (a2, .inr (4, [.int 0, .ref z14, .ref z15, .ref z16])), (a3, .inr (7, [.ref a4, .ref a5])), (a4, .inl (y 0, 10, .inl (fun _ => (-1)))), (a5, .inl (y 0, 10, .inl (fun _ => 0))), (a6, .inr (6, [.int 1, .int 0, .int 0, .ref a7, .ref z17, .ref z18])), (a7, .inl (y 0, 10, .inl (fun _ => 0)))] := hD
  refine W.widen (k := 0) (n := 0) (Nat.le_of_ble_eq_true rfl) (Nat.le_of_ble_eq_true rfl) ?_
  refine W.eq (g2 := F0 m 22 ls []) rfl ?_
  refine lv_aload_n hx hb dX10_run_22 rfl (lv_at hl 0 rfl) ?_
  refine va_get (D := D) (ci := 12) (v := .ref a6) (C := RX10) (T := TX10) (N := 15) hx hb hts inX10 hown hK hP 0 rfl rfl 5 (by decide) (hts _ wd_57) (fun _ h9 => h9) rfl dX10_run_23 ?_
  refine va_getN (D := D) (ci := 6) (v := .int 0) (C := RX4) (T := TX4) (N := 6) hx hb hts inX4 hown hK hP 6 rfl rfl 2 (by decide) (va_Nw.use (A := args) rfl (hev.2.1 (RX10, 242, RX4, "made", "I") (List.mem_of_getElem? (i := 17) rfl))) (fun _ h9 => h9) rfl dX10_run_26 ?_
  exact e_i hF hr (Nat.le_of_ble_eq_true rfl) (Nat.le_of_ble_eq_true rfl) hS (qg_end hS (fun _ => 0) rfl [0, 1, 2, 3, 4, 5, 6, 7] hP rfl (hD.sub [0, 1, 2, 3, 4, 5, 6, 7] rfl rfl)) dX10_run_29

set_option maxHeartbeats 4000000 in
set_option maxRecDepth 100000 in
theorem c227_L_run (l : Launch) (a0 : Nat) (a1 : Nat) (a2 : Nat) (a3 : Nat) (a4 : Nat) (a5 : Nat) (a6 : Nat) (a7 : Nat) (a8 : Nat) (z0 : Nat) (z1 : Nat) (z2 : Nat) (z3 : Nat) (z4 : Nat) (z5 : Nat) (z6 : Nat) (z7 : Nat) (z8 : Nat) (z9 : Nat) (z10 : Nat) (z11 : Nat) (z12 : Nat) (z13 : Nat) (z14 : Nat) (z15 : Nat) (z16 : Nat) (z17 : Nat) (z18 : Nat) : CT l (.codeWith yL_run cL_run 4 (some .int) [(0, 9, 12, 13)]) yL_run { frames := 5, cells := 0, slots := 0, locals := 116 } [.ref a0, .int 112, .ref a8] (fun y => [(a0, .inr (12, [.ref a1, .ref z0, .ref z1, .ref z2, .ref a3, .ref a6, .ref z3, .ref z4, .ref z5, .ref z6, .ref z7, .ref z8, .ref z9, .ref z10, .ref z11])), (a1, .inr (5, [.ref a2, .ref z12, .ref z13])), (a2, .inr (4, [.int 0, .ref z14, .ref z15, .ref z16])), (a3, .inr (7, [.ref a4, .ref a5])), (a4, .inl (y 0, 10, .inl (fun _ => (-1)))), (a5, .inl (y 0, 10, .inl (fun _ => 0))), (a6, .inr (6, [.int 0, .int 0, .int 0, .ref a7, .ref z17, .ref z18])), (a7, .inl (y 0, 10, .inl (fun _ => 0))), (a8, .inl (y 2, 1, .inr (.inl (fun _ => 0))))]) (fun y => [(a0, .inr (12, [.ref a1, .ref z0, .ref z1, .ref z2, .ref a3, .ref a6, .ref z3, .ref z4, .ref z5, .ref z6, .ref z7, .ref z8, .ref z9, .ref z10, .ref z11])), (a1, .inr (5, [.ref a2, .ref z12, .ref z13])), (a2, .inr (4, [.int 0, .ref z14, .ref z15, .ref z16])), (a3, .inr (7, [.ref a4, .ref a5])), (a4, .inl (y 0, 10, .inl (fun _ => (-1)))), (a5, .inl (y 0, 10, .inl (fun _ => 0))), (a6, .inr (6, [.int 0, .int 0, .int 0, .ref a7, .ref z17, .ref z18])), (a7, .inl (y 0, 10, .inl (fun _ => 0))), (a8, .inl (y 2, 1, .inr (.inl (fun _ => 0))))]) (fun u => some (.int 0)) (fun y u => [(a0, .inr (12, [.ref a1, .ref z0, .ref z1, .ref z2, .ref a3, .ref a6, .ref z3, .ref z4, .ref z5, .ref z6, .ref z7, .ref z8, .ref z9, .ref z10, .ref z11])), (a1, .inr (5, [.ref a2, .ref z12, .ref z13])), (a2, .inr (4, [.int 0, .ref z14, .ref z15, .ref z16])), (a3, .inr (7, [.ref a4, .ref a5])), (a4, .inl (y 0, 10, .inl (fun _ => (-1)))), (a5, .inl (y 0, 10, .inl (fun _ => 0))), (a6, .inr (6, [.int 1, .int 0, .int 0, .ref a7, .ref z17, .ref z18])), (a7, .inl (y 0, 10, .inl (fun _ => 0))), (a8, .inl (y 2, 1, .inr (.inl (fun _ => 0))))]) := by
  refine mkH (by decide) (Nat.le_of_ble_eq_true rfl) ?_
  intro p e s m args below meth c D y A ls hF htab hr hAe hP hD hS hl
  have hF : FX p e s m args meth c cL_run 4 RL "run" D y A := hF
  obtain ⟨⟨hx, hb, hml, hown, hts⟩, hev, heh, hA, hlk, hnm⟩ := id hF
  have hK := hev.1
  have hP : va_P D vwCl [(a0, .inr (12, [.ref a1, .ref z0, .ref z1, .ref z2, .ref a3, .ref a6, .ref z3, .ref z4, .ref z5, .ref z6, .ref z7, .ref z8, .ref z9, .ref z10, .ref z11])), (a1, .inr (5, [.ref a2, .ref z12, .ref z13])), (a2, .inr (4, [.int 0, .ref z14, .ref z15, .ref z16])), (a3, .inr (7, [.ref a4, .ref a5])), (a4, .inl (y 0, 10, .inl (fun _ => (-1)))), (a5, .inl (y 0, 10, .inl (fun _ => 0))), (a6, .inr (6, [.int 0, .int 0, .int 0, .ref a7, .ref z17, .ref z18])), (a7, .inl (y 0, 10, .inl (fun _ => 0))), (a8, .inl (y 2, 1, .inr (.inl (fun _ => 0))))] s.heap := hP
  have hD : va_D A [(a0, .inr (12, [.ref a1, .ref z0, .ref z1, .ref z2, .ref a3, .ref a6, .ref z3, .ref z4, .ref z5, .ref z6, .ref z7, .ref z8, .ref z9, .ref z10, .ref z11])), (a1, .inr (5, [.ref a2, .ref z12, .ref z13])), (a2, .inr (4, [.int 0, .ref z14, .ref z15, .ref z16])), (a3, .inr (7, [.ref a4, .ref a5])), (a4, .inl (y 0, 10, .inl (fun _ => (-1)))), (a5, .inl (y 0, 10, .inl (fun _ => 0))), (a6, .inr (6, [.int 0, .int 0, .int 0, .ref a7, .ref z17, .ref z18])), (a7, .inl (y 0, 10, .inl (fun _ => 0))), (a8, .inl (y 2, 1, .inr (.inl (fun _ => 0))))] := by rw [← hAe]; exact hD.self
  have hl : lv_has ls 4 [(0, .ref a0), (1, .int 112), (2, .ref a8)] := hl
  refine lv_aload_n hx hb dL_run_0 rfl (lv_at hl 2 rfl) ?_
  refine lv_iconst (v := 0) hx hb dL_run_1 (by decide) ?_
  refine lv_aload_n hx hb dL_run_2 rfl (lv_at hl 0 rfl) ?_
  refine lv_iload_n hx hb dL_run_3 rfl (lv_at hl 1 rfl) ?_
  refine cV (l := l) (yM := yX10_run) (C := RX10) (As := [.int 112]) (rest := [.int 0, .ref a8]) (wr := [(a8, .inl (y 2, 1, .inr (.inl (fun _ => 0))))]) hF (c227_X10_run l a0 a1 a2 a3 a4 a5 a6 a7 z0 z1 z2 z3 z4 z5 z6 z7 z8 z9 z10 z11 z12 z13 z14 z15 z16 z17 z18) gv_RL_67 1 (by decide +kernel) rfl ⟨(Nat.le_of_ble_eq_true rfl), (Nat.le_of_ble_eq_true rfl)⟩ hl.1 rfl (Nat.le_of_ble_eq_true rfl) dL_run_4 ⟨(Nat.le_of_ble_eq_true rfl), (Nat.le_of_ble_eq_true rfl)⟩ hP hD hS (va_free (wc := [(a0, .inr (12, [.ref a1, .ref z0, .ref z1, .ref z2, .ref a3, .ref a6, .ref z3, .ref z4, .ref z5, .ref z6, .ref z7, .ref z8, .ref z9, .ref z10, .ref z11])), (a1, .inr (5, [.ref a2, .ref z12, .ref z13])), (a2, .inr (4, [.int 0, .ref z14, .ref z15, .ref z16])), (a3, .inr (7, [.ref a4, .ref a5])), (a4, .inl (y 0, 10, .inl (fun _ => (-1)))), (a5, .inl (y 0, 10, .inl (fun _ => 0))), (a6, .inr (6, [.int 0, .int 0, .int 0, .ref a7, .ref z17, .ref z18])), (a7, .inl (y 0, 10, .inl (fun _ => 0)))]) hD hS hA [0, 1, 2, 3, 4, 5, 6, 7] rfl) (fun _ h => h) [0, 1, 2, 3, 4, 5, 6, 7] [0, 1, 2, 3, 4, 5, 6, 7] [8] rfl rfl rfl rfl rfl (by decide) 0 (ci := 12) rfl rfl rfl (fun u_1 H locs hP hD hS => ?_)
  have hP : va_P D vwCl [(a8, .inl (y 2, 1, .inr (.inl (fun _ => 0)))), (a0, .inr (12, [.ref a1, .ref z0, .ref z1, .ref z2, .ref a3, .ref a6, .ref z3, .ref z4, .ref z5, .ref z6, .ref z7, .ref z8, .ref z9, .ref z10, .ref z11])), (a1, .inr (5, [.ref a2, .ref z12, .ref z13])), (a2, .inr (4, [.int 0, .ref z14, .ref z15, .ref z16])), (a3, .inr (7, [.ref a4, .ref a5])), (a4, .inl (y 0, 10, .inl (fun _ => (-1)))), (a5, .inl (y 0, 10, .inl (fun _ => 0))), (a6, .inr (6, [.int 1, .int 0, .int 0, .ref a7, .ref z17, .ref z18])), (a7, .inl (y 0, 10, .inl (fun _ => 0)))] H := hP
  have hD : va_D A [(a8, .inl (y 2, 1, .inr (.inl (fun _ => 0)))), (a0, .inr (12, [.ref a1, .ref z0, .ref z1, .ref z2, .ref a3, .ref a6, .ref z3, .ref z4, .ref z5, .ref z6, .ref z7, .ref z8, .ref z9, .ref z10, .ref z11])), (a1, .inr (5, [.ref a2, .ref z12, .ref z13])), (a2, .inr (4, [.int 0, .ref z14, .ref z15, .ref z16])), (a3, .inr (7, [.ref a4, .ref a5])), (a4, .inl (y 0, 10, .inl (fun _ => (-1)))), (a5, .inl (y 0, 10, .inl (fun _ => 0))), (a6, .inr (6, [.int 1, .int 0, .int 0, .ref a7, .ref z17, .ref z18])), (a7, .inl (y 0, 10, .inl (fun _ => 0)))] := hD
  refine W.widen (k := 0) (n := 0) (Nat.le_of_ble_eq_true rfl) (Nat.le_of_ble_eq_true rfl) ?_
  refine W.eq (g2 := F0 m 7 ls [.int 0, .int 0, .ref a8]) rfl ?_
  refine lv_i2l (v := 0) hx hb dL_run_7 (by decide) ?_
  refine va_last hx hb hK hP hD hS 0 2 rfl rfl (vp_in_nI (n := 0) (by decide) (by decide)) dL_run_8 (fun H locs hP hD hS => ?_)
  obtain ⟨hP, hD⟩ := same_l (g := (fun _ => 0)) hP hD 0 rfl (fun j _ => up_l rfl)
  have hP : va_P D vwCl [(a8, .inl (y 2, 1, .inr (.inl (fun _ => 0)))), (a0, .inr (12, [.ref a1, .ref z0, .ref z1, .ref z2, .ref a3, .ref a6, .ref z3, .ref z4, .ref z5, .ref z6, .ref z7, .ref z8, .ref z9, .ref z10, .ref z11])), (a1, .inr (5, [.ref a2, .ref z12, .ref z13])), (a2, .inr (4, [.int 0, .ref z14, .ref z15, .ref z16])), (a3, .inr (7, [.ref a4, .ref a5])), (a4, .inl (y 0, 10, .inl (fun _ => (-1)))), (a5, .inl (y 0, 10, .inl (fun _ => 0))), (a6, .inr (6, [.int 1, .int 0, .int 0, .ref a7, .ref z17, .ref z18])), (a7, .inl (y 0, 10, .inl (fun _ => 0)))] H := hP
  have hD : va_D A [(a8, .inl (y 2, 1, .inr (.inl (fun _ => 0)))), (a0, .inr (12, [.ref a1, .ref z0, .ref z1, .ref z2, .ref a3, .ref a6, .ref z3, .ref z4, .ref z5, .ref z6, .ref z7, .ref z8, .ref z9, .ref z10, .ref z11])), (a1, .inr (5, [.ref a2, .ref z12, .ref z13])), (a2, .inr (4, [.int 0, .ref z14, .ref z15, .ref z16])), (a3, .inr (7, [.ref a4, .ref a5])), (a4, .inl (y 0, 10, .inl (fun _ => (-1)))), (a5, .inl (y 0, 10, .inl (fun _ => 0))), (a6, .inr (6, [.int 1, .int 0, .int 0, .ref a7, .ref z17, .ref z18])), (a7, .inl (y 0, 10, .inl (fun _ => 0)))] := hD
  refine lv_goto (tgt := 15) hx hb dL_run_9 (by decide) ?_
  refine lv_iconst (v := 0) hx hb dL_run_15 (by decide) ?_
  exact e_i hF hr (Nat.le_of_ble_eq_true rfl) (Nat.le_of_ble_eq_true rfl) hS (qg_end hS (fun _ => 0) rfl [1, 2, 3, 4, 5, 6, 7, 8, 0] hP rfl (hD.sub [1, 2, 3, 4, 5, 6, 7, 8, 0] rfl rfl)) dL_run_16

set_option maxHeartbeats 4000000 in
set_option maxRecDepth 100000 in
theorem c231_X11_run (l : Launch) (a0 : Nat) (a1 : Nat) (z0 : Nat) (z1 : Nat) (z2 : Nat) (z3 : Nat) (z4 : Nat) (z5 : Nat) (z6 : Nat) (z7 : Nat) (z8 : Nat) (z9 : Nat) (z10 : Nat) (z11 : Nat) (z12 : Nat) : CT l (.code yX11_run cX11_run 4 (some .int)) yX11_run { frames := 5, cells := 2, slots := 20, locals := 111 } [.ref a0, .int 112] (fun y => [(a0, .inr (13, [.ref a1, .ref z0, .ref z1, .ref z2, .ref z3, .ref z4, .int 45, .ref z5, .ref z6, .ref z7, .int 0, .ref z8, .ref z9, .int 0, .int 0, .int 0, .int 0, .ref z10, .int 0, .null, .ref z11, .ref z12])), (a1, .inl (y 0, 3, .inl (fun _ => 0)))]) (fun y => [(a0, .inr (13, [.ref a1, .ref z0, .ref z1, .ref z2, .ref z3, .ref z4, .int 45, .ref z5, .ref z6, .ref z7, .int 0, .ref z8, .ref z9, .int 0, .int 0, .int 0, .int 0, .ref z10, .int 0, .null, .ref z11, .ref z12])), (a1, .inl (y 0, 3, .inl (fun _ => 0)))]) (fun u => some (.int 0)) (fun y u => [(a0, .inr (13, [.ref a1, .ref z0, .ref z1, .ref z2, .ref z3, .ref (u 0), .int 112, .ref (u 1), .ref z6, .ref z7, .int 0, .ref z8, .ref z9, .int 0, .int 0, .int 0, .int 0, .ref z10, .int 0, .null, .ref z11, .ref z12])), (a1, .inl (y 0, 3, .inl (fun _ => 0))), ((u 0), .inl (y 0, 10, .inl (fun _ => (-1)))), ((u 1), .inl (y 0, 10, .inl (fun _ => 0)))]) := by
  refine mkM (by decide) (Nat.le_of_ble_eq_true rfl) ?_
  intro p e s m args below meth c D y A ls hF hr hAe hP hD hS hl
  have hF : FX p e s m args meth c cX11_run 4 RX11 "run" D y A := hF
  obtain ⟨⟨hx, hb, hml, hown, hts⟩, hev, heh, hA, hlk, hnm⟩ := id hF
  have hK := hev.1
  have hP : va_P D vwCl [(a0, .inr (13, [.ref a1, .ref z0, .ref z1, .ref z2, .ref z3, .ref z4, .int 45, .ref z5, .ref z6, .ref z7, .int 0, .ref z8, .ref z9, .int 0, .int 0, .int 0, .int 0, .ref z10, .int 0, .null, .ref z11, .ref z12])), (a1, .inl (y 0, 3, .inl (fun _ => 0)))] s.heap := hP
  have hD : va_D A [(a0, .inr (13, [.ref a1, .ref z0, .ref z1, .ref z2, .ref z3, .ref z4, .int 45, .ref z5, .ref z6, .ref z7, .int 0, .ref z8, .ref z9, .int 0, .int 0, .int 0, .int 0, .ref z10, .int 0, .null, .ref z11, .ref z12])), (a1, .inl (y 0, 3, .inl (fun _ => 0)))] := by rw [← hAe]; exact hD.self
  have hl : lv_has ls 4 [(0, .ref a0), (1, .int 112)] := hl
  refine lv_aload_n hx hb dX11_run_0 rfl (lv_at hl 0 rfl) ?_
  refine lv_iload_n hx hb dX11_run_1 rfl (lv_at hl 1 rfl) ?_
  refine cS (l := l) (yM := yX11_sideOf) (As := [.int 112]) (rest := [.ref a0]) (wr := [(a0, .inr (13, [.ref a1, .ref z0, .ref z1, .ref z2, .ref z3, .ref z4, .int 45, .ref z5, .ref z6, .ref z7, .int 0, .ref z8, .ref z9, .int 0, .int 0, .int 0, .int 0, .ref z10, .int 0, .null, .ref z11, .ref z12])), (a1, .inl (y 0, 3, .inl (fun _ => 0)))]) hF (c23_X11_sideOf l) gs_RX11_124 1 (by decide +kernel) rfl ⟨(Nat.le_of_ble_eq_true rfl), (Nat.le_of_ble_eq_true rfl)⟩ hl.1 rfl (Nat.le_of_ble_eq_true rfl) dX11_run_2 ⟨(Nat.le_of_ble_eq_true rfl), (Nat.le_of_ble_eq_true rfl)⟩ hP hD hS (pA hA hS) (fun _ h => h) [] [] [0, 1] rfl rfl rfl rfl rfl (by decide) (fun u_1 H locs hP hD hS => ?_)
  have hP : va_P D vwCl [(a0, .inr (13, [.ref a1, .ref z0, .ref z1, .ref z2, .ref z3, .ref z4, .int 45, .ref z5, .ref z6, .ref z7, .int 0, .ref z8, .ref z9, .int 0, .int 0, .int 0, .int 0, .ref z10, .int 0, .null, .ref z11, .ref z12])), (a1, .inl (y 0, 3, .inl (fun _ => 0)))] H := hP
  have hD : va_D A [(a0, .inr (13, [.ref a1, .ref z0, .ref z1, .ref z2, .ref z3, .ref z4, .int 45, .ref z5, .ref z6, .ref z7, .int 0, .ref z8, .ref z9, .int 0, .int 0, .int 0, .int 0, .ref z10, .int 0, .null, .ref z11, .ref z12])), (a1, .inl (y 0, 3, .inl (fun _ => 0)))] := hD
  refine W.widen (k := 0) (n := 0) (Nat.le_of_ble_eq_true rfl) (Nat.le_of_ble_eq_true rfl) ?_
  refine W.eq (g2 := F0 m 5 ls [.int 0, .ref a0]) rfl ?_
  refine lv_iconst (v := 0) hx hb dX11_run_5 (by decide) ?_
  refine lv_iconst (v := 1) hx hb dX11_run_6 (by decide) ?_
  refine cS (l := l) (yM := yX11_in) (As := [.int 0, .int 0, .int 1]) (rest := [.ref a0]) (wr := [(a0, .inr (13, [.ref a1, .ref z0, .ref z1, .ref z2, .ref z3, .ref z4, .int 45, .ref z5, .ref z6, .ref z7, .int 0, .ref z8, .ref z9, .int 0, .int 0, .int 0, .int 0, .ref z10, .int 0, .null, .ref z11, .ref z12])), (a1, .inl (y 0, 3, .inl (fun _ => 0)))]) hF (c197_X11_in l) gs_RX11_78 3 (by decide +kernel) rfl ⟨(Nat.le_of_ble_eq_true rfl), (Nat.le_of_ble_eq_true rfl)⟩ hl.1 rfl (Nat.le_of_ble_eq_true rfl) dX11_run_7 ⟨(Nat.le_of_ble_eq_true rfl), (Nat.le_of_ble_eq_true rfl)⟩ hP hD hS (pA hA hS) (fun _ h => h) [] [] [0, 1] rfl rfl rfl rfl rfl (by decide) (fun u_2 H locs hP hD hS => ?_)
  have hP : va_P D vwCl [(a0, .inr (13, [.ref a1, .ref z0, .ref z1, .ref z2, .ref z3, .ref z4, .int 45, .ref z5, .ref z6, .ref z7, .int 0, .ref z8, .ref z9, .int 0, .int 0, .int 0, .int 0, .ref z10, .int 0, .null, .ref z11, .ref z12])), (a1, .inl (y 0, 3, .inl (fun _ => 0)))] H := hP
  have hD : va_D A [(a0, .inr (13, [.ref a1, .ref z0, .ref z1, .ref z2, .ref z3, .ref z4, .int 45, .ref z5, .ref z6, .ref z7, .int 0, .ref z8, .ref z9, .int 0, .int 0, .int 0, .int 0, .ref z10, .int 0, .null, .ref z11, .ref z12])), (a1, .inl (y 0, 3, .inl (fun _ => 0)))] := hD
  refine W.widen (k := 0) (n := 0) (Nat.le_of_ble_eq_true rfl) (Nat.le_of_ble_eq_true rfl) ?_
  refine W.eq (g2 := F0 m 10 ls [.int 1, .ref a0]) rfl ?_
  refine lv_if_ne (tgt := 17) hx hb dX11_run_10 (by decide) (fun _ => ?_) (fun c => absurd c (by decide))
  refine lv_iconst (v := 0) hx hb dX11_run_17 (by decide) ?_
  refine lv_iconst (v := 0) hx hb dX11_run_18 (by decide) ?_
  refine lv_iconst (v := 0) hx hb dX11_run_19 (by decide) ?_
  refine cV (l := l) (yM := yX11_fails) (C := RX11) (As := [.int 0, .int 0, .int 0]) (rest := []) (wr := [(a1, .inl (y 0, 3, .inl (fun _ => 0)))]) hF (c32_X11_fails l a0 a1 z0 z1 z2 z3 z4 z5 z6 z7 z8 z9 z10 z11 z12) gv_RX11_128 3 (by decide +kernel) rfl ⟨(Nat.le_of_ble_eq_true rfl), (Nat.le_of_ble_eq_true rfl)⟩ hl.1 rfl (Nat.le_of_ble_eq_true rfl) dX11_run_20 ⟨(Nat.le_of_ble_eq_true rfl), (Nat.le_of_ble_eq_true rfl)⟩ hP hD hS (va_free (wc := [(a0, .inr (13, [.ref a1, .ref z0, .ref z1, .ref z2, .ref z3, .ref z4, .int 45, .ref z5, .ref z6, .ref z7, .int 0, .ref z8, .ref z9, .int 0, .int 0, .int 0, .int 0, .ref z10, .int 0, .null, .ref z11, .ref z12]))]) hD hS hA [0] rfl) (fun _ h => h) [0] [0] [1] rfl rfl rfl rfl rfl (by decide) 0 (ci := 13) rfl rfl rfl (fun u_3 H locs hP hD hS => ?_)
  have hP : va_P D vwCl [(a1, .inl (y 0, 3, .inl (fun _ => 0))), (a0, .inr (13, [.ref a1, .ref z0, .ref z1, .ref z2, .ref z3, .ref z4, .int 45, .ref z5, .ref z6, .ref z7, .int 0, .ref z8, .ref z9, .int 0, .int 0, .int 0, .int 0, .ref z10, .int 0, .null, .ref z11, .ref z12]))] H := hP
  have hD : va_D A [(a1, .inl (y 0, 3, .inl (fun _ => 0))), (a0, .inr (13, [.ref a1, .ref z0, .ref z1, .ref z2, .ref z3, .ref z4, .int 45, .ref z5, .ref z6, .ref z7, .int 0, .ref z8, .ref z9, .int 0, .int 0, .int 0, .int 0, .ref z10, .int 0, .null, .ref z11, .ref z12]))] := hD
  refine W.widen (k := 0) (n := 0) (Nat.le_of_ble_eq_true rfl) (Nat.le_of_ble_eq_true rfl) ?_
  refine W.eq (g2 := F0 m 23 ls [.int 0]) rfl ?_
  refine lv_if_eq (tgt := 28) hx hb dX11_run_23 (by decide) (fun _ => ?_) (fun c => absurd (by decide) c)
  refine lv_aload_n hx hb dX11_run_28 rfl (lv_at hl 0 rfl) ?_
  refine lv_iload_n hx hb dX11_run_29 rfl (lv_at hl 1 rfl) ?_
  refine cV (l := l) (yM := yX11_begins) (C := RX11) (As := [.int 112]) (rest := []) (wr := [(a1, .inl (y 0, 3, .inl (fun _ => 0)))]) hF (c198_X11_begins l a0 a1 z0 z1 z2 z3 z4 z5 z6 z7 z8 z9 z10 z11 z12) gv_RX11_164 1 (by decide +kernel) rfl ⟨(Nat.le_of_ble_eq_true rfl), (Nat.le_of_ble_eq_true rfl)⟩ hl.1 rfl (Nat.le_of_ble_eq_true rfl) dX11_run_30 ⟨(Nat.le_of_ble_eq_true rfl), (Nat.le_of_ble_eq_true rfl)⟩ hP hD hS (va_free (wc := [(a0, .inr (13, [.ref a1, .ref z0, .ref z1, .ref z2, .ref z3, .ref z4, .int 45, .ref z5, .ref z6, .ref z7, .int 0, .ref z8, .ref z9, .int 0, .int 0, .int 0, .int 0, .ref z10, .int 0, .null, .ref z11, .ref z12]))]) hD hS hA [1] rfl) (fun _ h => h) [1] [1] [0] rfl rfl rfl rfl rfl (by decide) 1 (ci := 13) rfl rfl rfl (fun u_4 H locs hP hD hS => ?_)
  have hP : va_P D vwCl [(a1, .inl (y 0, 3, .inl (fun _ => 0))), (a0, .inr (13, [.ref a1, .ref z0, .ref z1, .ref z2, .ref z3, .ref (u_4 0), .int 112, .ref (u_4 1), .ref z6, .ref z7, .int 0, .ref z8, .ref z9, .int 0, .int 0, .int 0, .int 0, .ref z10, .int 0, .null, .ref z11, .ref z12])), ((u_4 0), .inl (y 0, 10, .inl (fun _ => (-1)))), ((u_4 1), .inl (y 0, 10, .inl (fun _ => 0)))] H := hP
  have hD : va_D A [(a1, .inl (y 0, 3, .inl (fun _ => 0))), (a0, .inr (13, [.ref a1, .ref z0, .ref z1, .ref z2, .ref z3, .ref (u_4 0), .int 112, .ref (u_4 1), .ref z6, .ref z7, .int 0, .ref z8, .ref z9, .int 0, .int 0, .int 0, .int 0, .ref z10, .int 0, .null, .ref z11, .ref z12])), ((u_4 0), .inl (y 0, 10, .inl (fun _ => (-1)))), ((u_4 1), .inl (y 0, 10, .inl (fun _ => 0)))] := hD
  refine W.widen (k := 2) (n := 20) (Nat.le_of_ble_eq_true rfl) (Nat.le_of_ble_eq_true rfl) ?_
  refine W.eq (g2 := F0 m 33 ls []) rfl ?_
  refine lv_iconst (v := 0) hx hb dX11_run_33 (by decide) ?_
  refine lv_istore_n (lv' := [(2, .int 0), (0, .ref a0), (1, .int 112)]) hx hb dX11_run_34 rfl hl (by decide) rfl (fun ls hl => ?_)
  refine lv_iload_n hx hb dX11_run_35 rfl (lv_at hl 0 rfl) ?_
  refine lv_aload_n hx hb dX11_run_36 rfl (lv_at hl 1 rfl) ?_
  refine va_get (D := D) (ci := 13) (v := .ref a1) (C := RX11) (T := TX11) (N := 22) hx hb hts inX11 hown hK hP 1 rfl rfl 0 (by decide) (hts _ wd_115) (fun _ h9 => h9) rfl dX11_run_37 ?_
  refine lv_iload_n hx hb dX11_run_40 rfl (lv_at hl 2 rfl) ?_
  refine cS (l := l) (yM := yX11_sideOf) (As := [.int 112]) (rest := [.ref a1, .int 0]) (wr := [(a1, .inl (y 0, 3, .inl (fun _ => 0))), (a0, .inr (13, [.ref a1, .ref z0, .ref z1, .ref z2, .ref z3, .ref (u_4 0), .int 112, .ref (u_4 1), .ref z6, .ref z7, .int 0, .ref z8, .ref z9, .int 0, .int 0, .int 0, .int 0, .ref z10, .int 0, .null, .ref z11, .ref z12])), ((u_4 0), .inl (y 0, 10, .inl (fun _ => (-1)))), ((u_4 1), .inl (y 0, 10, .inl (fun _ => 0)))]) hF (c23_X11_sideOf l) gs_RX11_124 1 (by decide +kernel) rfl ⟨(Nat.le_of_ble_eq_true rfl), (Nat.le_of_ble_eq_true rfl)⟩ hl.1 rfl (Nat.le_of_ble_eq_true rfl) dX11_run_41 ⟨(Nat.le_of_ble_eq_true rfl), (Nat.le_of_ble_eq_true rfl)⟩ hP hD hS (pA hA hS) (fun _ h => h) [] [] [0, 1, 2, 3] rfl rfl rfl rfl rfl (by decide) (fun u_5 H locs hP hD hS => ?_)
  have hP : va_P D vwCl [(a1, .inl (y 0, 3, .inl (fun _ => 0))), (a0, .inr (13, [.ref a1, .ref z0, .ref z1, .ref z2, .ref z3, .ref (u_4 0), .int 112, .ref (u_4 1), .ref z6, .ref z7, .int 0, .ref z8, .ref z9, .int 0, .int 0, .int 0, .int 0, .ref z10, .int 0, .null, .ref z11, .ref z12])), ((u_4 0), .inl (y 0, 10, .inl (fun _ => (-1)))), ((u_4 1), .inl (y 0, 10, .inl (fun _ => 0)))] H := hP
  have hD : va_D A [(a1, .inl (y 0, 3, .inl (fun _ => 0))), (a0, .inr (13, [.ref a1, .ref z0, .ref z1, .ref z2, .ref z3, .ref (u_4 0), .int 112, .ref (u_4 1), .ref z6, .ref z7, .int 0, .ref z8, .ref z9, .int 0, .int 0, .int 0, .int 0, .ref z10, .int 0, .null, .ref z11, .ref z12])), ((u_4 0), .inl (y 0, 10, .inl (fun _ => (-1)))), ((u_4 1), .inl (y 0, 10, .inl (fun _ => 0)))] := hD
  refine W.widen (k := 2) (n := 20) (Nat.le_of_ble_eq_true rfl) (Nat.le_of_ble_eq_true rfl) ?_
  refine W.eq (g2 := F0 m 44 ls [.int 0, .ref a1, .int 0]) rfl ?_
  refine va_iald hx hb hK hP 0 0 rfl rfl (vp_in_nI (n := 0) (by decide) (by decide)) dX11_run_44 ?_
  refine tp_i (v := 0) rfl ?_
  refine lv_icmp_ge (tgt := 93) hx hb dX11_run_45 (by decide) (fun _ => ?_) (fun c => absurd (by decide) c)
  refine lv_aload_n hx hb dX11_run_93 rfl (lv_at hl 1 rfl) ?_
  refine va_get (D := D) (ci := 13) (v := .int 0) (C := RX11) (T := TX11) (N := 22) hx hb hts inX11 hown hK hP 1 rfl rfl 10 (by decide) (hts _ wd_427) (fun _ h9 => h9) rfl dX11_run_94 ?_
  exact e_i hF hr (Nat.le_of_ble_eq_true rfl) (Nat.le_of_ble_eq_true rfl) hS (qg_end hS (adl [(u_4 0), (u_4 1)]) rfl [1, 0, 2, 3] hP rfl (hD.sub [1, 0, 2, 3] rfl rfl)) dX11_run_97

set_option maxHeartbeats 4000000 in
set_option maxRecDepth 100000 in
theorem c232_X4_chooseAble (l : Launch) (a0 : Nat) (a1 : Nat) (a2 : Nat) (a3 : Nat) (z0 : Nat) (z1 : Nat) (z2 : Nat) (z3 : Nat) (z4 : Nat) (z5 : Nat) (z6 : Nat) (z7 : Nat) : CT l (.code yX4_chooseAble cX4_chooseAble 6 (some .int)) yX4_chooseAble { frames := 2, cells := 0, slots := 0, locals := 44 } [.ref a2, .ref a0, .ref z7, .int 0] (fun y => [(a0, .inr (5, [.ref z0, .ref a1, .ref z1])), (a1, .inr (4, [.int 0, .ref z2, .ref z3, .ref z4])), (a2, .inr (6, [.int 1, .int 1, .int 0, .ref a3, .ref z5, .ref z6])), (a3, .inl (y 0, 10, .inl (fun _ => 0)))]) (fun _ => []) (fun u => some (.int (-1))) (fun y u => []) := by
  refine mkM (by decide) (Nat.le_of_ble_eq_true rfl) ?_
  intro p e s m args below meth c D y A ls hF hr hAe hP hD hS hl
  have hF : FX p e s m args meth c cX4_chooseAble 6 RX4 "chooseAble" D y A := hF
  obtain ⟨⟨hx, hb, hml, hown, hts⟩, hev, heh, hA, hlk, hnm⟩ := id hF
  have hK := hev.1
  have hP : va_P D vwCl [(a0, .inr (5, [.ref z0, .ref a1, .ref z1])), (a1, .inr (4, [.int 0, .ref z2, .ref z3, .ref z4])), (a2, .inr (6, [.int 1, .int 1, .int 0, .ref a3, .ref z5, .ref z6])), (a3, .inl (y 0, 10, .inl (fun _ => 0)))] s.heap := hP
  have hD : va_D (fun _ => True) [(a0, .inr (5, [.ref z0, .ref a1, .ref z1])), (a1, .inr (4, [.int 0, .ref z2, .ref z3, .ref z4])), (a2, .inr (6, [.int 1, .int 1, .int 0, .ref a3, .ref z5, .ref z6])), (a3, .inl (y 0, 10, .inl (fun _ => 0)))] := hD
  have hl : lv_has ls 6 [(0, .ref a2), (1, .ref a0), (2, .ref z7), (3, .int 0)] := hl
  refine lv_iconst (v := 0) hx hb dX4_chooseAble_0 (by decide) ?_
  refine lv_istore (lv' := [(4, .int 0), (0, .ref a2), (1, .ref a0), (2, .ref z7), (3, .int 0)]) hx hb dX4_chooseAble_1 hl (by decide) rfl (fun ls hl => ?_)
  refine lpF (lo := 0) (N := 10) (by decide) (Wd := fun i => [(a0, .inr (5, [.ref z0, .ref a1, .ref z1])), (a1, .inr (4, [.int 0, .ref z2, .ref z3, .ref z4])), (a2, .inr (6, [.int 1, .int 1, .int 0, .ref a3, .ref z5, .ref z6])), (a3, .inl (y 0, 10, .inl (fun _ => 0)))]) (Lv := fun i => [(4, .int (nI i)), (0, .ref a2), (1, .ref a0), (2, .ref z7), (3, .int 0)]) hP hD hS (lv_sub hl [0, 1, 2, 3, 4] rfl) (fun i hlo_i hi ih_i H locs ls hP hD hS hl => ?_) (fun H locs ls hP hD hS hl => ?_)
  · have hP : va_P D vwCl [(a0, .inr (5, [.ref z0, .ref a1, .ref z1])), (a1, .inr (4, [.int 0, .ref z2, .ref z3, .ref z4])), (a2, .inr (6, [.int 1, .int 1, .int 0, .ref a3, .ref z5, .ref z6])), (a3, .inl (y 0, 10, .inl (fun _ => 0)))] H := hP
    have hD : va_D (fun _ => True) [(a0, .inr (5, [.ref z0, .ref a1, .ref z1])), (a1, .inr (4, [.int 0, .ref z2, .ref z3, .ref z4])), (a2, .inr (6, [.int 1, .int 1, .int 0, .ref a3, .ref z5, .ref z6])), (a3, .inl (y 0, 10, .inl (fun _ => 0)))] := hD
    have hl : lv_has ls 6 [(4, .int (nI i)), (0, .ref a2), (1, .ref a0), (2, .ref z7), (3, .int 0)] := hl
    have hi_1 : (nI i) < (10 : Int32) := nI_lt hi (by decide)
    have hi_0 : ¬ (nI i) < (0 : Int32) := nI_pos (by omega)
    refine lv_iload hx hb dX4_chooseAble_3 (lv_at hl 0 rfl) ?_
    refine lv_bipush (v := 10) hx hb dX4_chooseAble_5 (by decide) ?_
    refine lv_icmp_ge (tgt := 46) hx hb dX4_chooseAble_7 (by decide) (fun c => absurd c (by have e0 : (0 : Int32).toInt = 0 := (by decide); have e1 : (10 : Int32).toInt = 10 := (by decide); have h9 := And.intro hi_1 hi_0; simp only [Int32.lt_iff_toInt_lt, Int32.le_iff_toInt_le, ← Int32.toInt_inj, e0, e1] at h9 ⊢; omega)) (fun _ => ?_)
    refine lv_iload_n hx hb dX4_chooseAble_10 rfl (lv_at hl 4 rfl) ?_
    refine lv_if_eq (tgt := 22) hx hb dX4_chooseAble_11 (by decide) (fun _ => ?_) (fun c => absurd (by decide) c)
    refine lv_iload hx hb dX4_chooseAble_22 (lv_at hl 0 rfl) ?_
    refine lv_istore (lv' := [(5, .int (nI i)), (4, .int (nI i)), (0, .ref a2), (1, .ref a0), (2, .ref z7), (3, .int 0)]) hx hb dX4_chooseAble_24 hl (by decide) rfl (fun ls hl => ?_)
    refine lv_aload_n hx hb dX4_chooseAble_26 rfl (lv_at hl 2 rfl) ?_
    refine lv_aload_n hx hb dX4_chooseAble_27 rfl (lv_at hl 3 rfl) ?_
    refine lv_aload_n hx hb dX4_chooseAble_28 rfl (lv_at hl 4 rfl) ?_
    refine lv_iload hx hb dX4_chooseAble_29 (lv_at hl 0 rfl) ?_
    refine cV (l := l) (yM := yX4_canMake) (C := RX4) (As := [.ref a0, .ref z7, .int (nI i)]) (rest := []) (wr := [(a0, .inr (5, [.ref z0, .ref a1, .ref z1])), (a1, .inr (4, [.int 0, .ref z2, .ref z3, .ref z4])), (a2, .inr (6, [.int 1, .int 1, .int 0, .ref a3, .ref z5, .ref z6])), (a3, .inl (y 0, 10, .inl (fun _ => 0)))]) hF (c204_X4_canMake l a0 a1 a2 a3 z0 z1 z2 z3 z4 z5 z6 z7 (nI i)) gv_RX4_67 3 (by decide +kernel) rfl ⟨(Nat.le_of_ble_eq_true rfl), (Nat.le_of_ble_eq_true rfl)⟩ hl.1 rfl (Nat.le_of_ble_eq_true rfl) dX4_chooseAble_31 ⟨(Nat.le_of_ble_eq_true rfl), (Nat.le_of_ble_eq_true rfl)⟩ hP hD hS (pA hA hS) (fun _ _ => trivial) [0, 1, 2, 3] [] [0, 1, 2, 3] rfl rfl rfl rfl rfl (by decide) 2 (ci := 6) rfl rfl rfl (fun u_1 H locs hP hD hS => ?_)
    have hP : va_P D vwCl [(a0, .inr (5, [.ref z0, .ref a1, .ref z1])), (a1, .inr (4, [.int 0, .ref z2, .ref z3, .ref z4])), (a2, .inr (6, [.int 1, .int 1, .int 0, .ref a3, .ref z5, .ref z6])), (a3, .inl (y 0, 10, .inl (fun _ => 0)))] H := hP
    have hD : va_D (fun _ => True) [(a0, .inr (5, [.ref z0, .ref a1, .ref z1])), (a1, .inr (4, [.int 0, .ref z2, .ref z3, .ref z4])), (a2, .inr (6, [.int 1, .int 1, .int 0, .ref a3, .ref z5, .ref z6])), (a3, .inl (y 0, 10, .inl (fun _ => 0)))] := hD
    refine W.widen (k := 0) (n := 0) (Nat.le_of_ble_eq_true rfl) (Nat.le_of_ble_eq_true rfl) ?_
    refine W.eq (g2 := F0 m 34 ls [.int 0]) rfl ?_
    refine lv_if_eq (tgt := 40) hx hb dX4_chooseAble_34 (by decide) (fun _ => ?_) (fun c => absurd (by decide) c)
    refine lv_iinc (v := nI (i + 1)) (lv' := [(4, .int (nI (i + 1))), (5, .int (nI i)), (0, .ref a2), (1, .ref a0), (2, .ref z7), (3, .int 0)]) hx hb dX4_chooseAble_40 hl (k := 1) rfl (nI_inc i) (by decide) rfl (fun ls hl => ?_)
    refine lv_goto (tgt := 3) hx hb dX4_chooseAble_43 (by decide) ?_
    exact ih_i _ _ _ hP hD hS (lv_sub hl [0, 2, 3, 4, 5] rfl)
  · have hP : va_P D vwCl [(a0, .inr (5, [.ref z0, .ref a1, .ref z1])), (a1, .inr (4, [.int 0, .ref z2, .ref z3, .ref z4])), (a2, .inr (6, [.int 1, .int 1, .int 0, .ref a3, .ref z5, .ref z6])), (a3, .inl (y 0, 10, .inl (fun _ => 0)))] H := hP
    have hD : va_D (fun _ => True) [(a0, .inr (5, [.ref z0, .ref a1, .ref z1])), (a1, .inr (4, [.int 0, .ref z2, .ref z3, .ref z4])), (a2, .inr (6, [.int 1, .int 1, .int 0, .ref a3, .ref z5, .ref z6])), (a3, .inl (y 0, 10, .inl (fun _ => 0)))] := hD
    have hl : lv_has ls 6 [(4, .int 10), (0, .ref a2), (1, .ref a0), (2, .ref z7), (3, .int 0)] := hl
    refine lv_iload hx hb dX4_chooseAble_3 (lv_at hl 0 rfl) ?_
    refine lv_bipush (v := 10) hx hb dX4_chooseAble_5 (by decide) ?_
    refine lv_icmp_ge (tgt := 46) hx hb dX4_chooseAble_7 (by decide) (fun _ => ?_) (fun c => absurd (by decide) c)
    refine lv_iconst (v := (-1)) hx hb dX4_chooseAble_46 (by decide) ?_
    exact e_i hF hr (Nat.le_of_ble_eq_true rfl) (Nat.le_of_ble_eq_true rfl) hS (qg_end hS (fun _ => 0) rfl [] hP rfl d_nil) dX4_chooseAble_47

set_option maxHeartbeats 4000000 in
set_option maxRecDepth 100000 in
theorem c232_X4_makeAll (l : Launch) (a0 : Nat) (a1 : Nat) (a2 : Nat) (a3 : Nat) (a4 : Nat) (a5 : Nat) (a6 : Nat) (z0 : Nat) (z1 : Nat) (z2 : Nat) (z3 : Nat) (z4 : Nat) (z5 : Nat) (z6 : Nat) : CT l (.code yX4_makeAll cX4_makeAll 7 none) yX4_makeAll { frames := 3, cells := 0, slots := 0, locals := 69 } [.ref a5, .ref a0, .ref a2, .int 104, .int 0] (fun y => [(a0, .inr (5, [.ref z0, .ref a1, .ref z1])), (a1, .inr (4, [.int 0, .ref z2, .ref z3, .ref z4])), (a2, .inr (7, [.ref a3, .ref a4])), (a3, .inl (y 0, 10, .inl (fun _ => (-1)))), (a4, .inl (y 0, 10, .inl (fun _ => 0))), (a5, .inr (6, [.int 0, .int 0, .int 0, .ref a6, .ref z5, .ref z6])), (a6, .inl (y 0, 10, .inl (fun _ => 0)))]) (fun y => [(a0, .inr (5, [.ref z0, .ref a1, .ref z1])), (a1, .inr (4, [.int 0, .ref z2, .ref z3, .ref z4])), (a2, .inr (7, [.ref a3, .ref a4])), (a3, .inl (y 0, 10, .inl (fun _ => (-1)))), (a4, .inl (y 0, 10, .inl (fun _ => 0))), (a5, .inr (6, [.int 0, .int 0, .int 0, .ref a6, .ref z5, .ref z6])), (a6, .inl (y 0, 10, .inl (fun _ => 0)))]) (fun u => none) (fun y u => [(a0, .inr (5, [.ref z0, .ref a1, .ref z1])), (a1, .inr (4, [.int 0, .ref z2, .ref z3, .ref z4])), (a2, .inr (7, [.ref a3, .ref a4])), (a3, .inl (y 0, 10, .inl (fun _ => (-1)))), (a4, .inl (y 0, 10, .inl (fun _ => 0))), (a5, .inr (6, [.int 1, .int 1, .int 0, .ref a6, .ref z5, .ref z6])), (a6, .inl (y 0, 10, .inl (fun _ => 0)))]) := by
  refine mkM (by decide) (Nat.le_of_ble_eq_true rfl) ?_
  intro p e s m args below meth c D y A ls hF hr hAe hP hD hS hl
  have hF : FX p e s m args meth c cX4_makeAll 7 RX4 "makeAll" D y A := hF
  obtain ⟨⟨hx, hb, hml, hown, hts⟩, hev, heh, hA, hlk, hnm⟩ := id hF
  have hK := hev.1
  have hP : va_P D vwCl [(a0, .inr (5, [.ref z0, .ref a1, .ref z1])), (a1, .inr (4, [.int 0, .ref z2, .ref z3, .ref z4])), (a2, .inr (7, [.ref a3, .ref a4])), (a3, .inl (y 0, 10, .inl (fun _ => (-1)))), (a4, .inl (y 0, 10, .inl (fun _ => 0))), (a5, .inr (6, [.int 0, .int 0, .int 0, .ref a6, .ref z5, .ref z6])), (a6, .inl (y 0, 10, .inl (fun _ => 0)))] s.heap := hP
  have hD : va_D A [(a0, .inr (5, [.ref z0, .ref a1, .ref z1])), (a1, .inr (4, [.int 0, .ref z2, .ref z3, .ref z4])), (a2, .inr (7, [.ref a3, .ref a4])), (a3, .inl (y 0, 10, .inl (fun _ => (-1)))), (a4, .inl (y 0, 10, .inl (fun _ => 0))), (a5, .inr (6, [.int 0, .int 0, .int 0, .ref a6, .ref z5, .ref z6])), (a6, .inl (y 0, 10, .inl (fun _ => 0)))] := by rw [← hAe]; exact hD.self
  have hl : lv_has ls 7 [(0, .ref a5), (1, .ref a0), (2, .ref a2), (3, .int 104), (4, .int 0)] := hl
  refine lv_aload_n hx hb dX4_makeAll_0 rfl (lv_at hl 2 rfl) ?_
  refine cV (l := l) (yM := yX5_clear) (C := RX5) (As := []) (rest := []) (wr := [(a0, .inr (5, [.ref z0, .ref a1, .ref z1])), (a1, .inr (4, [.int 0, .ref z2, .ref z3, .ref z4])), (a5, .inr (6, [.int 0, .int 0, .int 0, .ref a6, .ref z5, .ref z6])), (a6, .inl (y 0, 10, .inl (fun _ => 0)))]) hF (c16_X5_clear l a2 a3 a4) gv_RX4_71 0 (by decide +kernel) rfl ⟨(Nat.le_of_ble_eq_true rfl), (Nat.le_of_ble_eq_true rfl)⟩ hl.1 rfl (Nat.le_of_ble_eq_true rfl) dX4_makeAll_1 ⟨(Nat.le_of_ble_eq_true rfl), (Nat.le_of_ble_eq_true rfl)⟩ hP hD hS (va_free (wc := [(a2, .inr (7, [.ref a3, .ref a4])), (a3, .inl (y 0, 10, .inl (fun _ => (-1)))), (a4, .inl (y 0, 10, .inl (fun _ => 0)))]) hD hS hA [2, 3, 4] rfl) (fun _ h => h) [2, 3, 4] [2, 3, 4] [0, 1, 5, 6] rfl rfl rfl rfl rfl (by decide) 2 (ci := 7) rfl rfl rfl (fun u_1 H locs hP hD hS => ?_)
  have hP : va_P D vwCl [(a0, .inr (5, [.ref z0, .ref a1, .ref z1])), (a1, .inr (4, [.int 0, .ref z2, .ref z3, .ref z4])), (a5, .inr (6, [.int 0, .int 0, .int 0, .ref a6, .ref z5, .ref z6])), (a6, .inl (y 0, 10, .inl (fun _ => 0))), (a2, .inr (7, [.ref a3, .ref a4])), (a3, .inl (y 0, 10, .inl (fun _ => (-1)))), (a4, .inl (y 0, 10, .inl (fun _ => 0)))] H := hP
  have hD : va_D A [(a0, .inr (5, [.ref z0, .ref a1, .ref z1])), (a1, .inr (4, [.int 0, .ref z2, .ref z3, .ref z4])), (a5, .inr (6, [.int 0, .int 0, .int 0, .ref a6, .ref z5, .ref z6])), (a6, .inl (y 0, 10, .inl (fun _ => 0))), (a2, .inr (7, [.ref a3, .ref a4])), (a3, .inl (y 0, 10, .inl (fun _ => (-1)))), (a4, .inl (y 0, 10, .inl (fun _ => 0)))] := hD
  refine W.widen (k := 0) (n := 0) (Nat.le_of_ble_eq_true rfl) (Nat.le_of_ble_eq_true rfl) ?_
  refine W.eq (g2 := F0 m 4 ls []) rfl ?_
  refine lv_aload_n hx hb dX4_makeAll_4 rfl (lv_at hl 0 rfl) ?_
  refine lv_iload_n hx hb dX4_makeAll_5 rfl (lv_at hl 3 rfl) ?_
  refine cV (l := l) (yM := yX4_start) (C := RX4) (As := [.int 104]) (rest := []) (wr := [(a0, .inr (5, [.ref z0, .ref a1, .ref z1])), (a1, .inr (4, [.int 0, .ref z2, .ref z3, .ref z4])), (a2, .inr (7, [.ref a3, .ref a4])), (a3, .inl (y 0, 10, .inl (fun _ => (-1)))), (a4, .inl (y 0, 10, .inl (fun _ => 0)))]) hF (c203_X4_start l a5 a6 z5 z6) gv_RX4_74 1 (by decide +kernel) rfl ⟨(Nat.le_of_ble_eq_true rfl), (Nat.le_of_ble_eq_true rfl)⟩ hl.1 rfl (Nat.le_of_ble_eq_true rfl) dX4_makeAll_6 ⟨(Nat.le_of_ble_eq_true rfl), (Nat.le_of_ble_eq_true rfl)⟩ hP hD hS (va_free (wc := [(a5, .inr (6, [.int 0, .int 0, .int 0, .ref a6, .ref z5, .ref z6])), (a6, .inl (y 0, 10, .inl (fun _ => 0)))]) hD hS hA [2, 3] rfl) (fun _ h => h) [2, 3] [2, 3] [0, 1, 4, 5, 6] rfl rfl rfl rfl rfl (by decide) 2 (ci := 6) rfl rfl rfl (fun u_2 H locs hP hD hS => ?_)
  have hP : va_P D vwCl [(a0, .inr (5, [.ref z0, .ref a1, .ref z1])), (a1, .inr (4, [.int 0, .ref z2, .ref z3, .ref z4])), (a2, .inr (7, [.ref a3, .ref a4])), (a3, .inl (y 0, 10, .inl (fun _ => (-1)))), (a4, .inl (y 0, 10, .inl (fun _ => 0))), (a5, .inr (6, [.int 1, .int 1, .int 0, .ref a6, .ref z5, .ref z6])), (a6, .inl (y 0, 10, .inl (fun _ => 0)))] H := hP
  have hD : va_D A [(a0, .inr (5, [.ref z0, .ref a1, .ref z1])), (a1, .inr (4, [.int 0, .ref z2, .ref z3, .ref z4])), (a2, .inr (7, [.ref a3, .ref a4])), (a3, .inl (y 0, 10, .inl (fun _ => (-1)))), (a4, .inl (y 0, 10, .inl (fun _ => 0))), (a5, .inr (6, [.int 1, .int 1, .int 0, .ref a6, .ref z5, .ref z6])), (a6, .inl (y 0, 10, .inl (fun _ => 0)))] := hD
  refine W.widen (k := 0) (n := 0) (Nat.le_of_ble_eq_true rfl) (Nat.le_of_ble_eq_true rfl) ?_
  refine W.eq (g2 := F0 m 9 ls []) rfl ?_
  refine lv_iconst (v := 0) hx hb dX4_makeAll_9 (by decide) ?_
  refine lv_istore (lv' := [(5, .int 0), (0, .ref a5), (1, .ref a0), (2, .ref a2), (3, .int 104), (4, .int 0)]) hx hb dX4_makeAll_10 hl (by decide) rfl (fun ls hl => ?_)
  refine lv_iload hx hb dX4_makeAll_12 (lv_at hl 0 rfl) ?_
  refine lv_bipush (v := 100) hx hb dX4_makeAll_14 (by decide) ?_
  refine lv_icmp_ge (tgt := 51) hx hb dX4_makeAll_16 (by decide) (fun c => absurd c (by decide)) (fun _ => ?_)
  refine lv_aload_n hx hb dX4_makeAll_19 rfl (lv_at hl 1 rfl) ?_
  refine lv_aload_n hx hb dX4_makeAll_20 rfl (lv_at hl 2 rfl) ?_
  refine lv_aload_n hx hb dX4_makeAll_21 rfl (lv_at hl 3 rfl) ?_
  refine lv_iload hx hb dX4_makeAll_22 (lv_at hl 5 rfl) ?_
  refine cV (l := l) (yM := yX4_chooseAble) (C := RX4) (As := [.ref a0, .ref a2, .int 0]) (rest := []) (wr := [(a0, .inr (5, [.ref z0, .ref a1, .ref z1])), (a1, .inr (4, [.int 0, .ref z2, .ref z3, .ref z4])), (a2, .inr (7, [.ref a3, .ref a4])), (a3, .inl (y 0, 10, .inl (fun _ => (-1)))), (a4, .inl (y 0, 10, .inl (fun _ => 0))), (a5, .inr (6, [.int 1, .int 1, .int 0, .ref a6, .ref z5, .ref z6])), (a6, .inl (y 0, 10, .inl (fun _ => 0)))]) hF (c232_X4_chooseAble l a0 a1 a5 a6 z0 z1 z2 z3 z4 z5 z6 a2) gv_RX4_78 3 (by decide +kernel) rfl ⟨(Nat.le_of_ble_eq_true rfl), (Nat.le_of_ble_eq_true rfl)⟩ hl.1 rfl (Nat.le_of_ble_eq_true rfl) dX4_makeAll_24 ⟨(Nat.le_of_ble_eq_true rfl), (Nat.le_of_ble_eq_true rfl)⟩ hP hD hS (pA hA hS) (fun _ h => h) [0, 1, 5, 6] [] [0, 1, 2, 3, 4, 5, 6] rfl rfl rfl rfl rfl (by decide) 5 (ci := 6) rfl rfl rfl (fun u_3 H locs hP hD hS => ?_)
  have hP : va_P D vwCl [(a0, .inr (5, [.ref z0, .ref a1, .ref z1])), (a1, .inr (4, [.int 0, .ref z2, .ref z3, .ref z4])), (a2, .inr (7, [.ref a3, .ref a4])), (a3, .inl (y 0, 10, .inl (fun _ => (-1)))), (a4, .inl (y 0, 10, .inl (fun _ => 0))), (a5, .inr (6, [.int 1, .int 1, .int 0, .ref a6, .ref z5, .ref z6])), (a6, .inl (y 0, 10, .inl (fun _ => 0)))] H := hP
  have hD : va_D A [(a0, .inr (5, [.ref z0, .ref a1, .ref z1])), (a1, .inr (4, [.int 0, .ref z2, .ref z3, .ref z4])), (a2, .inr (7, [.ref a3, .ref a4])), (a3, .inl (y 0, 10, .inl (fun _ => (-1)))), (a4, .inl (y 0, 10, .inl (fun _ => 0))), (a5, .inr (6, [.int 1, .int 1, .int 0, .ref a6, .ref z5, .ref z6])), (a6, .inl (y 0, 10, .inl (fun _ => 0)))] := hD
  refine W.widen (k := 0) (n := 0) (Nat.le_of_ble_eq_true rfl) (Nat.le_of_ble_eq_true rfl) ?_
  refine W.eq (g2 := F0 m 27 ls [.int (-1)]) rfl ?_
  refine lv_istore (lv' := [(6, .int (-1)), (5, .int 0), (0, .ref a5), (1, .ref a0), (2, .ref a2), (3, .int 104), (4, .int 0)]) hx hb dX4_makeAll_27 hl (by decide) rfl (fun ls hl => ?_)
  refine lv_iload hx hb dX4_makeAll_29 (lv_at hl 0 rfl) ?_
  refine lv_iconst (v := (-1)) hx hb dX4_makeAll_31 (by decide) ?_
  refine lv_icmp_ne (tgt := 36) hx hb dX4_makeAll_32 (by decide) (fun c => absurd (by decide) c) (fun _ => ?_)
  exact e_v hF hr (Nat.le_of_ble_eq_true rfl) (Nat.le_of_ble_eq_true rfl) hS (qg_end hS (fun _ => 0) rfl [0, 1, 2, 3, 4, 5, 6] hP rfl (hD.sub [0, 1, 2, 3, 4, 5, 6] rfl rfl)) dX4_makeAll_35

set_option maxHeartbeats 4000000 in
set_option maxRecDepth 100000 in
theorem c232_X10_run (l : Launch) (a0 : Nat) (a1 : Nat) (a2 : Nat) (a3 : Nat) (a4 : Nat) (a5 : Nat) (a6 : Nat) (a7 : Nat) (z0 : Nat) (z1 : Nat) (z2 : Nat) (z3 : Nat) (z4 : Nat) (z5 : Nat) (z6 : Nat) (z7 : Nat) (z8 : Nat) (z9 : Nat) (z10 : Nat) (z11 : Nat) (z12 : Nat) (z13 : Nat) (z14 : Nat) (z15 : Nat) (z16 : Nat) (z17 : Nat) (z18 : Nat) : CT l (.code yX10_run cX10_run 2 (some .int)) yX10_run { frames := 4, cells := 0, slots := 0, locals := 95 } [.ref a0, .int 104] (fun y => [(a0, .inr (12, [.ref a1, .ref z0, .ref z1, .ref z2, .ref a3, .ref a6, .ref z3, .ref z4, .ref z5, .ref z6, .ref z7, .ref z8, .ref z9, .ref z10, .ref z11])), (a1, .inr (5, [.ref z12, .ref a2, .ref z13])), (a2, .inr (4, [.int 0, .ref z14, .ref z15, .ref z16])), (a3, .inr (7, [.ref a4, .ref a5])), (a4, .inl (y 0, 10, .inl (fun _ => (-1)))), (a5, .inl (y 0, 10, .inl (fun _ => 0))), (a6, .inr (6, [.int 0, .int 0, .int 0, .ref a7, .ref z17, .ref z18])), (a7, .inl (y 0, 10, .inl (fun _ => 0)))]) (fun y => [(a0, .inr (12, [.ref a1, .ref z0, .ref z1, .ref z2, .ref a3, .ref a6, .ref z3, .ref z4, .ref z5, .ref z6, .ref z7, .ref z8, .ref z9, .ref z10, .ref z11])), (a1, .inr (5, [.ref z12, .ref a2, .ref z13])), (a2, .inr (4, [.int 0, .ref z14, .ref z15, .ref z16])), (a3, .inr (7, [.ref a4, .ref a5])), (a4, .inl (y 0, 10, .inl (fun _ => (-1)))), (a5, .inl (y 0, 10, .inl (fun _ => 0))), (a6, .inr (6, [.int 0, .int 0, .int 0, .ref a7, .ref z17, .ref z18])), (a7, .inl (y 0, 10, .inl (fun _ => 0)))]) (fun u => some (.int 0)) (fun y u => [(a0, .inr (12, [.ref a1, .ref z0, .ref z1, .ref z2, .ref a3, .ref a6, .ref z3, .ref z4, .ref z5, .ref z6, .ref z7, .ref z8, .ref z9, .ref z10, .ref z11])), (a1, .inr (5, [.ref z12, .ref a2, .ref z13])), (a2, .inr (4, [.int 0, .ref z14, .ref z15, .ref z16])), (a3, .inr (7, [.ref a4, .ref a5])), (a4, .inl (y 0, 10, .inl (fun _ => (-1)))), (a5, .inl (y 0, 10, .inl (fun _ => 0))), (a6, .inr (6, [.int 1, .int 1, .int 0, .ref a7, .ref z17, .ref z18])), (a7, .inl (y 0, 10, .inl (fun _ => 0)))]) := by
  refine mkM (by decide) (Nat.le_of_ble_eq_true rfl) ?_
  intro p e s m args below meth c D y A ls hF hr hAe hP hD hS hl
  have hF : FX p e s m args meth c cX10_run 2 RX10 "run" D y A := hF
  obtain ⟨⟨hx, hb, hml, hown, hts⟩, hev, heh, hA, hlk, hnm⟩ := id hF
  have hK := hev.1
  have hP : va_P D vwCl [(a0, .inr (12, [.ref a1, .ref z0, .ref z1, .ref z2, .ref a3, .ref a6, .ref z3, .ref z4, .ref z5, .ref z6, .ref z7, .ref z8, .ref z9, .ref z10, .ref z11])), (a1, .inr (5, [.ref z12, .ref a2, .ref z13])), (a2, .inr (4, [.int 0, .ref z14, .ref z15, .ref z16])), (a3, .inr (7, [.ref a4, .ref a5])), (a4, .inl (y 0, 10, .inl (fun _ => (-1)))), (a5, .inl (y 0, 10, .inl (fun _ => 0))), (a6, .inr (6, [.int 0, .int 0, .int 0, .ref a7, .ref z17, .ref z18])), (a7, .inl (y 0, 10, .inl (fun _ => 0)))] s.heap := hP
  have hD : va_D A [(a0, .inr (12, [.ref a1, .ref z0, .ref z1, .ref z2, .ref a3, .ref a6, .ref z3, .ref z4, .ref z5, .ref z6, .ref z7, .ref z8, .ref z9, .ref z10, .ref z11])), (a1, .inr (5, [.ref z12, .ref a2, .ref z13])), (a2, .inr (4, [.int 0, .ref z14, .ref z15, .ref z16])), (a3, .inr (7, [.ref a4, .ref a5])), (a4, .inl (y 0, 10, .inl (fun _ => (-1)))), (a5, .inl (y 0, 10, .inl (fun _ => 0))), (a6, .inr (6, [.int 0, .int 0, .int 0, .ref a7, .ref z17, .ref z18])), (a7, .inl (y 0, 10, .inl (fun _ => 0)))] := by rw [← hAe]; exact hD.self
  have hl : lv_has ls 2 [(0, .ref a0), (1, .int 104)] := hl
  refine lv_aload_n hx hb dX10_run_0 rfl (lv_at hl 0 rfl) ?_
  refine lv_iload_n hx hb dX10_run_1 rfl (lv_at hl 1 rfl) ?_
  refine cV (l := l) (yM := yX10_needOfferSide) (C := RX10) (As := [.int 104]) (rest := []) (wr := [(a0, .inr (12, [.ref a1, .ref z0, .ref z1, .ref z2, .ref a3, .ref a6, .ref z3, .ref z4, .ref z5, .ref z6, .ref z7, .ref z8, .ref z9, .ref z10, .ref z11])), (a1, .inr (5, [.ref z12, .ref a2, .ref z13])), (a2, .inr (4, [.int 0, .ref z14, .ref z15, .ref z16])), (a3, .inr (7, [.ref a4, .ref a5])), (a4, .inl (y 0, 10, .inl (fun _ => (-1)))), (a5, .inl (y 0, 10, .inl (fun _ => 0))), (a6, .inr (6, [.int 0, .int 0, .int 0, .ref a7, .ref z17, .ref z18])), (a7, .inl (y 0, 10, .inl (fun _ => 0)))]) hF (c202_X10_needOfferSide l a0) gv_RX10_198 1 (by decide +kernel) rfl ⟨(Nat.le_of_ble_eq_true rfl), (Nat.le_of_ble_eq_true rfl)⟩ hl.1 rfl (Nat.le_of_ble_eq_true rfl) dX10_run_2 ⟨(Nat.le_of_ble_eq_true rfl), (Nat.le_of_ble_eq_true rfl)⟩ hP hD hS (pA hA hS) (fun _ h => h) [] [] [0, 1, 2, 3, 4, 5, 6, 7] rfl rfl rfl rfl rfl (by decide) 0 (ci := 12) rfl rfl rfl (fun u_1 H locs hP hD hS => ?_)
  have hP : va_P D vwCl [(a0, .inr (12, [.ref a1, .ref z0, .ref z1, .ref z2, .ref a3, .ref a6, .ref z3, .ref z4, .ref z5, .ref z6, .ref z7, .ref z8, .ref z9, .ref z10, .ref z11])), (a1, .inr (5, [.ref z12, .ref a2, .ref z13])), (a2, .inr (4, [.int 0, .ref z14, .ref z15, .ref z16])), (a3, .inr (7, [.ref a4, .ref a5])), (a4, .inl (y 0, 10, .inl (fun _ => (-1)))), (a5, .inl (y 0, 10, .inl (fun _ => 0))), (a6, .inr (6, [.int 0, .int 0, .int 0, .ref a7, .ref z17, .ref z18])), (a7, .inl (y 0, 10, .inl (fun _ => 0)))] H := hP
  have hD : va_D A [(a0, .inr (12, [.ref a1, .ref z0, .ref z1, .ref z2, .ref a3, .ref a6, .ref z3, .ref z4, .ref z5, .ref z6, .ref z7, .ref z8, .ref z9, .ref z10, .ref z11])), (a1, .inr (5, [.ref z12, .ref a2, .ref z13])), (a2, .inr (4, [.int 0, .ref z14, .ref z15, .ref z16])), (a3, .inr (7, [.ref a4, .ref a5])), (a4, .inl (y 0, 10, .inl (fun _ => (-1)))), (a5, .inl (y 0, 10, .inl (fun _ => 0))), (a6, .inr (6, [.int 0, .int 0, .int 0, .ref a7, .ref z17, .ref z18])), (a7, .inl (y 0, 10, .inl (fun _ => 0)))] := hD
  refine W.widen (k := 0) (n := 0) (Nat.le_of_ble_eq_true rfl) (Nat.le_of_ble_eq_true rfl) ?_
  refine W.eq (g2 := F0 m 5 ls []) rfl ?_
  refine lv_aload_n hx hb dX10_run_5 rfl (lv_at hl 0 rfl) ?_
  refine va_get (D := D) (ci := 12) (v := .ref a6) (C := RX10) (T := TX10) (N := 15) hx hb hts inX10 hown hK hP 0 rfl rfl 5 (by decide) (hts _ wd_57) (fun _ h9 => h9) rfl dX10_run_6 ?_
  refine lv_aload_n hx hb dX10_run_9 rfl (lv_at hl 0 rfl) ?_
  refine va_get (D := D) (ci := 12) (v := .ref a1) (C := RX10) (T := TX10) (N := 15) hx hb hts inX10 hown hK hP 0 rfl rfl 0 (by decide) (hts _ wd_24) (fun _ h9 => h9) rfl dX10_run_10 ?_
  refine lv_aload_n hx hb dX10_run_13 rfl (lv_at hl 0 rfl) ?_
  refine va_get (D := D) (ci := 12) (v := .ref a3) (C := RX10) (T := TX10) (N := 15) hx hb hts inX10 hown hK hP 0 rfl rfl 4 (by decide) (hts _ wd_47) (fun _ h9 => h9) rfl dX10_run_14 ?_
  refine lv_iload_n hx hb dX10_run_17 rfl (lv_at hl 1 rfl) ?_
  refine lv_iconst (v := 0) hx hb dX10_run_18 (by decide) ?_
  refine cV (l := l) (yM := yX4_makeAll) (C := RX4) (As := [.ref a1, .ref a3, .int 104, .int 0]) (rest := []) (wr := [(a0, .inr (12, [.ref a1, .ref z0, .ref z1, .ref z2, .ref a3, .ref a6, .ref z3, .ref z4, .ref z5, .ref z6, .ref z7, .ref z8, .ref z9, .ref z10, .ref z11]))]) hF (c232_X4_makeAll l a1 a2 a3 a4 a5 a6 a7 z12 z13 z14 z15 z16 z17 z18) gv_RX10_238 4 (by decide +kernel) rfl ⟨(Nat.le_of_ble_eq_true rfl), (Nat.le_of_ble_eq_true rfl)⟩ hl.1 rfl (Nat.le_of_ble_eq_true rfl) dX10_run_19 ⟨(Nat.le_of_ble_eq_true rfl), (Nat.le_of_ble_eq_true rfl)⟩ hP hD hS (va_free (wc := [(a1, .inr (5, [.ref z12, .ref a2, .ref z13])), (a2, .inr (4, [.int 0, .ref z14, .ref z15, .ref z16])), (a3, .inr (7, [.ref a4, .ref a5])), (a4, .inl (y 0, 10, .inl (fun _ => (-1)))), (a5, .inl (y 0, 10, .inl (fun _ => 0))), (a6, .inr (6, [.int 0, .int 0, .int 0, .ref a7, .ref z17, .ref z18])), (a7, .inl (y 0, 10, .inl (fun _ => 0)))]) hD hS hA [1, 2, 3, 4, 5, 6, 7] rfl) (fun _ h => h) [1, 2, 3, 4, 5, 6, 7] [1, 2, 3, 4, 5, 6, 7] [0] rfl rfl rfl rfl rfl (by decide) 6 (ci := 6) rfl rfl rfl (fun u_2 H locs hP hD hS => ?_)
  have hP : va_P D vwCl [(a0, .inr (12, [.ref a1, .ref z0, .ref z1, .ref z2, .ref a3, .ref a6, .ref z3, .ref z4, .ref z5, .ref z6, .ref z7, .ref z8, .ref z9, .ref z10, .ref z11])), (a1, .inr (5, [.ref z12, .ref a2, .ref z13])), (a2, .inr (4, [.int 0, .ref z14, .ref z15, .ref z16])), (a3, .inr (7, [.ref a4, .ref a5])), (a4, .inl (y 0, 10, .inl (fun _ => (-1)))), (a5, .inl (y 0, 10, .inl (fun _ => 0))), (a6, .inr (6, [.int 1, .int 1, .int 0, .ref a7, .ref z17, .ref z18])), (a7, .inl (y 0, 10, .inl (fun _ => 0)))] H := hP
  have hD : va_D A [(a0, .inr (12, [.ref a1, .ref z0, .ref z1, .ref z2, .ref a3, .ref a6, .ref z3, .ref z4, .ref z5, .ref z6, .ref z7, .ref z8, .ref z9, .ref z10, .ref z11])), (a1, .inr (5, [.ref z12, .ref a2, .ref z13])), (a2, .inr (4, [.int 0, .ref z14, .ref z15, .ref z16])), (a3, .inr (7, [.ref a4, .ref a5])), (a4, .inl (y 0, 10, .inl (fun _ => (-1)))), (a5, .inl (y 0, 10, .inl (fun _ => 0))), (a6, .inr (6, [.int 1, .int 1, .int 0, .ref a7, .ref z17, .ref z18])), (a7, .inl (y 0, 10, .inl (fun _ => 0)))] := hD
  refine W.widen (k := 0) (n := 0) (Nat.le_of_ble_eq_true rfl) (Nat.le_of_ble_eq_true rfl) ?_
  refine W.eq (g2 := F0 m 22 ls []) rfl ?_
  refine lv_aload_n hx hb dX10_run_22 rfl (lv_at hl 0 rfl) ?_
  refine va_get (D := D) (ci := 12) (v := .ref a6) (C := RX10) (T := TX10) (N := 15) hx hb hts inX10 hown hK hP 0 rfl rfl 5 (by decide) (hts _ wd_57) (fun _ h9 => h9) rfl dX10_run_23 ?_
  refine va_getN (D := D) (ci := 6) (v := .int 0) (C := RX4) (T := TX4) (N := 6) hx hb hts inX4 hown hK hP 6 rfl rfl 2 (by decide) (va_Nw.use (A := args) rfl (hev.2.1 (RX10, 242, RX4, "made", "I") (List.mem_of_getElem? (i := 17) rfl))) (fun _ h9 => h9) rfl dX10_run_26 ?_
  exact e_i hF hr (Nat.le_of_ble_eq_true rfl) (Nat.le_of_ble_eq_true rfl) hS (qg_end hS (fun _ => 0) rfl [0, 1, 2, 3, 4, 5, 6, 7] hP rfl (hD.sub [0, 1, 2, 3, 4, 5, 6, 7] rfl rfl)) dX10_run_29

set_option maxHeartbeats 4000000 in
set_option maxRecDepth 100000 in
theorem c232_L_run (l : Launch) (a0 : Nat) (a1 : Nat) (a2 : Nat) (a3 : Nat) (a4 : Nat) (a5 : Nat) (a6 : Nat) (a7 : Nat) (a8 : Nat) (z0 : Nat) (z1 : Nat) (z2 : Nat) (z3 : Nat) (z4 : Nat) (z5 : Nat) (z6 : Nat) (z7 : Nat) (z8 : Nat) (z9 : Nat) (z10 : Nat) (z11 : Nat) (z12 : Nat) (z13 : Nat) (z14 : Nat) (z15 : Nat) (z16 : Nat) (z17 : Nat) (z18 : Nat) : CT l (.codeWith yL_run cL_run 4 (some .int) [(0, 9, 12, 13)]) yL_run { frames := 5, cells := 0, slots := 0, locals := 116 } [.ref a0, .int 104, .ref a8] (fun y => [(a0, .inr (12, [.ref a1, .ref z0, .ref z1, .ref z2, .ref a3, .ref a6, .ref z3, .ref z4, .ref z5, .ref z6, .ref z7, .ref z8, .ref z9, .ref z10, .ref z11])), (a1, .inr (5, [.ref z12, .ref a2, .ref z13])), (a2, .inr (4, [.int 0, .ref z14, .ref z15, .ref z16])), (a3, .inr (7, [.ref a4, .ref a5])), (a4, .inl (y 0, 10, .inl (fun _ => (-1)))), (a5, .inl (y 0, 10, .inl (fun _ => 0))), (a6, .inr (6, [.int 0, .int 0, .int 0, .ref a7, .ref z17, .ref z18])), (a7, .inl (y 0, 10, .inl (fun _ => 0))), (a8, .inl (y 2, 1, .inr (.inl (fun _ => 0))))]) (fun y => [(a0, .inr (12, [.ref a1, .ref z0, .ref z1, .ref z2, .ref a3, .ref a6, .ref z3, .ref z4, .ref z5, .ref z6, .ref z7, .ref z8, .ref z9, .ref z10, .ref z11])), (a1, .inr (5, [.ref z12, .ref a2, .ref z13])), (a2, .inr (4, [.int 0, .ref z14, .ref z15, .ref z16])), (a3, .inr (7, [.ref a4, .ref a5])), (a4, .inl (y 0, 10, .inl (fun _ => (-1)))), (a5, .inl (y 0, 10, .inl (fun _ => 0))), (a6, .inr (6, [.int 0, .int 0, .int 0, .ref a7, .ref z17, .ref z18])), (a7, .inl (y 0, 10, .inl (fun _ => 0))), (a8, .inl (y 2, 1, .inr (.inl (fun _ => 0))))]) (fun u => some (.int 0)) (fun y u => [(a0, .inr (12, [.ref a1, .ref z0, .ref z1, .ref z2, .ref a3, .ref a6, .ref z3, .ref z4, .ref z5, .ref z6, .ref z7, .ref z8, .ref z9, .ref z10, .ref z11])), (a1, .inr (5, [.ref z12, .ref a2, .ref z13])), (a2, .inr (4, [.int 0, .ref z14, .ref z15, .ref z16])), (a3, .inr (7, [.ref a4, .ref a5])), (a4, .inl (y 0, 10, .inl (fun _ => (-1)))), (a5, .inl (y 0, 10, .inl (fun _ => 0))), (a6, .inr (6, [.int 1, .int 1, .int 0, .ref a7, .ref z17, .ref z18])), (a7, .inl (y 0, 10, .inl (fun _ => 0))), (a8, .inl (y 2, 1, .inr (.inl (fun _ => 0))))]) := by
  refine mkH (by decide) (Nat.le_of_ble_eq_true rfl) ?_
  intro p e s m args below meth c D y A ls hF htab hr hAe hP hD hS hl
  have hF : FX p e s m args meth c cL_run 4 RL "run" D y A := hF
  obtain ⟨⟨hx, hb, hml, hown, hts⟩, hev, heh, hA, hlk, hnm⟩ := id hF
  have hK := hev.1
  have hP : va_P D vwCl [(a0, .inr (12, [.ref a1, .ref z0, .ref z1, .ref z2, .ref a3, .ref a6, .ref z3, .ref z4, .ref z5, .ref z6, .ref z7, .ref z8, .ref z9, .ref z10, .ref z11])), (a1, .inr (5, [.ref z12, .ref a2, .ref z13])), (a2, .inr (4, [.int 0, .ref z14, .ref z15, .ref z16])), (a3, .inr (7, [.ref a4, .ref a5])), (a4, .inl (y 0, 10, .inl (fun _ => (-1)))), (a5, .inl (y 0, 10, .inl (fun _ => 0))), (a6, .inr (6, [.int 0, .int 0, .int 0, .ref a7, .ref z17, .ref z18])), (a7, .inl (y 0, 10, .inl (fun _ => 0))), (a8, .inl (y 2, 1, .inr (.inl (fun _ => 0))))] s.heap := hP
  have hD : va_D A [(a0, .inr (12, [.ref a1, .ref z0, .ref z1, .ref z2, .ref a3, .ref a6, .ref z3, .ref z4, .ref z5, .ref z6, .ref z7, .ref z8, .ref z9, .ref z10, .ref z11])), (a1, .inr (5, [.ref z12, .ref a2, .ref z13])), (a2, .inr (4, [.int 0, .ref z14, .ref z15, .ref z16])), (a3, .inr (7, [.ref a4, .ref a5])), (a4, .inl (y 0, 10, .inl (fun _ => (-1)))), (a5, .inl (y 0, 10, .inl (fun _ => 0))), (a6, .inr (6, [.int 0, .int 0, .int 0, .ref a7, .ref z17, .ref z18])), (a7, .inl (y 0, 10, .inl (fun _ => 0))), (a8, .inl (y 2, 1, .inr (.inl (fun _ => 0))))] := by rw [← hAe]; exact hD.self
  have hl : lv_has ls 4 [(0, .ref a0), (1, .int 104), (2, .ref a8)] := hl
  refine lv_aload_n hx hb dL_run_0 rfl (lv_at hl 2 rfl) ?_
  refine lv_iconst (v := 0) hx hb dL_run_1 (by decide) ?_
  refine lv_aload_n hx hb dL_run_2 rfl (lv_at hl 0 rfl) ?_
  refine lv_iload_n hx hb dL_run_3 rfl (lv_at hl 1 rfl) ?_
  refine cV (l := l) (yM := yX10_run) (C := RX10) (As := [.int 104]) (rest := [.int 0, .ref a8]) (wr := [(a8, .inl (y 2, 1, .inr (.inl (fun _ => 0))))]) hF (c232_X10_run l a0 a1 a2 a3 a4 a5 a6 a7 z0 z1 z2 z3 z4 z5 z6 z7 z8 z9 z10 z11 z12 z13 z14 z15 z16 z17 z18) gv_RL_67 1 (by decide +kernel) rfl ⟨(Nat.le_of_ble_eq_true rfl), (Nat.le_of_ble_eq_true rfl)⟩ hl.1 rfl (Nat.le_of_ble_eq_true rfl) dL_run_4 ⟨(Nat.le_of_ble_eq_true rfl), (Nat.le_of_ble_eq_true rfl)⟩ hP hD hS (va_free (wc := [(a0, .inr (12, [.ref a1, .ref z0, .ref z1, .ref z2, .ref a3, .ref a6, .ref z3, .ref z4, .ref z5, .ref z6, .ref z7, .ref z8, .ref z9, .ref z10, .ref z11])), (a1, .inr (5, [.ref z12, .ref a2, .ref z13])), (a2, .inr (4, [.int 0, .ref z14, .ref z15, .ref z16])), (a3, .inr (7, [.ref a4, .ref a5])), (a4, .inl (y 0, 10, .inl (fun _ => (-1)))), (a5, .inl (y 0, 10, .inl (fun _ => 0))), (a6, .inr (6, [.int 0, .int 0, .int 0, .ref a7, .ref z17, .ref z18])), (a7, .inl (y 0, 10, .inl (fun _ => 0)))]) hD hS hA [0, 1, 2, 3, 4, 5, 6, 7] rfl) (fun _ h => h) [0, 1, 2, 3, 4, 5, 6, 7] [0, 1, 2, 3, 4, 5, 6, 7] [8] rfl rfl rfl rfl rfl (by decide) 0 (ci := 12) rfl rfl rfl (fun u_1 H locs hP hD hS => ?_)
  have hP : va_P D vwCl [(a8, .inl (y 2, 1, .inr (.inl (fun _ => 0)))), (a0, .inr (12, [.ref a1, .ref z0, .ref z1, .ref z2, .ref a3, .ref a6, .ref z3, .ref z4, .ref z5, .ref z6, .ref z7, .ref z8, .ref z9, .ref z10, .ref z11])), (a1, .inr (5, [.ref z12, .ref a2, .ref z13])), (a2, .inr (4, [.int 0, .ref z14, .ref z15, .ref z16])), (a3, .inr (7, [.ref a4, .ref a5])), (a4, .inl (y 0, 10, .inl (fun _ => (-1)))), (a5, .inl (y 0, 10, .inl (fun _ => 0))), (a6, .inr (6, [.int 1, .int 1, .int 0, .ref a7, .ref z17, .ref z18])), (a7, .inl (y 0, 10, .inl (fun _ => 0)))] H := hP
  have hD : va_D A [(a8, .inl (y 2, 1, .inr (.inl (fun _ => 0)))), (a0, .inr (12, [.ref a1, .ref z0, .ref z1, .ref z2, .ref a3, .ref a6, .ref z3, .ref z4, .ref z5, .ref z6, .ref z7, .ref z8, .ref z9, .ref z10, .ref z11])), (a1, .inr (5, [.ref z12, .ref a2, .ref z13])), (a2, .inr (4, [.int 0, .ref z14, .ref z15, .ref z16])), (a3, .inr (7, [.ref a4, .ref a5])), (a4, .inl (y 0, 10, .inl (fun _ => (-1)))), (a5, .inl (y 0, 10, .inl (fun _ => 0))), (a6, .inr (6, [.int 1, .int 1, .int 0, .ref a7, .ref z17, .ref z18])), (a7, .inl (y 0, 10, .inl (fun _ => 0)))] := hD
  refine W.widen (k := 0) (n := 0) (Nat.le_of_ble_eq_true rfl) (Nat.le_of_ble_eq_true rfl) ?_
  refine W.eq (g2 := F0 m 7 ls [.int 0, .int 0, .ref a8]) rfl ?_
  refine lv_i2l (v := 0) hx hb dL_run_7 (by decide) ?_
  refine va_last hx hb hK hP hD hS 0 2 rfl rfl (vp_in_nI (n := 0) (by decide) (by decide)) dL_run_8 (fun H locs hP hD hS => ?_)
  obtain ⟨hP, hD⟩ := same_l (g := (fun _ => 0)) hP hD 0 rfl (fun j _ => up_l rfl)
  have hP : va_P D vwCl [(a8, .inl (y 2, 1, .inr (.inl (fun _ => 0)))), (a0, .inr (12, [.ref a1, .ref z0, .ref z1, .ref z2, .ref a3, .ref a6, .ref z3, .ref z4, .ref z5, .ref z6, .ref z7, .ref z8, .ref z9, .ref z10, .ref z11])), (a1, .inr (5, [.ref z12, .ref a2, .ref z13])), (a2, .inr (4, [.int 0, .ref z14, .ref z15, .ref z16])), (a3, .inr (7, [.ref a4, .ref a5])), (a4, .inl (y 0, 10, .inl (fun _ => (-1)))), (a5, .inl (y 0, 10, .inl (fun _ => 0))), (a6, .inr (6, [.int 1, .int 1, .int 0, .ref a7, .ref z17, .ref z18])), (a7, .inl (y 0, 10, .inl (fun _ => 0)))] H := hP
  have hD : va_D A [(a8, .inl (y 2, 1, .inr (.inl (fun _ => 0)))), (a0, .inr (12, [.ref a1, .ref z0, .ref z1, .ref z2, .ref a3, .ref a6, .ref z3, .ref z4, .ref z5, .ref z6, .ref z7, .ref z8, .ref z9, .ref z10, .ref z11])), (a1, .inr (5, [.ref z12, .ref a2, .ref z13])), (a2, .inr (4, [.int 0, .ref z14, .ref z15, .ref z16])), (a3, .inr (7, [.ref a4, .ref a5])), (a4, .inl (y 0, 10, .inl (fun _ => (-1)))), (a5, .inl (y 0, 10, .inl (fun _ => 0))), (a6, .inr (6, [.int 1, .int 1, .int 0, .ref a7, .ref z17, .ref z18])), (a7, .inl (y 0, 10, .inl (fun _ => 0)))] := hD
  refine lv_goto (tgt := 15) hx hb dL_run_9 (by decide) ?_
  refine lv_iconst (v := 0) hx hb dL_run_15 (by decide) ?_
  exact e_i hF hr (Nat.le_of_ble_eq_true rfl) (Nat.le_of_ble_eq_true rfl) hS (qg_end hS (fun _ => 0) rfl [1, 2, 3, 4, 5, 6, 7, 8, 0] hP rfl (hD.sub [1, 2, 3, 4, 5, 6, 7, 8, 0] rfl rfl)) dL_run_16

set_option maxHeartbeats 4000000 in
set_option maxRecDepth 100000 in
theorem c236_X11_run (l : Launch) (a0 : Nat) (a1 : Nat) (z0 : Nat) (z1 : Nat) (z2 : Nat) (z3 : Nat) (z4 : Nat) (z5 : Nat) (z6 : Nat) (z7 : Nat) (z8 : Nat) (z9 : Nat) (z10 : Nat) (z11 : Nat) (z12 : Nat) : CT l (.code yX11_run cX11_run 4 (some .int)) yX11_run { frames := 5, cells := 2, slots := 20, locals := 111 } [.ref a0, .int 104] (fun y => [(a0, .inr (13, [.ref a1, .ref z0, .ref z1, .ref z2, .ref z3, .ref z4, .int 45, .ref z5, .ref z6, .ref z7, .int 0, .ref z8, .ref z9, .int 0, .int 0, .int 0, .int 0, .ref z10, .int 0, .null, .ref z11, .ref z12])), (a1, .inl (y 0, 3, .inl (fun _ => 0)))]) (fun y => [(a0, .inr (13, [.ref a1, .ref z0, .ref z1, .ref z2, .ref z3, .ref z4, .int 45, .ref z5, .ref z6, .ref z7, .int 0, .ref z8, .ref z9, .int 0, .int 0, .int 0, .int 0, .ref z10, .int 0, .null, .ref z11, .ref z12])), (a1, .inl (y 0, 3, .inl (fun _ => 0)))]) (fun u => some (.int 0)) (fun y u => [(a0, .inr (13, [.ref a1, .ref z0, .ref z1, .ref z2, .ref z3, .ref (u 0), .int 104, .ref (u 1), .ref z6, .ref z7, .int 0, .ref z8, .ref z9, .int 0, .int 0, .int 0, .int 0, .ref z10, .int 0, .null, .ref z11, .ref z12])), (a1, .inl (y 0, 3, .inl (fun _ => 0))), ((u 0), .inl (y 0, 10, .inl (fun _ => (-1)))), ((u 1), .inl (y 0, 10, .inl (fun _ => 0)))]) := by
  refine mkM (by decide) (Nat.le_of_ble_eq_true rfl) ?_
  intro p e s m args below meth c D y A ls hF hr hAe hP hD hS hl
  have hF : FX p e s m args meth c cX11_run 4 RX11 "run" D y A := hF
  obtain ⟨⟨hx, hb, hml, hown, hts⟩, hev, heh, hA, hlk, hnm⟩ := id hF
  have hK := hev.1
  have hP : va_P D vwCl [(a0, .inr (13, [.ref a1, .ref z0, .ref z1, .ref z2, .ref z3, .ref z4, .int 45, .ref z5, .ref z6, .ref z7, .int 0, .ref z8, .ref z9, .int 0, .int 0, .int 0, .int 0, .ref z10, .int 0, .null, .ref z11, .ref z12])), (a1, .inl (y 0, 3, .inl (fun _ => 0)))] s.heap := hP
  have hD : va_D A [(a0, .inr (13, [.ref a1, .ref z0, .ref z1, .ref z2, .ref z3, .ref z4, .int 45, .ref z5, .ref z6, .ref z7, .int 0, .ref z8, .ref z9, .int 0, .int 0, .int 0, .int 0, .ref z10, .int 0, .null, .ref z11, .ref z12])), (a1, .inl (y 0, 3, .inl (fun _ => 0)))] := by rw [← hAe]; exact hD.self
  have hl : lv_has ls 4 [(0, .ref a0), (1, .int 104)] := hl
  refine lv_aload_n hx hb dX11_run_0 rfl (lv_at hl 0 rfl) ?_
  refine lv_iload_n hx hb dX11_run_1 rfl (lv_at hl 1 rfl) ?_
  refine cS (l := l) (yM := yX11_sideOf) (As := [.int 104]) (rest := [.ref a0]) (wr := [(a0, .inr (13, [.ref a1, .ref z0, .ref z1, .ref z2, .ref z3, .ref z4, .int 45, .ref z5, .ref z6, .ref z7, .int 0, .ref z8, .ref z9, .int 0, .int 0, .int 0, .int 0, .ref z10, .int 0, .null, .ref z11, .ref z12])), (a1, .inl (y 0, 3, .inl (fun _ => 0)))]) hF (c39_X11_sideOf l) gs_RX11_124 1 (by decide +kernel) rfl ⟨(Nat.le_of_ble_eq_true rfl), (Nat.le_of_ble_eq_true rfl)⟩ hl.1 rfl (Nat.le_of_ble_eq_true rfl) dX11_run_2 ⟨(Nat.le_of_ble_eq_true rfl), (Nat.le_of_ble_eq_true rfl)⟩ hP hD hS (pA hA hS) (fun _ h => h) [] [] [0, 1] rfl rfl rfl rfl rfl (by decide) (fun u_1 H locs hP hD hS => ?_)
  have hP : va_P D vwCl [(a0, .inr (13, [.ref a1, .ref z0, .ref z1, .ref z2, .ref z3, .ref z4, .int 45, .ref z5, .ref z6, .ref z7, .int 0, .ref z8, .ref z9, .int 0, .int 0, .int 0, .int 0, .ref z10, .int 0, .null, .ref z11, .ref z12])), (a1, .inl (y 0, 3, .inl (fun _ => 0)))] H := hP
  have hD : va_D A [(a0, .inr (13, [.ref a1, .ref z0, .ref z1, .ref z2, .ref z3, .ref z4, .int 45, .ref z5, .ref z6, .ref z7, .int 0, .ref z8, .ref z9, .int 0, .int 0, .int 0, .int 0, .ref z10, .int 0, .null, .ref z11, .ref z12])), (a1, .inl (y 0, 3, .inl (fun _ => 0)))] := hD
  refine W.widen (k := 0) (n := 0) (Nat.le_of_ble_eq_true rfl) (Nat.le_of_ble_eq_true rfl) ?_
  refine W.eq (g2 := F0 m 5 ls [.int 1, .ref a0]) rfl ?_
  refine lv_iconst (v := 0) hx hb dX11_run_5 (by decide) ?_
  refine lv_iconst (v := 1) hx hb dX11_run_6 (by decide) ?_
  refine cS (l := l) (yM := yX11_in) (As := [.int 1, .int 0, .int 1]) (rest := [.ref a0]) (wr := [(a0, .inr (13, [.ref a1, .ref z0, .ref z1, .ref z2, .ref z3, .ref z4, .int 45, .ref z5, .ref z6, .ref z7, .int 0, .ref z8, .ref z9, .int 0, .int 0, .int 0, .int 0, .ref z10, .int 0, .null, .ref z11, .ref z12])), (a1, .inl (y 0, 3, .inl (fun _ => 0)))]) hF (c209_X11_in l) gs_RX11_78 3 (by decide +kernel) rfl ⟨(Nat.le_of_ble_eq_true rfl), (Nat.le_of_ble_eq_true rfl)⟩ hl.1 rfl (Nat.le_of_ble_eq_true rfl) dX11_run_7 ⟨(Nat.le_of_ble_eq_true rfl), (Nat.le_of_ble_eq_true rfl)⟩ hP hD hS (pA hA hS) (fun _ h => h) [] [] [0, 1] rfl rfl rfl rfl rfl (by decide) (fun u_2 H locs hP hD hS => ?_)
  have hP : va_P D vwCl [(a0, .inr (13, [.ref a1, .ref z0, .ref z1, .ref z2, .ref z3, .ref z4, .int 45, .ref z5, .ref z6, .ref z7, .int 0, .ref z8, .ref z9, .int 0, .int 0, .int 0, .int 0, .ref z10, .int 0, .null, .ref z11, .ref z12])), (a1, .inl (y 0, 3, .inl (fun _ => 0)))] H := hP
  have hD : va_D A [(a0, .inr (13, [.ref a1, .ref z0, .ref z1, .ref z2, .ref z3, .ref z4, .int 45, .ref z5, .ref z6, .ref z7, .int 0, .ref z8, .ref z9, .int 0, .int 0, .int 0, .int 0, .ref z10, .int 0, .null, .ref z11, .ref z12])), (a1, .inl (y 0, 3, .inl (fun _ => 0)))] := hD
  refine W.widen (k := 0) (n := 0) (Nat.le_of_ble_eq_true rfl) (Nat.le_of_ble_eq_true rfl) ?_
  refine W.eq (g2 := F0 m 10 ls [.int 1, .ref a0]) rfl ?_
  refine lv_if_ne (tgt := 17) hx hb dX11_run_10 (by decide) (fun _ => ?_) (fun c => absurd c (by decide))
  refine lv_iconst (v := 0) hx hb dX11_run_17 (by decide) ?_
  refine lv_iconst (v := 0) hx hb dX11_run_18 (by decide) ?_
  refine lv_iconst (v := 0) hx hb dX11_run_19 (by decide) ?_
  refine cV (l := l) (yM := yX11_fails) (C := RX11) (As := [.int 0, .int 0, .int 0]) (rest := []) (wr := [(a1, .inl (y 0, 3, .inl (fun _ => 0)))]) hF (c32_X11_fails l a0 a1 z0 z1 z2 z3 z4 z5 z6 z7 z8 z9 z10 z11 z12) gv_RX11_128 3 (by decide +kernel) rfl ⟨(Nat.le_of_ble_eq_true rfl), (Nat.le_of_ble_eq_true rfl)⟩ hl.1 rfl (Nat.le_of_ble_eq_true rfl) dX11_run_20 ⟨(Nat.le_of_ble_eq_true rfl), (Nat.le_of_ble_eq_true rfl)⟩ hP hD hS (va_free (wc := [(a0, .inr (13, [.ref a1, .ref z0, .ref z1, .ref z2, .ref z3, .ref z4, .int 45, .ref z5, .ref z6, .ref z7, .int 0, .ref z8, .ref z9, .int 0, .int 0, .int 0, .int 0, .ref z10, .int 0, .null, .ref z11, .ref z12]))]) hD hS hA [0] rfl) (fun _ h => h) [0] [0] [1] rfl rfl rfl rfl rfl (by decide) 0 (ci := 13) rfl rfl rfl (fun u_3 H locs hP hD hS => ?_)
  have hP : va_P D vwCl [(a1, .inl (y 0, 3, .inl (fun _ => 0))), (a0, .inr (13, [.ref a1, .ref z0, .ref z1, .ref z2, .ref z3, .ref z4, .int 45, .ref z5, .ref z6, .ref z7, .int 0, .ref z8, .ref z9, .int 0, .int 0, .int 0, .int 0, .ref z10, .int 0, .null, .ref z11, .ref z12]))] H := hP
  have hD : va_D A [(a1, .inl (y 0, 3, .inl (fun _ => 0))), (a0, .inr (13, [.ref a1, .ref z0, .ref z1, .ref z2, .ref z3, .ref z4, .int 45, .ref z5, .ref z6, .ref z7, .int 0, .ref z8, .ref z9, .int 0, .int 0, .int 0, .int 0, .ref z10, .int 0, .null, .ref z11, .ref z12]))] := hD
  refine W.widen (k := 0) (n := 0) (Nat.le_of_ble_eq_true rfl) (Nat.le_of_ble_eq_true rfl) ?_
  refine W.eq (g2 := F0 m 23 ls [.int 0]) rfl ?_
  refine lv_if_eq (tgt := 28) hx hb dX11_run_23 (by decide) (fun _ => ?_) (fun c => absurd (by decide) c)
  refine lv_aload_n hx hb dX11_run_28 rfl (lv_at hl 0 rfl) ?_
  refine lv_iload_n hx hb dX11_run_29 rfl (lv_at hl 1 rfl) ?_
  refine cV (l := l) (yM := yX11_begins) (C := RX11) (As := [.int 104]) (rest := []) (wr := [(a1, .inl (y 0, 3, .inl (fun _ => 0)))]) hF (c210_X11_begins l a0 a1 z0 z1 z2 z3 z4 z5 z6 z7 z8 z9 z10 z11 z12) gv_RX11_164 1 (by decide +kernel) rfl ⟨(Nat.le_of_ble_eq_true rfl), (Nat.le_of_ble_eq_true rfl)⟩ hl.1 rfl (Nat.le_of_ble_eq_true rfl) dX11_run_30 ⟨(Nat.le_of_ble_eq_true rfl), (Nat.le_of_ble_eq_true rfl)⟩ hP hD hS (va_free (wc := [(a0, .inr (13, [.ref a1, .ref z0, .ref z1, .ref z2, .ref z3, .ref z4, .int 45, .ref z5, .ref z6, .ref z7, .int 0, .ref z8, .ref z9, .int 0, .int 0, .int 0, .int 0, .ref z10, .int 0, .null, .ref z11, .ref z12]))]) hD hS hA [1] rfl) (fun _ h => h) [1] [1] [0] rfl rfl rfl rfl rfl (by decide) 1 (ci := 13) rfl rfl rfl (fun u_4 H locs hP hD hS => ?_)
  have hP : va_P D vwCl [(a1, .inl (y 0, 3, .inl (fun _ => 0))), (a0, .inr (13, [.ref a1, .ref z0, .ref z1, .ref z2, .ref z3, .ref (u_4 0), .int 104, .ref (u_4 1), .ref z6, .ref z7, .int 0, .ref z8, .ref z9, .int 0, .int 0, .int 0, .int 0, .ref z10, .int 0, .null, .ref z11, .ref z12])), ((u_4 0), .inl (y 0, 10, .inl (fun _ => (-1)))), ((u_4 1), .inl (y 0, 10, .inl (fun _ => 0)))] H := hP
  have hD : va_D A [(a1, .inl (y 0, 3, .inl (fun _ => 0))), (a0, .inr (13, [.ref a1, .ref z0, .ref z1, .ref z2, .ref z3, .ref (u_4 0), .int 104, .ref (u_4 1), .ref z6, .ref z7, .int 0, .ref z8, .ref z9, .int 0, .int 0, .int 0, .int 0, .ref z10, .int 0, .null, .ref z11, .ref z12])), ((u_4 0), .inl (y 0, 10, .inl (fun _ => (-1)))), ((u_4 1), .inl (y 0, 10, .inl (fun _ => 0)))] := hD
  refine W.widen (k := 2) (n := 20) (Nat.le_of_ble_eq_true rfl) (Nat.le_of_ble_eq_true rfl) ?_
  refine W.eq (g2 := F0 m 33 ls []) rfl ?_
  refine lv_iconst (v := 0) hx hb dX11_run_33 (by decide) ?_
  refine lv_istore_n (lv' := [(2, .int 0), (0, .ref a0), (1, .int 104)]) hx hb dX11_run_34 rfl hl (by decide) rfl (fun ls hl => ?_)
  refine lv_iload_n hx hb dX11_run_35 rfl (lv_at hl 0 rfl) ?_
  refine lv_aload_n hx hb dX11_run_36 rfl (lv_at hl 1 rfl) ?_
  refine va_get (D := D) (ci := 13) (v := .ref a1) (C := RX11) (T := TX11) (N := 22) hx hb hts inX11 hown hK hP 1 rfl rfl 0 (by decide) (hts _ wd_115) (fun _ h9 => h9) rfl dX11_run_37 ?_
  refine lv_iload_n hx hb dX11_run_40 rfl (lv_at hl 2 rfl) ?_
  refine cS (l := l) (yM := yX11_sideOf) (As := [.int 104]) (rest := [.ref a1, .int 0]) (wr := [(a1, .inl (y 0, 3, .inl (fun _ => 0))), (a0, .inr (13, [.ref a1, .ref z0, .ref z1, .ref z2, .ref z3, .ref (u_4 0), .int 104, .ref (u_4 1), .ref z6, .ref z7, .int 0, .ref z8, .ref z9, .int 0, .int 0, .int 0, .int 0, .ref z10, .int 0, .null, .ref z11, .ref z12])), ((u_4 0), .inl (y 0, 10, .inl (fun _ => (-1)))), ((u_4 1), .inl (y 0, 10, .inl (fun _ => 0)))]) hF (c39_X11_sideOf l) gs_RX11_124 1 (by decide +kernel) rfl ⟨(Nat.le_of_ble_eq_true rfl), (Nat.le_of_ble_eq_true rfl)⟩ hl.1 rfl (Nat.le_of_ble_eq_true rfl) dX11_run_41 ⟨(Nat.le_of_ble_eq_true rfl), (Nat.le_of_ble_eq_true rfl)⟩ hP hD hS (pA hA hS) (fun _ h => h) [] [] [0, 1, 2, 3] rfl rfl rfl rfl rfl (by decide) (fun u_5 H locs hP hD hS => ?_)
  have hP : va_P D vwCl [(a1, .inl (y 0, 3, .inl (fun _ => 0))), (a0, .inr (13, [.ref a1, .ref z0, .ref z1, .ref z2, .ref z3, .ref (u_4 0), .int 104, .ref (u_4 1), .ref z6, .ref z7, .int 0, .ref z8, .ref z9, .int 0, .int 0, .int 0, .int 0, .ref z10, .int 0, .null, .ref z11, .ref z12])), ((u_4 0), .inl (y 0, 10, .inl (fun _ => (-1)))), ((u_4 1), .inl (y 0, 10, .inl (fun _ => 0)))] H := hP
  have hD : va_D A [(a1, .inl (y 0, 3, .inl (fun _ => 0))), (a0, .inr (13, [.ref a1, .ref z0, .ref z1, .ref z2, .ref z3, .ref (u_4 0), .int 104, .ref (u_4 1), .ref z6, .ref z7, .int 0, .ref z8, .ref z9, .int 0, .int 0, .int 0, .int 0, .ref z10, .int 0, .null, .ref z11, .ref z12])), ((u_4 0), .inl (y 0, 10, .inl (fun _ => (-1)))), ((u_4 1), .inl (y 0, 10, .inl (fun _ => 0)))] := hD
  refine W.widen (k := 2) (n := 20) (Nat.le_of_ble_eq_true rfl) (Nat.le_of_ble_eq_true rfl) ?_
  refine W.eq (g2 := F0 m 44 ls [.int 1, .ref a1, .int 0]) rfl ?_
  refine va_iald hx hb hK hP 0 0 rfl rfl (vp_in_nI (n := 1) (by decide) (by decide)) dX11_run_44 ?_
  refine tp_i (v := 0) rfl ?_
  refine lv_icmp_ge (tgt := 93) hx hb dX11_run_45 (by decide) (fun _ => ?_) (fun c => absurd (by decide) c)
  refine lv_aload_n hx hb dX11_run_93 rfl (lv_at hl 1 rfl) ?_
  refine va_get (D := D) (ci := 13) (v := .int 0) (C := RX11) (T := TX11) (N := 22) hx hb hts inX11 hown hK hP 1 rfl rfl 10 (by decide) (hts _ wd_427) (fun _ h9 => h9) rfl dX11_run_94 ?_
  exact e_i hF hr (Nat.le_of_ble_eq_true rfl) (Nat.le_of_ble_eq_true rfl) hS (qg_end hS (adl [(u_4 0), (u_4 1)]) rfl [1, 0, 2, 3] hP rfl (hD.sub [1, 0, 2, 3] rfl rfl)) dX11_run_97

set_option maxHeartbeats 4000000 in
set_option maxRecDepth 100000 in
theorem c237_X10_run (l : Launch) (hlt : l.stackTraces = false) (a0 : Nat) (z0 : Nat) (z1 : Nat) (z2 : Nat) (z3 : Nat) (z4 : Nat) (z5 : Nat) (z6 : Nat) (z7 : Nat) (z8 : Nat) (z9 : Nat) (z10 : Nat) (z11 : Nat) (z12 : Nat) (z13 : Nat) (z14 : Nat) (p0 : Int32) (f0 : ¬ p0 = 112) (f1 : ¬ p0 = 104) : CX l (.code yX10_run cX10_run 2 (some .int)) yX10_run { frames := 7, cells := 1, slots := 6, locals := 111 } [.ref a0, .int p0] (fun y => [(a0, .inr (12, [.ref z0, .ref z1, .ref z2, .ref z3, .ref z4, .ref z5, .ref z6, .ref z7, .ref z8, .ref z9, .ref z10, .ref z11, .ref z12, .ref z13, .ref z14]))]) (fun _ => []) "java/lang/IllegalArgumentException" := by
  refine mkX (by decide) (Nat.le_of_ble_eq_true rfl) ?_
  intro p e s m args below meth c D y A ls hF htb hAe hP hD hS hl
  have hF : FX p e s m args meth c cX10_run 2 RX10 "run" D y A := hF
  obtain ⟨⟨hx, hb, hml, hown, hts⟩, hev, heh, hA, hlk, hnm⟩ := id hF
  have hK := hev.1
  have hP : va_P D vwCl [(a0, .inr (12, [.ref z0, .ref z1, .ref z2, .ref z3, .ref z4, .ref z5, .ref z6, .ref z7, .ref z8, .ref z9, .ref z10, .ref z11, .ref z12, .ref z13, .ref z14]))] s.heap := hP
  have hD : va_D (fun _ => True) [(a0, .inr (12, [.ref z0, .ref z1, .ref z2, .ref z3, .ref z4, .ref z5, .ref z6, .ref z7, .ref z8, .ref z9, .ref z10, .ref z11, .ref z12, .ref z13, .ref z14]))] := hD
  have hl : lv_has ls 2 [(0, .ref a0), (1, .int p0)] := hl
  refine lv_aload_n hx hb dX10_run_0 rfl (lv_at hl 0 rfl) ?_
  refine lv_iload_n hx hb dX10_run_1 rfl (lv_at hl 1 rfl) ?_
  exact xV (l := l) (yM := yX10_needOfferSide) (C := RX10) (As := [.int p0]) (rest := []) hF htb (c214_X10_needOfferSide l hlt a0 p0 f0 f1) gv_RX10_198 1 (by decide +kernel) rfl ⟨(Nat.le_of_ble_eq_true rfl), (Nat.le_of_ble_eq_true rfl)⟩ hl.1 rfl (Nat.le_of_ble_eq_true rfl) dX10_run_2 ⟨(Nat.le_of_ble_eq_true rfl), (Nat.le_of_ble_eq_true rfl)⟩ hP hD hS (pA hA hS) [] rfl rfl 0 (ci := 12) rfl rfl rfl ⟨(Nat.le_of_ble_eq_true rfl), (Nat.le_of_ble_eq_true rfl)⟩

set_option maxHeartbeats 4000000 in
set_option maxRecDepth 100000 in
theorem c237_L_run (l : Launch) (hlt : l.stackTraces = false) (a0 : Nat) (z0 : Nat) (z1 : Nat) (z2 : Nat) (z3 : Nat) (z4 : Nat) (z5 : Nat) (z6 : Nat) (z7 : Nat) (z8 : Nat) (z9 : Nat) (z10 : Nat) (z11 : Nat) (z12 : Nat) (z13 : Nat) (z14 : Nat) (p0 : Int32) (z15 : Nat) (f0 : ¬ p0 = 112) (f1 : ¬ p0 = 104) : CT l (.codeWith yL_run cL_run 4 (some .int) [(0, 9, 12, 13)]) yL_run { frames := 8, cells := 1, slots := 6, locals := 132 } [.ref a0, .int p0, .ref z15] (fun y => [(a0, .inr (12, [.ref z0, .ref z1, .ref z2, .ref z3, .ref z4, .ref z5, .ref z6, .ref z7, .ref z8, .ref z9, .ref z10, .ref z11, .ref z12, .ref z13, .ref z14]))]) (fun _ => []) (fun u => some (.int 1)) (fun y u => []) := by
  refine mkH (by decide) (Nat.le_of_ble_eq_true rfl) ?_
  intro p e s m args below meth c D y A ls hF htab hr hAe hP hD hS hl
  have hF : FX p e s m args meth c cL_run 4 RL "run" D y A := hF
  obtain ⟨⟨hx, hb, hml, hown, hts⟩, hev, heh, hA, hlk, hnm⟩ := id hF
  have hK := hev.1
  have hP : va_P D vwCl [(a0, .inr (12, [.ref z0, .ref z1, .ref z2, .ref z3, .ref z4, .ref z5, .ref z6, .ref z7, .ref z8, .ref z9, .ref z10, .ref z11, .ref z12, .ref z13, .ref z14]))] s.heap := hP
  have hD : va_D (fun _ => True) [(a0, .inr (12, [.ref z0, .ref z1, .ref z2, .ref z3, .ref z4, .ref z5, .ref z6, .ref z7, .ref z8, .ref z9, .ref z10, .ref z11, .ref z12, .ref z13, .ref z14]))] := hD
  have hl : lv_has ls 4 [(0, .ref a0), (1, .int p0), (2, .ref z15)] := hl
  refine lv_aload_n hx hb dL_run_0 rfl (lv_at hl 2 rfl) ?_
  refine lv_iconst (v := 0) hx hb dL_run_1 (by decide) ?_
  refine lv_aload_n hx hb dL_run_2 rfl (lv_at hl 0 rfl) ?_
  refine lv_iload_n hx hb dL_run_3 rfl (lv_at hl 1 rfl) ?_
  refine hV (wr := [(a0, .inr (12, [.ref z0, .ref z1, .ref z2, .ref z3, .ref z4, .ref z5, .ref z6, .ref z7, .ref z8, .ref z9, .ref z10, .ref z11, .ref z12, .ref z13, .ref z14]))]) (name := "java/lang/IllegalArgumentException") (E0 := "java/lang/IllegalArgumentException") (l := l) (yM := yX10_run) (C := RX10) (As := [.int p0]) (rest := [.int 0, .ref z15]) hF (c237_X10_run l hlt a0 z0 z1 z2 z3 z4 z5 z6 z7 z8 z9 z10 z11 z12 z13 z14 p0 f0 f1) gv_RL_67 1 (by decide +kernel) rfl ⟨(Nat.le_of_ble_eq_true rfl), (Nat.le_of_ble_eq_true rfl)⟩ hl.1 rfl (Nat.le_of_ble_eq_true rfl) dL_run_4 ⟨(Nat.le_of_ble_eq_true rfl), (Nat.le_of_ble_eq_true rfl)⟩ hP hD hS (pA hA hS) (fun _ _ => trivial) [0] [] [0] rfl rfl rfl rfl rfl (by decide) 0 (ci := 12) rfl rfl rfl [] ⟨0, 9, 12, 13⟩ [] htab (fun z hz => nomatch hz) (by decide) (by decide) wd_235 (by decide) (fun q9 H locs hP hD hS => ?_)
  have hP : va_P D vwCl [(a0, .inr (12, [.ref z0, .ref z1, .ref z2, .ref z3, .ref z4, .ref z5, .ref z6, .ref z7, .ref z8, .ref z9, .ref z10, .ref z11, .ref z12, .ref z13, .ref z14]))] H := hP
  have hD : va_D (fun _ => True) [(a0, .inr (12, [.ref z0, .ref z1, .ref z2, .ref z3, .ref z4, .ref z5, .ref z6, .ref z7, .ref z8, .ref z9, .ref z10, .ref z11, .ref z12, .ref z13, .ref z14]))] := hD
  refine W.widen (k := 1) (n := 6) (Nat.le_of_ble_eq_true rfl) (Nat.le_of_ble_eq_true rfl) ?_
  refine W.eq (g2 := F0 m 12 ls [.ref q9]) rfl ?_
  refine lv_astore_n (lv' := [(3, .ref q9), (0, .ref a0), (1, .int p0), (2, .ref z15)]) hx hb dL_run_12 rfl hl (by decide) rfl (fun ls hl => ?_)
  refine lv_iconst (v := 1) hx hb dL_run_13 (by decide) ?_
  exact e_i hF hr (Nat.le_of_ble_eq_true rfl) (Nat.le_of_ble_eq_true rfl) hS (qg_end hS (fun _ => 0) rfl [] hP rfl d_nil) dL_run_14

set_option maxHeartbeats 4000000 in
set_option maxRecDepth 100000 in
theorem c239_X11_run (l : Launch) (a0 : Nat) (z0 : Nat) (z1 : Nat) (z2 : Nat) (z3 : Nat) (z4 : Nat) (z5 : Nat) (z6 : Nat) (z7 : Nat) (z8 : Nat) (z9 : Nat) (z10 : Nat) (z11 : Nat) (z12 : Nat) (z13 : Nat) (p0 : Int32) (f0 : ¬ p0 = 112) (f1 : ¬ p0 = 104) : CT l (.code yX11_run cX11_run 4 (some .int)) yX11_run { frames := 5, cells := 0, slots := 0, locals := 111 } [.ref a0, .int p0] (fun y => [(a0, .inr (13, [.ref z0, .ref z1, .ref z2, .ref z3, .ref z4, .ref z5, .int 45, .ref z6, .ref z7, .ref z8, .int 0, .ref z9, .ref z10, .int 0, .int 0, .int 0, .int 0, .ref z11, .int 0, .null, .ref z12, .ref z13]))]) (fun y => [(a0, .inr (13, [.ref z0, .ref z1, .ref z2, .ref z3, .ref z4, .ref z5, .int 45, .ref z6, .ref z7, .ref z8, .int 0, .ref z9, .ref z10, .int 0, .int 0, .int 0, .int 0, .ref z11, .int 0, .null, .ref z12, .ref z13]))]) (fun u => some (.int 0)) (fun y u => [(a0, .inr (13, [.ref z0, .ref z1, .ref z2, .ref z3, .ref z4, .ref z5, .int 45, .ref z6, .ref z7, .ref z8, .int 0, .ref z9, .ref z10, .int 0, .int 0, .int 1, .int 0, .ref z11, .int 0, .null, .ref z12, .ref z13]))]) := by
  refine mkM (by decide) (Nat.le_of_ble_eq_true rfl) ?_
  intro p e s m args below meth c D y A ls hF hr hAe hP hD hS hl
  have hF : FX p e s m args meth c cX11_run 4 RX11 "run" D y A := hF
  obtain ⟨⟨hx, hb, hml, hown, hts⟩, hev, heh, hA, hlk, hnm⟩ := id hF
  have hK := hev.1
  have hP : va_P D vwCl [(a0, .inr (13, [.ref z0, .ref z1, .ref z2, .ref z3, .ref z4, .ref z5, .int 45, .ref z6, .ref z7, .ref z8, .int 0, .ref z9, .ref z10, .int 0, .int 0, .int 0, .int 0, .ref z11, .int 0, .null, .ref z12, .ref z13]))] s.heap := hP
  have hD : va_D A [(a0, .inr (13, [.ref z0, .ref z1, .ref z2, .ref z3, .ref z4, .ref z5, .int 45, .ref z6, .ref z7, .ref z8, .int 0, .ref z9, .ref z10, .int 0, .int 0, .int 0, .int 0, .ref z11, .int 0, .null, .ref z12, .ref z13]))] := by rw [← hAe]; exact hD.self
  have hl : lv_has ls 4 [(0, .ref a0), (1, .int p0)] := hl
  refine lv_aload_n hx hb dX11_run_0 rfl (lv_at hl 0 rfl) ?_
  refine lv_iload_n hx hb dX11_run_1 rfl (lv_at hl 1 rfl) ?_
  rcases Classical.em (p0 = 109) with c_1 | c_1
  · subst c_1
    refine cS (l := l) (yM := yX11_sideOf) (As := [.int 109]) (rest := [.ref a0]) (wr := [(a0, .inr (13, [.ref z0, .ref z1, .ref z2, .ref z3, .ref z4, .ref z5, .int 45, .ref z6, .ref z7, .ref z8, .int 0, .ref z9, .ref z10, .int 0, .int 0, .int 0, .int 0, .ref z11, .int 0, .null, .ref z12, .ref z13]))]) hF (c49_X11_sideOf l) gs_RX11_124 1 (by decide +kernel) rfl ⟨(Nat.le_of_ble_eq_true rfl), (Nat.le_of_ble_eq_true rfl)⟩ hl.1 rfl (Nat.le_of_ble_eq_true rfl) dX11_run_2 ⟨(Nat.le_of_ble_eq_true rfl), (Nat.le_of_ble_eq_true rfl)⟩ hP hD hS (pA hA hS) (fun _ h => h) [] [] [0] rfl rfl rfl rfl rfl (by decide) (fun u_2 H locs hP hD hS => ?_)
    have hP : va_P D vwCl [(a0, .inr (13, [.ref z0, .ref z1, .ref z2, .ref z3, .ref z4, .ref z5, .int 45, .ref z6, .ref z7, .ref z8, .int 0, .ref z9, .ref z10, .int 0, .int 0, .int 0, .int 0, .ref z11, .int 0, .null, .ref z12, .ref z13]))] H := hP
    have hD : va_D A [(a0, .inr (13, [.ref z0, .ref z1, .ref z2, .ref z3, .ref z4, .ref z5, .int 45, .ref z6, .ref z7, .ref z8, .int 0, .ref z9, .ref z10, .int 0, .int 0, .int 0, .int 0, .ref z11, .int 0, .null, .ref z12, .ref z13]))] := hD
    refine W.widen (k := 0) (n := 0) (Nat.le_of_ble_eq_true rfl) (Nat.le_of_ble_eq_true rfl) ?_
    refine W.eq (g2 := F0 m 5 ls [.int 2, .ref a0]) rfl ?_
    refine lv_iconst (v := 0) hx hb dX11_run_5 (by decide) ?_
    refine lv_iconst (v := 1) hx hb dX11_run_6 (by decide) ?_
    refine cS (l := l) (yM := yX11_in) (As := [.int 2, .int 0, .int 1]) (rest := [.ref a0]) (wr := [(a0, .inr (13, [.ref z0, .ref z1, .ref z2, .ref z3, .ref z4, .ref z5, .int 45, .ref z6, .ref z7, .ref z8, .int 0, .ref z9, .ref z10, .int 0, .int 0, .int 0, .int 0, .ref z11, .int 0, .null, .ref z12, .ref z13]))]) hF (c217_X11_in l) gs_RX11_78 3 (by decide +kernel) rfl ⟨(Nat.le_of_ble_eq_true rfl), (Nat.le_of_ble_eq_true rfl)⟩ hl.1 rfl (Nat.le_of_ble_eq_true rfl) dX11_run_7 ⟨(Nat.le_of_ble_eq_true rfl), (Nat.le_of_ble_eq_true rfl)⟩ hP hD hS (pA hA hS) (fun _ h => h) [] [] [0] rfl rfl rfl rfl rfl (by decide) (fun u_3 H locs hP hD hS => ?_)
    have hP : va_P D vwCl [(a0, .inr (13, [.ref z0, .ref z1, .ref z2, .ref z3, .ref z4, .ref z5, .int 45, .ref z6, .ref z7, .ref z8, .int 0, .ref z9, .ref z10, .int 0, .int 0, .int 0, .int 0, .ref z11, .int 0, .null, .ref z12, .ref z13]))] H := hP
    have hD : va_D A [(a0, .inr (13, [.ref z0, .ref z1, .ref z2, .ref z3, .ref z4, .ref z5, .int 45, .ref z6, .ref z7, .ref z8, .int 0, .ref z9, .ref z10, .int 0, .int 0, .int 0, .int 0, .ref z11, .int 0, .null, .ref z12, .ref z13]))] := hD
    refine W.widen (k := 0) (n := 0) (Nat.le_of_ble_eq_true rfl) (Nat.le_of_ble_eq_true rfl) ?_
    refine W.eq (g2 := F0 m 10 ls [.int 0, .ref a0]) rfl ?_
    refine lv_if_ne (tgt := 17) hx hb dX11_run_10 (by decide) (fun c => absurd (by decide) c) (fun _ => ?_)
    refine lv_iconst (v := 1) hx hb dX11_run_13 (by decide) ?_
    refine lv_goto (tgt := 18) hx hb dX11_run_14 (by decide) ?_
    refine lv_iconst (v := 0) hx hb dX11_run_18 (by decide) ?_
    refine lv_iconst (v := 0) hx hb dX11_run_19 (by decide) ?_
    refine cV (l := l) (yM := yX11_fails) (C := RX11) (As := [.int 1, .int 0, .int 0]) (rest := []) (wr := []) hF (c67_X11_fails l a0 z0 z1 z2 z3 z4 z5 z6 z7 z8 z9 z10 z11 z12 z13) gv_RX11_128 3 (by decide +kernel) rfl ⟨(Nat.le_of_ble_eq_true rfl), (Nat.le_of_ble_eq_true rfl)⟩ hl.1 rfl (Nat.le_of_ble_eq_true rfl) dX11_run_20 ⟨(Nat.le_of_ble_eq_true rfl), (Nat.le_of_ble_eq_true rfl)⟩ hP hD hS (va_free (wc := [(a0, .inr (13, [.ref z0, .ref z1, .ref z2, .ref z3, .ref z4, .ref z5, .int 45, .ref z6, .ref z7, .ref z8, .int 0, .ref z9, .ref z10, .int 0, .int 0, .int 0, .int 0, .ref z11, .int 0, .null, .ref z12, .ref z13]))]) hD hS hA [0] rfl) (fun _ h => h) [0] [0] [] rfl rfl rfl rfl rfl (by decide) 0 (ci := 13) rfl rfl rfl (fun u_4 H locs hP hD hS => ?_)
    have hP : va_P D vwCl [(a0, .inr (13, [.ref z0, .ref z1, .ref z2, .ref z3, .ref z4, .ref z5, .int 45, .ref z6, .ref z7, .ref z8, .int 0, .ref z9, .ref z10, .int 0, .int 0, .int 1, .int 0, .ref z11, .int 0, .null, .ref z12, .ref z13]))] H := hP
    have hD : va_D A [(a0, .inr (13, [.ref z0, .ref z1, .ref z2, .ref z3, .ref z4, .ref z5, .int 45, .ref z6, .ref z7, .ref z8, .int 0, .ref z9, .ref z10, .int 0, .int 0, .int 1, .int 0, .ref z11, .int 0, .null, .ref z12, .ref z13]))] := hD
    refine W.widen (k := 0) (n := 0) (Nat.le_of_ble_eq_true rfl) (Nat.le_of_ble_eq_true rfl) ?_
    refine W.eq (g2 := F0 m 23 ls [.int 1]) rfl ?_
    refine lv_if_eq (tgt := 28) hx hb dX11_run_23 (by decide) (fun c => absurd c (by decide)) (fun _ => ?_)
    refine lv_iconst (v := 0) hx hb dX11_run_26 (by decide) ?_
    exact e_i hF hr (Nat.le_of_ble_eq_true rfl) (Nat.le_of_ble_eq_true rfl) hS (qg_end hS (fun _ => 0) rfl [0] hP rfl (hD.sub [0] rfl rfl)) dX11_run_27
  · refine cS (l := l) (yM := yX11_sideOf) (As := [.int p0]) (rest := [.ref a0]) (wr := [(a0, .inr (13, [.ref z0, .ref z1, .ref z2, .ref z3, .ref z4, .ref z5, .int 45, .ref z6, .ref z7, .ref z8, .int 0, .ref z9, .ref z10, .int 0, .int 0, .int 0, .int 0, .ref z11, .int 0, .null, .ref z12, .ref z13]))]) hF (c59_X11_sideOf l p0 f0 f1 c_1) gs_RX11_124 1 (by decide +kernel) rfl ⟨(Nat.le_of_ble_eq_true rfl), (Nat.le_of_ble_eq_true rfl)⟩ hl.1 rfl (Nat.le_of_ble_eq_true rfl) dX11_run_2 ⟨(Nat.le_of_ble_eq_true rfl), (Nat.le_of_ble_eq_true rfl)⟩ hP hD hS (pA hA hS) (fun _ h => h) [] [] [0] rfl rfl rfl rfl rfl (by decide) (fun u_5 H locs hP hD hS => ?_)
    have hP : va_P D vwCl [(a0, .inr (13, [.ref z0, .ref z1, .ref z2, .ref z3, .ref z4, .ref z5, .int 45, .ref z6, .ref z7, .ref z8, .int 0, .ref z9, .ref z10, .int 0, .int 0, .int 0, .int 0, .ref z11, .int 0, .null, .ref z12, .ref z13]))] H := hP
    have hD : va_D A [(a0, .inr (13, [.ref z0, .ref z1, .ref z2, .ref z3, .ref z4, .ref z5, .int 45, .ref z6, .ref z7, .ref z8, .int 0, .ref z9, .ref z10, .int 0, .int 0, .int 0, .int 0, .ref z11, .int 0, .null, .ref z12, .ref z13]))] := hD
    refine W.widen (k := 0) (n := 0) (Nat.le_of_ble_eq_true rfl) (Nat.le_of_ble_eq_true rfl) ?_
    refine W.eq (g2 := F0 m 5 ls [.int (-1), .ref a0]) rfl ?_
    refine lv_iconst (v := 0) hx hb dX11_run_5 (by decide) ?_
    refine lv_iconst (v := 1) hx hb dX11_run_6 (by decide) ?_
    refine cS (l := l) (yM := yX11_in) (As := [.int (-1), .int 0, .int 1]) (rest := [.ref a0]) (wr := [(a0, .inr (13, [.ref z0, .ref z1, .ref z2, .ref z3, .ref z4, .ref z5, .int 45, .ref z6, .ref z7, .ref z8, .int 0, .ref z9, .ref z10, .int 0, .int 0, .int 0, .int 0, .ref z11, .int 0, .null, .ref z12, .ref z13]))]) hF (c218_X11_in l) gs_RX11_78 3 (by decide +kernel) rfl ⟨(Nat.le_of_ble_eq_true rfl), (Nat.le_of_ble_eq_true rfl)⟩ hl.1 rfl (Nat.le_of_ble_eq_true rfl) dX11_run_7 ⟨(Nat.le_of_ble_eq_true rfl), (Nat.le_of_ble_eq_true rfl)⟩ hP hD hS (pA hA hS) (fun _ h => h) [] [] [0] rfl rfl rfl rfl rfl (by decide) (fun u_6 H locs hP hD hS => ?_)
    have hP : va_P D vwCl [(a0, .inr (13, [.ref z0, .ref z1, .ref z2, .ref z3, .ref z4, .ref z5, .int 45, .ref z6, .ref z7, .ref z8, .int 0, .ref z9, .ref z10, .int 0, .int 0, .int 0, .int 0, .ref z11, .int 0, .null, .ref z12, .ref z13]))] H := hP
    have hD : va_D A [(a0, .inr (13, [.ref z0, .ref z1, .ref z2, .ref z3, .ref z4, .ref z5, .int 45, .ref z6, .ref z7, .ref z8, .int 0, .ref z9, .ref z10, .int 0, .int 0, .int 0, .int 0, .ref z11, .int 0, .null, .ref z12, .ref z13]))] := hD
    refine W.widen (k := 0) (n := 0) (Nat.le_of_ble_eq_true rfl) (Nat.le_of_ble_eq_true rfl) ?_
    refine W.eq (g2 := F0 m 10 ls [.int 0, .ref a0]) rfl ?_
    refine lv_if_ne (tgt := 17) hx hb dX11_run_10 (by decide) (fun c => absurd (by decide) c) (fun _ => ?_)
    refine lv_iconst (v := 1) hx hb dX11_run_13 (by decide) ?_
    refine lv_goto (tgt := 18) hx hb dX11_run_14 (by decide) ?_
    refine lv_iconst (v := 0) hx hb dX11_run_18 (by decide) ?_
    refine lv_iconst (v := 0) hx hb dX11_run_19 (by decide) ?_
    refine cV (l := l) (yM := yX11_fails) (C := RX11) (As := [.int 1, .int 0, .int 0]) (rest := []) (wr := []) hF (c67_X11_fails l a0 z0 z1 z2 z3 z4 z5 z6 z7 z8 z9 z10 z11 z12 z13) gv_RX11_128 3 (by decide +kernel) rfl ⟨(Nat.le_of_ble_eq_true rfl), (Nat.le_of_ble_eq_true rfl)⟩ hl.1 rfl (Nat.le_of_ble_eq_true rfl) dX11_run_20 ⟨(Nat.le_of_ble_eq_true rfl), (Nat.le_of_ble_eq_true rfl)⟩ hP hD hS (va_free (wc := [(a0, .inr (13, [.ref z0, .ref z1, .ref z2, .ref z3, .ref z4, .ref z5, .int 45, .ref z6, .ref z7, .ref z8, .int 0, .ref z9, .ref z10, .int 0, .int 0, .int 0, .int 0, .ref z11, .int 0, .null, .ref z12, .ref z13]))]) hD hS hA [0] rfl) (fun _ h => h) [0] [0] [] rfl rfl rfl rfl rfl (by decide) 0 (ci := 13) rfl rfl rfl (fun u_7 H locs hP hD hS => ?_)
    have hP : va_P D vwCl [(a0, .inr (13, [.ref z0, .ref z1, .ref z2, .ref z3, .ref z4, .ref z5, .int 45, .ref z6, .ref z7, .ref z8, .int 0, .ref z9, .ref z10, .int 0, .int 0, .int 1, .int 0, .ref z11, .int 0, .null, .ref z12, .ref z13]))] H := hP
    have hD : va_D A [(a0, .inr (13, [.ref z0, .ref z1, .ref z2, .ref z3, .ref z4, .ref z5, .int 45, .ref z6, .ref z7, .ref z8, .int 0, .ref z9, .ref z10, .int 0, .int 0, .int 1, .int 0, .ref z11, .int 0, .null, .ref z12, .ref z13]))] := hD
    refine W.widen (k := 0) (n := 0) (Nat.le_of_ble_eq_true rfl) (Nat.le_of_ble_eq_true rfl) ?_
    refine W.eq (g2 := F0 m 23 ls [.int 1]) rfl ?_
    refine lv_if_eq (tgt := 28) hx hb dX11_run_23 (by decide) (fun c => absurd c (by decide)) (fun _ => ?_)
    refine lv_iconst (v := 0) hx hb dX11_run_26 (by decide) ?_
    exact e_i hF hr (Nat.le_of_ble_eq_true rfl) (Nat.le_of_ble_eq_true rfl) hS (qg_end hS (fun _ => 0) rfl [0] hP rfl (hD.sub [0] rfl rfl)) dX11_run_27

set_option maxHeartbeats 4000000 in
set_option maxRecDepth 100000 in
theorem c240_X10_offers (l : Launch) (a0 : Nat) (a1 : Nat) (z0 : Nat) (z1 : Nat) (z2 : Nat) (z3 : Nat) (z4 : Nat) (z5 : Nat) (z6 : Nat) (z7 : Nat) (z8 : Nat) (z9 : Nat) (z10 : Nat) (z11 : Nat) (z12 : Nat) (z13 : Nat) (z14 : Nat) (z15 : Nat) (z16 : Nat) : CT l (.code yX10_offers cX10_offers 1 (some .int)) yX10_offers { frames := 0, cells := 0, slots := 0, locals := 0 } [.ref a0] (fun y => [(a0, .inr (12, [.ref z0, .ref z1, .ref z2, .ref z3, .ref z4, .ref a1, .ref z5, .ref z6, .ref z7, .ref z8, .ref z9, .ref z10, .ref z11, .ref z12, .ref z13])), (a1, .inr (6, [.int 0, .int 0, .int 0, .ref z14, .ref z15, .ref z16]))]) (fun _ => []) (fun u => some (.int 0)) (fun y u => []) := by
  refine mkM (by decide) (Nat.le_of_ble_eq_true rfl) ?_
  intro p e s m args below meth c D y A ls hF hr hAe hP hD hS hl
  have hF : FX p e s m args meth c cX10_offers 1 RX10 "offers" D y A := hF
  obtain ⟨⟨hx, hb, hml, hown, hts⟩, hev, heh, hA, hlk, hnm⟩ := id hF
  have hK := hev.1
  have hP : va_P D vwCl [(a0, .inr (12, [.ref z0, .ref z1, .ref z2, .ref z3, .ref z4, .ref a1, .ref z5, .ref z6, .ref z7, .ref z8, .ref z9, .ref z10, .ref z11, .ref z12, .ref z13])), (a1, .inr (6, [.int 0, .int 0, .int 0, .ref z14, .ref z15, .ref z16]))] s.heap := hP
  have hD : va_D (fun _ => True) [(a0, .inr (12, [.ref z0, .ref z1, .ref z2, .ref z3, .ref z4, .ref a1, .ref z5, .ref z6, .ref z7, .ref z8, .ref z9, .ref z10, .ref z11, .ref z12, .ref z13])), (a1, .inr (6, [.int 0, .int 0, .int 0, .ref z14, .ref z15, .ref z16]))] := hD
  have hl : lv_has ls 1 [(0, .ref a0)] := hl
  refine lv_aload_n hx hb dX10_offers_0 rfl (lv_at hl 0 rfl) ?_
  refine va_get (D := D) (ci := 12) (v := .ref a1) (C := RX10) (T := TX10) (N := 15) hx hb hts inX10 hown hK hP 0 rfl rfl 5 (by decide) (hts _ wd_57) (fun _ h9 => h9) rfl dX10_offers_1 ?_
  refine va_getN (D := D) (ci := 6) (v := .int 0) (C := RX4) (T := TX4) (N := 6) hx hb hts inX4 hown hK hP 1 rfl rfl 2 (by decide) (va_Nw.use (A := args) rfl (hev.2.1 (RX10, 242, RX4, "made", "I") (List.mem_of_getElem? (i := 17) rfl))) (fun _ h9 => h9) rfl dX10_offers_4 ?_
  exact e_i hF hr (Nat.le_of_ble_eq_true rfl) (Nat.le_of_ble_eq_true rfl) hS (qg_end hS (fun _ => 0) rfl [] hP rfl d_nil) dX10_offers_7

set_option maxHeartbeats 4000000 in
set_option maxRecDepth 100000 in
theorem c241_X11_offers_ (l : Launch) (a0 : Nat) (z0 : Nat) (z1 : Nat) (z2 : Nat) (z3 : Nat) (z4 : Nat) (z5 : Nat) (z6 : Nat) (z7 : Nat) (z8 : Nat) (z9 : Nat) (z10 : Nat) (z11 : Nat) (z12 : Nat) (z13 : Nat) : CT l (.code yX11_offers_ cX11_offers_ 1 (some .int)) yX11_offers_ { frames := 0, cells := 0, slots := 0, locals := 0 } [.ref a0] (fun y => [(a0, .inr (13, [.ref z0, .ref z1, .ref z2, .ref z3, .ref z4, .ref z5, .int 45, .ref z6, .ref z7, .ref z8, .int 0, .ref z9, .ref z10, .int 0, .int 0, .int 0, .int 0, .ref z11, .int 0, .null, .ref z12, .ref z13]))]) (fun y => [(a0, .inr (13, [.ref z0, .ref z1, .ref z2, .ref z3, .ref z4, .ref z5, .int 45, .ref z6, .ref z7, .ref z8, .int 0, .ref z9, .ref z10, .int 0, .int 0, .int 0, .int 0, .ref z11, .int 0, .null, .ref z12, .ref z13]))]) (fun u => some (.int 0)) (fun y u => [(a0, .inr (13, [.ref z0, .ref z1, .ref z2, .ref z3, .ref z4, .ref z5, .int 45, .ref z6, .ref z7, .ref z8, .int 0, .ref z9, .ref z10, .int 0, .int 0, .int 0, .int 0, .ref z11, .int 0, .null, .ref z12, .ref z13]))]) := by
  refine mkM (by decide) (Nat.le_of_ble_eq_true rfl) ?_
  intro p e s m args below meth c D y A ls hF hr hAe hP hD hS hl
  have hF : FX p e s m args meth c cX11_offers_ 1 RX11 "offers" D y A := hF
  obtain ⟨⟨hx, hb, hml, hown, hts⟩, hev, heh, hA, hlk, hnm⟩ := id hF
  have hK := hev.1
  have hP : va_P D vwCl [(a0, .inr (13, [.ref z0, .ref z1, .ref z2, .ref z3, .ref z4, .ref z5, .int 45, .ref z6, .ref z7, .ref z8, .int 0, .ref z9, .ref z10, .int 0, .int 0, .int 0, .int 0, .ref z11, .int 0, .null, .ref z12, .ref z13]))] s.heap := hP
  have hD : va_D A [(a0, .inr (13, [.ref z0, .ref z1, .ref z2, .ref z3, .ref z4, .ref z5, .int 45, .ref z6, .ref z7, .ref z8, .int 0, .ref z9, .ref z10, .int 0, .int 0, .int 0, .int 0, .ref z11, .int 0, .null, .ref z12, .ref z13]))] := by rw [← hAe]; exact hD.self
  have hl : lv_has ls 1 [(0, .ref a0)] := hl
  refine lv_aload_n hx hb dX11_offers__0 rfl (lv_at hl 0 rfl) ?_
  refine lv_iconst (v := 0) hx hb dX11_offers__1 (by decide) ?_
  refine va_put (D := D) (ci := 13) (v := .int 0) (ty := .int) (C := RX11) (T := TX11) (N := 22) hx hb hts inX11 tyX11 tyX11_ok nmX11 hown hK hP hD hS 0 rfl rfl 15 (by decide) (hts _ wd_216) (fun _ h9 => h9) rfl (by decide +kernel) rfl rfl (Nat.le_of_ble_eq_true rfl) dX11_offers__2 (fun H locs hP hD hS => ?_)
  have hP : va_P D vwCl [(a0, .inr (13, [.ref z0, .ref z1, .ref z2, .ref z3, .ref z4, .ref z5, .int 45, .ref z6, .ref z7, .ref z8, .int 0, .ref z9, .ref z10, .int 0, .int 0, .int 0, .int 0, .ref z11, .int 0, .null, .ref z12, .ref z13]))] H := hP
  have hD : va_D A [(a0, .inr (13, [.ref z0, .ref z1, .ref z2, .ref z3, .ref z4, .ref z5, .int 45, .ref z6, .ref z7, .ref z8, .int 0, .ref z9, .ref z10, .int 0, .int 0, .int 0, .int 0, .ref z11, .int 0, .null, .ref z12, .ref z13]))] := hD
  refine lv_aload_n hx hb dX11_offers__5 rfl (lv_at hl 0 rfl) ?_
  refine va_get (D := D) (ci := 13) (v := .int 0) (C := RX11) (T := TX11) (N := 22) hx hb hts inX11 hown hK hP 0 rfl rfl 10 (by decide) (hts _ wd_427) (fun _ h9 => h9) rfl dX11_offers__6 ?_
  exact e_i hF hr (Nat.le_of_ble_eq_true rfl) (Nat.le_of_ble_eq_true rfl) hS (qg_end hS (fun _ => 0) rfl [0] hP rfl (hD.sub [0] rfl rfl)) dX11_offers__9

set_option maxHeartbeats 4000000 in
set_option maxRecDepth 100000 in
theorem c242_X10_needOfferIndex (l : Launch) (hlt : l.stackTraces = false) (a0 : Nat) (a1 : Nat) (z0 : Nat) (z1 : Nat) (z2 : Nat) (z3 : Nat) (z4 : Nat) (z5 : Nat) (z6 : Nat) (z7 : Nat) (z8 : Nat) (z9 : Nat) (z10 : Nat) (z11 : Nat) (z12 : Nat) (z13 : Nat) (z14 : Nat) (z15 : Nat) (z16 : Nat) (p0 : Int32) : CX l (.code yX10_needOfferIndex cX10_needOfferIndex 2 none) yX10_needOfferIndex { frames := 6, cells := 1, slots := 6, locals := 90 } [.ref a0, .int p0] (fun y => [(a0, .inr (12, [.ref z0, .ref z1, .ref z2, .ref z3, .ref z4, .ref a1, .ref z5, .ref z6, .ref z7, .ref z8, .ref z9, .ref z10, .ref z11, .ref z12, .ref z13])), (a1, .inr (6, [.int 0, .int 0, .int 0, .ref z14, .ref z15, .ref z16]))]) (fun _ => []) "java/lang/IndexOutOfBoundsException" := by
  refine mkX (by decide) (Nat.le_of_ble_eq_true rfl) ?_
  intro p e s m args below meth c D y A ls hF htb hAe hP hD hS hl
  have hF : FX p e s m args meth c cX10_needOfferIndex 2 RX10 "needOfferIndex" D y A := hF
  obtain ⟨⟨hx, hb, hml, hown, hts⟩, hev, heh, hA, hlk, hnm⟩ := id hF
  have hK := hev.1
  have hP : va_P D vwCl [(a0, .inr (12, [.ref z0, .ref z1, .ref z2, .ref z3, .ref z4, .ref a1, .ref z5, .ref z6, .ref z7, .ref z8, .ref z9, .ref z10, .ref z11, .ref z12, .ref z13])), (a1, .inr (6, [.int 0, .int 0, .int 0, .ref z14, .ref z15, .ref z16]))] s.heap := hP
  have hD : va_D (fun _ => True) [(a0, .inr (12, [.ref z0, .ref z1, .ref z2, .ref z3, .ref z4, .ref a1, .ref z5, .ref z6, .ref z7, .ref z8, .ref z9, .ref z10, .ref z11, .ref z12, .ref z13])), (a1, .inr (6, [.int 0, .int 0, .int 0, .ref z14, .ref z15, .ref z16]))] := hD
  have hl : lv_has ls 2 [(0, .ref a0), (1, .int p0)] := hl
  refine lv_iload_n hx hb dX10_needOfferIndex_0 rfl (lv_at hl 1 rfl) ?_
  refine lv_if_lt (tgt := 15) hx hb dX10_needOfferIndex_1 (by decide) (fun c_1 => ?_) (fun c_1 => ?_)
  · exact th_W (text := "no such offer") hF htb hlt (by decide) wd_316 wd_317 (List.mem_of_getElem? (i := 15) rfl) exg4 exf4 exo4 hS hl.1 (Nat.le_of_ble_eq_true rfl) ⟨(Nat.le_of_ble_eq_true rfl), (Nat.le_of_ble_eq_true rfl)⟩ ⟨(Nat.le_of_ble_eq_true rfl), (Nat.le_of_ble_eq_true rfl)⟩ ⟨(Nat.le_of_ble_eq_true rfl), (Nat.le_of_ble_eq_true rfl)⟩ dX10_needOfferIndex_15 dX10_needOfferIndex_18 dX10_needOfferIndex_19 dX10_needOfferIndex_22 dX10_needOfferIndex_25
  · refine lv_iload_n hx hb dX10_needOfferIndex_4 rfl (lv_at hl 1 rfl) ?_
    refine lv_aload_n hx hb dX10_needOfferIndex_5 rfl (lv_at hl 0 rfl) ?_
    refine va_get (D := D) (ci := 12) (v := .ref a1) (C := RX10) (T := TX10) (N := 15) hx hb hts inX10 hown hK hP 0 rfl rfl 5 (by decide) (hts _ wd_57) (fun _ h9 => h9) rfl dX10_needOfferIndex_6 ?_
    refine va_getN (D := D) (ci := 6) (v := .int 0) (C := RX4) (T := TX4) (N := 6) hx hb hts inX4 hown hK hP 1 rfl rfl 2 (by decide) (va_Nw.use (A := args) rfl (hev.2.1 (RX10, 242, RX4, "made", "I") (List.mem_of_getElem? (i := 17) rfl))) (fun _ h9 => h9) rfl dX10_needOfferIndex_9 ?_
    refine lv_icmp_lt (tgt := 26) hx hb dX10_needOfferIndex_12 (by decide) (fun c => absurd c c_1) (fun _ => ?_)
    exact th_W (text := "no such offer") hF htb hlt (by decide) wd_316 wd_317 (List.mem_of_getElem? (i := 15) rfl) exg4 exf4 exo4 hS hl.1 (Nat.le_of_ble_eq_true rfl) ⟨(Nat.le_of_ble_eq_true rfl), (Nat.le_of_ble_eq_true rfl)⟩ ⟨(Nat.le_of_ble_eq_true rfl), (Nat.le_of_ble_eq_true rfl)⟩ ⟨(Nat.le_of_ble_eq_true rfl), (Nat.le_of_ble_eq_true rfl)⟩ dX10_needOfferIndex_15 dX10_needOfferIndex_18 dX10_needOfferIndex_19 dX10_needOfferIndex_22 dX10_needOfferIndex_25

set_option maxHeartbeats 4000000 in
set_option maxRecDepth 100000 in
theorem c242_X10_offerAt (l : Launch) (hlt : l.stackTraces = false) (a0 : Nat) (a1 : Nat) (z0 : Nat) (z1 : Nat) (z2 : Nat) (z3 : Nat) (z4 : Nat) (z5 : Nat) (z6 : Nat) (z7 : Nat) (z8 : Nat) (z9 : Nat) (z10 : Nat) (z11 : Nat) (z12 : Nat) (z13 : Nat) (z14 : Nat) (z15 : Nat) (z16 : Nat) (p0 : Int32) : CX l (.code yX10_offerAt cX10_offerAt 2 (some .int)) yX10_offerAt { frames := 7, cells := 1, slots := 6, locals := 111 } [.ref a0, .int p0] (fun y => [(a0, .inr (12, [.ref z0, .ref z1, .ref z2, .ref z3, .ref z4, .ref a1, .ref z5, .ref z6, .ref z7, .ref z8, .ref z9, .ref z10, .ref z11, .ref z12, .ref z13])), (a1, .inr (6, [.int 0, .int 0, .int 0, .ref z14, .ref z15, .ref z16]))]) (fun _ => []) "java/lang/IndexOutOfBoundsException" := by
  refine mkX (by decide) (Nat.le_of_ble_eq_true rfl) ?_
  intro p e s m args below meth c D y A ls hF htb hAe hP hD hS hl
  have hF : FX p e s m args meth c cX10_offerAt 2 RX10 "offerAt" D y A := hF
  obtain ⟨⟨hx, hb, hml, hown, hts⟩, hev, heh, hA, hlk, hnm⟩ := id hF
  have hK := hev.1
  have hP : va_P D vwCl [(a0, .inr (12, [.ref z0, .ref z1, .ref z2, .ref z3, .ref z4, .ref a1, .ref z5, .ref z6, .ref z7, .ref z8, .ref z9, .ref z10, .ref z11, .ref z12, .ref z13])), (a1, .inr (6, [.int 0, .int 0, .int 0, .ref z14, .ref z15, .ref z16]))] s.heap := hP
  have hD : va_D (fun _ => True) [(a0, .inr (12, [.ref z0, .ref z1, .ref z2, .ref z3, .ref z4, .ref a1, .ref z5, .ref z6, .ref z7, .ref z8, .ref z9, .ref z10, .ref z11, .ref z12, .ref z13])), (a1, .inr (6, [.int 0, .int 0, .int 0, .ref z14, .ref z15, .ref z16]))] := hD
  have hl : lv_has ls 2 [(0, .ref a0), (1, .int p0)] := hl
  refine lv_aload_n hx hb dX10_offerAt_0 rfl (lv_at hl 0 rfl) ?_
  refine lv_iload_n hx hb dX10_offerAt_1 rfl (lv_at hl 1 rfl) ?_
  exact xV (l := l) (yM := yX10_needOfferIndex) (C := RX10) (As := [.int p0]) (rest := []) hF htb (c242_X10_needOfferIndex l hlt a0 a1 z0 z1 z2 z3 z4 z5 z6 z7 z8 z9 z10 z11 z12 z13 z14 z15 z16 p0) gv_RX10_245 1 (by decide +kernel) rfl ⟨(Nat.le_of_ble_eq_true rfl), (Nat.le_of_ble_eq_true rfl)⟩ hl.1 rfl (Nat.le_of_ble_eq_true rfl) dX10_offerAt_2 ⟨(Nat.le_of_ble_eq_true rfl), (Nat.le_of_ble_eq_true rfl)⟩ hP hD hS (pA hA hS) [0, 1] rfl rfl 0 (ci := 12) rfl rfl rfl ⟨(Nat.le_of_ble_eq_true rfl), (Nat.le_of_ble_eq_true rfl)⟩

set_option maxHeartbeats 4000000 in
set_option maxRecDepth 100000 in
theorem c242_L_offerAt (l : Launch) (hlt : l.stackTraces = false) (a0 : Nat) (a1 : Nat) (z0 : Nat) (z1 : Nat) (z2 : Nat) (z3 : Nat) (z4 : Nat) (z5 : Nat) (z6 : Nat) (z7 : Nat) (z8 : Nat) (z9 : Nat) (z10 : Nat) (z11 : Nat) (z12 : Nat) (z13 : Nat) (z14 : Nat) (z15 : Nat) (z16 : Nat) (p0 : Int32) (z17 : Nat) : CT l (.codeWith yL_offerAt cL_offerAt 4 (some .int) [(0, 9, 12, 36)]) yL_offerAt { frames := 8, cells := 1, slots := 6, locals := 132 } [.ref a0, .int p0, .ref z17] (fun y => [(a0, .inr (12, [.ref z0, .ref z1, .ref z2, .ref z3, .ref z4, .ref a1, .ref z5, .ref z6, .ref z7, .ref z8, .ref z9, .ref z10, .ref z11, .ref z12, .ref z13])), (a1, .inr (6, [.int 0, .int 0, .int 0, .ref z14, .ref z15, .ref z16]))]) (fun _ => []) (fun u => some (.int 1)) (fun y u => []) := by
  refine mkH (by decide) (Nat.le_of_ble_eq_true rfl) ?_
  intro p e s m args below meth c D y A ls hF htab hr hAe hP hD hS hl
  have hF : FX p e s m args meth c cL_offerAt 4 RL "offerAt" D y A := hF
  obtain ⟨⟨hx, hb, hml, hown, hts⟩, hev, heh, hA, hlk, hnm⟩ := id hF
  have hK := hev.1
  have hP : va_P D vwCl [(a0, .inr (12, [.ref z0, .ref z1, .ref z2, .ref z3, .ref z4, .ref a1, .ref z5, .ref z6, .ref z7, .ref z8, .ref z9, .ref z10, .ref z11, .ref z12, .ref z13])), (a1, .inr (6, [.int 0, .int 0, .int 0, .ref z14, .ref z15, .ref z16]))] s.heap := hP
  have hD : va_D (fun _ => True) [(a0, .inr (12, [.ref z0, .ref z1, .ref z2, .ref z3, .ref z4, .ref a1, .ref z5, .ref z6, .ref z7, .ref z8, .ref z9, .ref z10, .ref z11, .ref z12, .ref z13])), (a1, .inr (6, [.int 0, .int 0, .int 0, .ref z14, .ref z15, .ref z16]))] := hD
  have hl : lv_has ls 4 [(0, .ref a0), (1, .int p0), (2, .ref z17)] := hl
  refine lv_aload_n hx hb dL_offerAt_0 rfl (lv_at hl 2 rfl) ?_
  refine lv_iconst (v := 0) hx hb dL_offerAt_1 (by decide) ?_
  refine lv_aload_n hx hb dL_offerAt_2 rfl (lv_at hl 0 rfl) ?_
  refine lv_iload_n hx hb dL_offerAt_3 rfl (lv_at hl 1 rfl) ?_
  refine hV (wr := [(a0, .inr (12, [.ref z0, .ref z1, .ref z2, .ref z3, .ref z4, .ref a1, .ref z5, .ref z6, .ref z7, .ref z8, .ref z9, .ref z10, .ref z11, .ref z12, .ref z13])), (a1, .inr (6, [.int 0, .int 0, .int 0, .ref z14, .ref z15, .ref z16]))]) (name := "java/lang/IndexOutOfBoundsException") (E0 := "java/lang/IndexOutOfBoundsException") (l := l) (yM := yX10_offerAt) (C := RX10) (As := [.int p0]) (rest := [.int 0, .ref z17]) hF (c242_X10_offerAt l hlt a0 a1 z0 z1 z2 z3 z4 z5 z6 z7 z8 z9 z10 z11 z12 z13 z14 z15 z16 p0) gv_RL_70 1 (by decide +kernel) rfl ⟨(Nat.le_of_ble_eq_true rfl), (Nat.le_of_ble_eq_true rfl)⟩ hl.1 rfl (Nat.le_of_ble_eq_true rfl) dL_offerAt_4 ⟨(Nat.le_of_ble_eq_true rfl), (Nat.le_of_ble_eq_true rfl)⟩ hP hD hS (pA hA hS) (fun _ _ => trivial) [0, 1] [] [0, 1] rfl rfl rfl rfl rfl (by decide) 0 (ci := 12) rfl rfl rfl [] ⟨0, 9, 12, 36⟩ [] htab (fun z hz => nomatch hz) (by decide) (by decide) wd_322 (by decide) (fun q9 H locs hP hD hS => ?_)
  have hP : va_P D vwCl [(a0, .inr (12, [.ref z0, .ref z1, .ref z2, .ref z3, .ref z4, .ref a1, .ref z5, .ref z6, .ref z7, .ref z8, .ref z9, .ref z10, .ref z11, .ref z12, .ref z13])), (a1, .inr (6, [.int 0, .int 0, .int 0, .ref z14, .ref z15, .ref z16]))] H := hP
  have hD : va_D (fun _ => True) [(a0, .inr (12, [.ref z0, .ref z1, .ref z2, .ref z3, .ref z4, .ref a1, .ref z5, .ref z6, .ref z7, .ref z8, .ref z9, .ref z10, .ref z11, .ref z12, .ref z13])), (a1, .inr (6, [.int 0, .int 0, .int 0, .ref z14, .ref z15, .ref z16]))] := hD
  refine W.widen (k := 1) (n := 6) (Nat.le_of_ble_eq_true rfl) (Nat.le_of_ble_eq_true rfl) ?_
  refine W.eq (g2 := F0 m 12 ls [.ref q9]) rfl ?_
  refine lv_astore_n (lv' := [(3, .ref q9), (0, .ref a0), (1, .int p0), (2, .ref z17)]) hx hb dL_offerAt_12 rfl hl (by decide) rfl (fun ls hl => ?_)
  refine lv_iconst (v := 1) hx hb dL_offerAt_13 (by decide) ?_
  exact e_i hF hr (Nat.le_of_ble_eq_true rfl) (Nat.le_of_ble_eq_true rfl) hS (qg_end hS (fun _ => 0) rfl [] hP rfl d_nil) dL_offerAt_14

set_option maxHeartbeats 4000000 in
set_option maxRecDepth 100000 in
theorem c245_X11_offerAt (l : Launch) (a0 : Nat) (z0 : Nat) (z1 : Nat) (z2 : Nat) (z3 : Nat) (z4 : Nat) (z5 : Nat) (z6 : Nat) (z7 : Nat) (z8 : Nat) (z9 : Nat) (z10 : Nat) (z11 : Nat) (z12 : Nat) (z13 : Nat) (p0 : Int32) : CT l (.code yX11_offerAt cX11_offerAt 2 (some .int)) yX11_offerAt { frames := 1, cells := 0, slots := 0, locals := 23 } [.ref a0, .int p0] (fun y => [(a0, .inr (13, [.ref z0, .ref z1, .ref z2, .ref z3, .ref z4, .ref z5, .int 45, .ref z6, .ref z7, .ref z8, .int 0, .ref z9, .ref z10, .int 0, .int 0, .int 0, .int 0, .ref z11, .int 0, .null, .ref z12, .ref z13]))]) (fun y => [(a0, .inr (13, [.ref z0, .ref z1, .ref z2, .ref z3, .ref z4, .ref z5, .int 45, .ref z6, .ref z7, .ref z8, .int 0, .ref z9, .ref z10, .int 0, .int 0, .int 0, .int 0, .ref z11, .int 0, .null, .ref z12, .ref z13]))]) (fun u => some (.int 0)) (fun y u => [(a0, .inr (13, [.ref z0, .ref z1, .ref z2, .ref z3, .ref z4, .ref z5, .int 45, .ref z6, .ref z7, .ref z8, .int 0, .ref z9, .ref z10, .int 0, .int 0, .int 1, .int 0, .ref z11, .int 0, .null, .ref z12, .ref z13]))]) := by
  refine mkM (by decide) (Nat.le_of_ble_eq_true rfl) ?_
  intro p e s m args below meth c D y A ls hF hr hAe hP hD hS hl
  have hF : FX p e s m args meth c cX11_offerAt 2 RX11 "offerAt" D y A := hF
  obtain ⟨⟨hx, hb, hml, hown, hts⟩, hev, heh, hA, hlk, hnm⟩ := id hF
  have hK := hev.1
  have hP : va_P D vwCl [(a0, .inr (13, [.ref z0, .ref z1, .ref z2, .ref z3, .ref z4, .ref z5, .int 45, .ref z6, .ref z7, .ref z8, .int 0, .ref z9, .ref z10, .int 0, .int 0, .int 0, .int 0, .ref z11, .int 0, .null, .ref z12, .ref z13]))] s.heap := hP
  have hD : va_D A [(a0, .inr (13, [.ref z0, .ref z1, .ref z2, .ref z3, .ref z4, .ref z5, .int 45, .ref z6, .ref z7, .ref z8, .int 0, .ref z9, .ref z10, .int 0, .int 0, .int 0, .int 0, .ref z11, .int 0, .null, .ref z12, .ref z13]))] := by rw [← hAe]; exact hD.self
  have hl : lv_has ls 2 [(0, .ref a0), (1, .int p0)] := hl
  refine lv_aload_n hx hb dX11_offerAt_0 rfl (lv_at hl 0 rfl) ?_
  refine lv_iload_n hx hb dX11_offerAt_1 rfl (lv_at hl 1 rfl) ?_
  refine lv_iconst (v := 0) hx hb dX11_offerAt_2 (by decide) ?_
  refine lv_aload_n hx hb dX11_offerAt_3 rfl (lv_at hl 0 rfl) ?_
  refine va_get (D := D) (ci := 13) (v := .int 0) (C := RX11) (T := TX11) (N := 22) hx hb hts inX11 hown hK hP 0 rfl rfl 10 (by decide) (hts _ wd_427) (fun _ h9 => h9) rfl dX11_offerAt_4 ?_
  refine lv_iconst (v := 1) hx hb dX11_offerAt_7 (by decide) ?_
  refine lv_isub hx hb dX11_offerAt_8 ?_
  refine tp_i (v := (-1)) (by decide) ?_
  refine cS (l := l) (yM := yX11_in) (As := [.int p0, .int 0, .int (-1)]) (rest := [.ref a0]) (wr := [(a0, .inr (13, [.ref z0, .ref z1, .ref z2, .ref z3, .ref z4, .ref z5, .int 45, .ref z6, .ref z7, .ref z8, .int 0, .ref z9, .ref z10, .int 0, .int 0, .int 0, .int 0, .ref z11, .int 0, .null, .ref z12, .ref z13]))]) hF (c86_X11_in l p0) gs_RX11_78 3 (by decide +kernel) rfl ⟨(Nat.le_of_ble_eq_true rfl), (Nat.le_of_ble_eq_true rfl)⟩ hl.1 rfl (Nat.le_of_ble_eq_true rfl) dX11_offerAt_9 ⟨(Nat.le_of_ble_eq_true rfl), (Nat.le_of_ble_eq_true rfl)⟩ hP hD hS (pA hA hS) (fun _ h => h) [] [] [0] rfl rfl rfl rfl rfl (by decide) (fun u_1 H locs hP hD hS => ?_)
  have hP : va_P D vwCl [(a0, .inr (13, [.ref z0, .ref z1, .ref z2, .ref z3, .ref z4, .ref z5, .int 45, .ref z6, .ref z7, .ref z8, .int 0, .ref z9, .ref z10, .int 0, .int 0, .int 0, .int 0, .ref z11, .int 0, .null, .ref z12, .ref z13]))] H := hP
  have hD : va_D A [(a0, .inr (13, [.ref z0, .ref z1, .ref z2, .ref z3, .ref z4, .ref z5, .int 45, .ref z6, .ref z7, .ref z8, .int 0, .ref z9, .ref z10, .int 0, .int 0, .int 0, .int 0, .ref z11, .int 0, .null, .ref z12, .ref z13]))] := hD
  refine W.widen (k := 0) (n := 0) (Nat.le_of_ble_eq_true rfl) (Nat.le_of_ble_eq_true rfl) ?_
  refine W.eq (g2 := F0 m 12 ls [.int 0, .ref a0]) rfl ?_
  refine lv_if_ne (tgt := 19) hx hb dX11_offerAt_12 (by decide) (fun c => absurd (by decide) c) (fun _ => ?_)
  refine lv_iconst (v := 1) hx hb dX11_offerAt_15 (by decide) ?_
  refine lv_goto (tgt := 20) hx hb dX11_offerAt_16 (by decide) ?_
  refine lv_iconst (v := 0) hx hb dX11_offerAt_20 (by decide) ?_
  refine lv_iconst (v := 0) hx hb dX11_offerAt_21 (by decide) ?_
  refine cV (l := l) (yM := yX11_fails) (C := RX11) (As := [.int 1, .int 0, .int 0]) (rest := []) (wr := []) hF (c67_X11_fails l a0 z0 z1 z2 z3 z4 z5 z6 z7 z8 z9 z10 z11 z12 z13) gv_RX11_128 3 (by decide +kernel) rfl ⟨(Nat.le_of_ble_eq_true rfl), (Nat.le_of_ble_eq_true rfl)⟩ hl.1 rfl (Nat.le_of_ble_eq_true rfl) dX11_offerAt_22 ⟨(Nat.le_of_ble_eq_true rfl), (Nat.le_of_ble_eq_true rfl)⟩ hP hD hS (va_free (wc := [(a0, .inr (13, [.ref z0, .ref z1, .ref z2, .ref z3, .ref z4, .ref z5, .int 45, .ref z6, .ref z7, .ref z8, .int 0, .ref z9, .ref z10, .int 0, .int 0, .int 0, .int 0, .ref z11, .int 0, .null, .ref z12, .ref z13]))]) hD hS hA [0] rfl) (fun _ h => h) [0] [0] [] rfl rfl rfl rfl rfl (by decide) 0 (ci := 13) rfl rfl rfl (fun u_2 H locs hP hD hS => ?_)
  have hP : va_P D vwCl [(a0, .inr (13, [.ref z0, .ref z1, .ref z2, .ref z3, .ref z4, .ref z5, .int 45, .ref z6, .ref z7, .ref z8, .int 0, .ref z9, .ref z10, .int 0, .int 0, .int 1, .int 0, .ref z11, .int 0, .null, .ref z12, .ref z13]))] H := hP
  have hD : va_D A [(a0, .inr (13, [.ref z0, .ref z1, .ref z2, .ref z3, .ref z4, .ref z5, .int 45, .ref z6, .ref z7, .ref z8, .int 0, .ref z9, .ref z10, .int 0, .int 0, .int 1, .int 0, .ref z11, .int 0, .null, .ref z12, .ref z13]))] := hD
  refine W.widen (k := 0) (n := 0) (Nat.le_of_ble_eq_true rfl) (Nat.le_of_ble_eq_true rfl) ?_
  refine W.eq (g2 := F0 m 25 ls [.int 1]) rfl ?_
  refine lv_if_eq (tgt := 32) hx hb dX11_offerAt_25 (by decide) (fun c => absurd c (by decide)) (fun _ => ?_)
  refine lv_iconst (v := 0) hx hb dX11_offerAt_28 (by decide) ?_
  refine lv_goto (tgt := 38) hx hb dX11_offerAt_29 (by decide) ?_
  exact e_i hF hr (Nat.le_of_ble_eq_true rfl) (Nat.le_of_ble_eq_true rfl) hS (qg_end hS (fun _ => 0) rfl [0] hP rfl (hD.sub [0] rfl rfl)) dX11_offerAt_38

set_option maxHeartbeats 4000000 in
set_option maxRecDepth 100000 in
theorem c246_X10_resultAt (l : Launch) (hlt : l.stackTraces = false) (a0 : Nat) (a1 : Nat) (z0 : Nat) (z1 : Nat) (z2 : Nat) (z3 : Nat) (z4 : Nat) (z5 : Nat) (z6 : Nat) (z7 : Nat) (z8 : Nat) (z9 : Nat) (z10 : Nat) (z11 : Nat) (z12 : Nat) (z13 : Nat) (z14 : Nat) (z15 : Nat) (z16 : Nat) (p0 : Int32) : CX l (.code yX10_resultAt cX10_resultAt 2 (some .char)) yX10_resultAt { frames := 7, cells := 1, slots := 6, locals := 111 } [.ref a0, .int p0] (fun y => [(a0, .inr (12, [.ref z0, .ref z1, .ref z2, .ref z3, .ref z4, .ref a1, .ref z5, .ref z6, .ref z7, .ref z8, .ref z9, .ref z10, .ref z11, .ref z12, .ref z13])), (a1, .inr (6, [.int 0, .int 0, .int 0, .ref z14, .ref z15, .ref z16]))]) (fun _ => []) "java/lang/IndexOutOfBoundsException" := by
  refine mkX (by decide) (Nat.le_of_ble_eq_true rfl) ?_
  intro p e s m args below meth c D y A ls hF htb hAe hP hD hS hl
  have hF : FX p e s m args meth c cX10_resultAt 2 RX10 "resultAt" D y A := hF
  obtain ⟨⟨hx, hb, hml, hown, hts⟩, hev, heh, hA, hlk, hnm⟩ := id hF
  have hK := hev.1
  have hP : va_P D vwCl [(a0, .inr (12, [.ref z0, .ref z1, .ref z2, .ref z3, .ref z4, .ref a1, .ref z5, .ref z6, .ref z7, .ref z8, .ref z9, .ref z10, .ref z11, .ref z12, .ref z13])), (a1, .inr (6, [.int 0, .int 0, .int 0, .ref z14, .ref z15, .ref z16]))] s.heap := hP
  have hD : va_D (fun _ => True) [(a0, .inr (12, [.ref z0, .ref z1, .ref z2, .ref z3, .ref z4, .ref a1, .ref z5, .ref z6, .ref z7, .ref z8, .ref z9, .ref z10, .ref z11, .ref z12, .ref z13])), (a1, .inr (6, [.int 0, .int 0, .int 0, .ref z14, .ref z15, .ref z16]))] := hD
  have hl : lv_has ls 2 [(0, .ref a0), (1, .int p0)] := hl
  refine lv_aload_n hx hb dX10_resultAt_0 rfl (lv_at hl 0 rfl) ?_
  refine lv_iload_n hx hb dX10_resultAt_1 rfl (lv_at hl 1 rfl) ?_
  exact xV (l := l) (yM := yX10_needOfferIndex) (C := RX10) (As := [.int p0]) (rest := []) hF htb (c242_X10_needOfferIndex l hlt a0 a1 z0 z1 z2 z3 z4 z5 z6 z7 z8 z9 z10 z11 z12 z13 z14 z15 z16 p0) gv_RX10_245 1 (by decide +kernel) rfl ⟨(Nat.le_of_ble_eq_true rfl), (Nat.le_of_ble_eq_true rfl)⟩ hl.1 rfl (Nat.le_of_ble_eq_true rfl) dX10_resultAt_2 ⟨(Nat.le_of_ble_eq_true rfl), (Nat.le_of_ble_eq_true rfl)⟩ hP hD hS (pA hA hS) [0, 1] rfl rfl 0 (ci := 12) rfl rfl rfl ⟨(Nat.le_of_ble_eq_true rfl), (Nat.le_of_ble_eq_true rfl)⟩

set_option maxHeartbeats 4000000 in
set_option maxRecDepth 100000 in
theorem c246_L_resultAt (l : Launch) (hlt : l.stackTraces = false) (a0 : Nat) (a1 : Nat) (z0 : Nat) (z1 : Nat) (z2 : Nat) (z3 : Nat) (z4 : Nat) (z5 : Nat) (z6 : Nat) (z7 : Nat) (z8 : Nat) (z9 : Nat) (z10 : Nat) (z11 : Nat) (z12 : Nat) (z13 : Nat) (z14 : Nat) (z15 : Nat) (z16 : Nat) (p0 : Int32) (z17 : Nat) : CT l (.codeWith yL_resultAt cL_resultAt 4 (some .int) [(0, 9, 12, 36)]) yL_resultAt { frames := 8, cells := 1, slots := 6, locals := 132 } [.ref a0, .int p0, .ref z17] (fun y => [(a0, .inr (12, [.ref z0, .ref z1, .ref z2, .ref z3, .ref z4, .ref a1, .ref z5, .ref z6, .ref z7, .ref z8, .ref z9, .ref z10, .ref z11, .ref z12, .ref z13])), (a1, .inr (6, [.int 0, .int 0, .int 0, .ref z14, .ref z15, .ref z16]))]) (fun _ => []) (fun u => some (.int 1)) (fun y u => []) := by
  refine mkH (by decide) (Nat.le_of_ble_eq_true rfl) ?_
  intro p e s m args below meth c D y A ls hF htab hr hAe hP hD hS hl
  have hF : FX p e s m args meth c cL_resultAt 4 RL "resultAt" D y A := hF
  obtain ⟨⟨hx, hb, hml, hown, hts⟩, hev, heh, hA, hlk, hnm⟩ := id hF
  have hK := hev.1
  have hP : va_P D vwCl [(a0, .inr (12, [.ref z0, .ref z1, .ref z2, .ref z3, .ref z4, .ref a1, .ref z5, .ref z6, .ref z7, .ref z8, .ref z9, .ref z10, .ref z11, .ref z12, .ref z13])), (a1, .inr (6, [.int 0, .int 0, .int 0, .ref z14, .ref z15, .ref z16]))] s.heap := hP
  have hD : va_D (fun _ => True) [(a0, .inr (12, [.ref z0, .ref z1, .ref z2, .ref z3, .ref z4, .ref a1, .ref z5, .ref z6, .ref z7, .ref z8, .ref z9, .ref z10, .ref z11, .ref z12, .ref z13])), (a1, .inr (6, [.int 0, .int 0, .int 0, .ref z14, .ref z15, .ref z16]))] := hD
  have hl : lv_has ls 4 [(0, .ref a0), (1, .int p0), (2, .ref z17)] := hl
  refine lv_aload_n hx hb dL_resultAt_0 rfl (lv_at hl 2 rfl) ?_
  refine lv_iconst (v := 0) hx hb dL_resultAt_1 (by decide) ?_
  refine lv_aload_n hx hb dL_resultAt_2 rfl (lv_at hl 0 rfl) ?_
  refine lv_iload_n hx hb dL_resultAt_3 rfl (lv_at hl 1 rfl) ?_
  refine hV (wr := [(a0, .inr (12, [.ref z0, .ref z1, .ref z2, .ref z3, .ref z4, .ref a1, .ref z5, .ref z6, .ref z7, .ref z8, .ref z9, .ref z10, .ref z11, .ref z12, .ref z13])), (a1, .inr (6, [.int 0, .int 0, .int 0, .ref z14, .ref z15, .ref z16]))]) (name := "java/lang/IndexOutOfBoundsException") (E0 := "java/lang/IndexOutOfBoundsException") (l := l) (yM := yX10_resultAt) (C := RX10) (As := [.int p0]) (rest := [.int 0, .ref z17]) hF (c246_X10_resultAt l hlt a0 a1 z0 z1 z2 z3 z4 z5 z6 z7 z8 z9 z10 z11 z12 z13 z14 z15 z16 p0) gv_RL_74 1 (by decide +kernel) rfl ⟨(Nat.le_of_ble_eq_true rfl), (Nat.le_of_ble_eq_true rfl)⟩ hl.1 rfl (Nat.le_of_ble_eq_true rfl) dL_resultAt_4 ⟨(Nat.le_of_ble_eq_true rfl), (Nat.le_of_ble_eq_true rfl)⟩ hP hD hS (pA hA hS) (fun _ _ => trivial) [0, 1] [] [0, 1] rfl rfl rfl rfl rfl (by decide) 0 (ci := 12) rfl rfl rfl [] ⟨0, 9, 12, 36⟩ [] htab (fun z hz => nomatch hz) (by decide) (by decide) wd_322 (by decide) (fun q9 H locs hP hD hS => ?_)
  have hP : va_P D vwCl [(a0, .inr (12, [.ref z0, .ref z1, .ref z2, .ref z3, .ref z4, .ref a1, .ref z5, .ref z6, .ref z7, .ref z8, .ref z9, .ref z10, .ref z11, .ref z12, .ref z13])), (a1, .inr (6, [.int 0, .int 0, .int 0, .ref z14, .ref z15, .ref z16]))] H := hP
  have hD : va_D (fun _ => True) [(a0, .inr (12, [.ref z0, .ref z1, .ref z2, .ref z3, .ref z4, .ref a1, .ref z5, .ref z6, .ref z7, .ref z8, .ref z9, .ref z10, .ref z11, .ref z12, .ref z13])), (a1, .inr (6, [.int 0, .int 0, .int 0, .ref z14, .ref z15, .ref z16]))] := hD
  refine W.widen (k := 1) (n := 6) (Nat.le_of_ble_eq_true rfl) (Nat.le_of_ble_eq_true rfl) ?_
  refine W.eq (g2 := F0 m 12 ls [.ref q9]) rfl ?_
  refine lv_astore_n (lv' := [(3, .ref q9), (0, .ref a0), (1, .int p0), (2, .ref z17)]) hx hb dL_resultAt_12 rfl hl (by decide) rfl (fun ls hl => ?_)
  refine lv_iconst (v := 1) hx hb dL_resultAt_13 (by decide) ?_
  exact e_i hF hr (Nat.le_of_ble_eq_true rfl) (Nat.le_of_ble_eq_true rfl) hS (qg_end hS (fun _ => 0) rfl [] hP rfl d_nil) dL_resultAt_14

set_option maxHeartbeats 4000000 in
set_option maxRecDepth 100000 in
theorem c248_X11_resultAt (l : Launch) (a0 : Nat) (z0 : Nat) (z1 : Nat) (z2 : Nat) (z3 : Nat) (z4 : Nat) (z5 : Nat) (z6 : Nat) (z7 : Nat) (z8 : Nat) (z9 : Nat) (z10 : Nat) (z11 : Nat) (z12 : Nat) (z13 : Nat) (p0 : Int32) : CT l (.code yX11_resultAt cX11_resultAt 2 (some .char)) yX11_resultAt { frames := 1, cells := 0, slots := 0, locals := 23 } [.ref a0, .int p0] (fun y => [(a0, .inr (13, [.ref z0, .ref z1, .ref z2, .ref z3, .ref z4, .ref z5, .int 45, .ref z6, .ref z7, .ref z8, .int 0, .ref z9, .ref z10, .int 0, .int 0, .int 0, .int 0, .ref z11, .int 0, .null, .ref z12, .ref z13]))]) (fun y => [(a0, .inr (13, [.ref z0, .ref z1, .ref z2, .ref z3, .ref z4, .ref z5, .int 45, .ref z6, .ref z7, .ref z8, .int 0, .ref z9, .ref z10, .int 0, .int 0, .int 0, .int 0, .ref z11, .int 0, .null, .ref z12, .ref z13]))]) (fun u => some (.int 32)) (fun y u => [(a0, .inr (13, [.ref z0, .ref z1, .ref z2, .ref z3, .ref z4, .ref z5, .int 45, .ref z6, .ref z7, .ref z8, .int 0, .ref z9, .ref z10, .int 0, .int 0, .int 1, .int 0, .ref z11, .int 0, .null, .ref z12, .ref z13]))]) := by
  refine mkM (by decide) (Nat.le_of_ble_eq_true rfl) ?_
  intro p e s m args below meth c D y A ls hF hr hAe hP hD hS hl
  have hF : FX p e s m args meth c cX11_resultAt 2 RX11 "resultAt" D y A := hF
  obtain ⟨⟨hx, hb, hml, hown, hts⟩, hev, heh, hA, hlk, hnm⟩ := id hF
  have hK := hev.1
  have hP : va_P D vwCl [(a0, .inr (13, [.ref z0, .ref z1, .ref z2, .ref z3, .ref z4, .ref z5, .int 45, .ref z6, .ref z7, .ref z8, .int 0, .ref z9, .ref z10, .int 0, .int 0, .int 0, .int 0, .ref z11, .int 0, .null, .ref z12, .ref z13]))] s.heap := hP
  have hD : va_D A [(a0, .inr (13, [.ref z0, .ref z1, .ref z2, .ref z3, .ref z4, .ref z5, .int 45, .ref z6, .ref z7, .ref z8, .int 0, .ref z9, .ref z10, .int 0, .int 0, .int 0, .int 0, .ref z11, .int 0, .null, .ref z12, .ref z13]))] := by rw [← hAe]; exact hD.self
  have hl : lv_has ls 2 [(0, .ref a0), (1, .int p0)] := hl
  refine lv_aload_n hx hb dX11_resultAt_0 rfl (lv_at hl 0 rfl) ?_
  refine lv_iload_n hx hb dX11_resultAt_1 rfl (lv_at hl 1 rfl) ?_
  refine lv_iconst (v := 0) hx hb dX11_resultAt_2 (by decide) ?_
  refine lv_aload_n hx hb dX11_resultAt_3 rfl (lv_at hl 0 rfl) ?_
  refine va_get (D := D) (ci := 13) (v := .int 0) (C := RX11) (T := TX11) (N := 22) hx hb hts inX11 hown hK hP 0 rfl rfl 10 (by decide) (hts _ wd_427) (fun _ h9 => h9) rfl dX11_resultAt_4 ?_
  refine lv_iconst (v := 1) hx hb dX11_resultAt_7 (by decide) ?_
  refine lv_isub hx hb dX11_resultAt_8 ?_
  refine tp_i (v := (-1)) (by decide) ?_
  refine cS (l := l) (yM := yX11_in) (As := [.int p0, .int 0, .int (-1)]) (rest := [.ref a0]) (wr := [(a0, .inr (13, [.ref z0, .ref z1, .ref z2, .ref z3, .ref z4, .ref z5, .int 45, .ref z6, .ref z7, .ref z8, .int 0, .ref z9, .ref z10, .int 0, .int 0, .int 0, .int 0, .ref z11, .int 0, .null, .ref z12, .ref z13]))]) hF (c86_X11_in l p0) gs_RX11_78 3 (by decide +kernel) rfl ⟨(Nat.le_of_ble_eq_true rfl), (Nat.le_of_ble_eq_true rfl)⟩ hl.1 rfl (Nat.le_of_ble_eq_true rfl) dX11_resultAt_9 ⟨(Nat.le_of_ble_eq_true rfl), (Nat.le_of_ble_eq_true rfl)⟩ hP hD hS (pA hA hS) (fun _ h => h) [] [] [0] rfl rfl rfl rfl rfl (by decide) (fun u_1 H locs hP hD hS => ?_)
  have hP : va_P D vwCl [(a0, .inr (13, [.ref z0, .ref z1, .ref z2, .ref z3, .ref z4, .ref z5, .int 45, .ref z6, .ref z7, .ref z8, .int 0, .ref z9, .ref z10, .int 0, .int 0, .int 0, .int 0, .ref z11, .int 0, .null, .ref z12, .ref z13]))] H := hP
  have hD : va_D A [(a0, .inr (13, [.ref z0, .ref z1, .ref z2, .ref z3, .ref z4, .ref z5, .int 45, .ref z6, .ref z7, .ref z8, .int 0, .ref z9, .ref z10, .int 0, .int 0, .int 0, .int 0, .ref z11, .int 0, .null, .ref z12, .ref z13]))] := hD
  refine W.widen (k := 0) (n := 0) (Nat.le_of_ble_eq_true rfl) (Nat.le_of_ble_eq_true rfl) ?_
  refine W.eq (g2 := F0 m 12 ls [.int 0, .ref a0]) rfl ?_
  refine lv_if_ne (tgt := 19) hx hb dX11_resultAt_12 (by decide) (fun c => absurd (by decide) c) (fun _ => ?_)
  refine lv_iconst (v := 1) hx hb dX11_resultAt_15 (by decide) ?_
  refine lv_goto (tgt := 20) hx hb dX11_resultAt_16 (by decide) ?_
  refine lv_iconst (v := 0) hx hb dX11_resultAt_20 (by decide) ?_
  refine lv_iconst (v := 0) hx hb dX11_resultAt_21 (by decide) ?_
  refine cV (l := l) (yM := yX11_fails) (C := RX11) (As := [.int 1, .int 0, .int 0]) (rest := []) (wr := []) hF (c67_X11_fails l a0 z0 z1 z2 z3 z4 z5 z6 z7 z8 z9 z10 z11 z12 z13) gv_RX11_128 3 (by decide +kernel) rfl ⟨(Nat.le_of_ble_eq_true rfl), (Nat.le_of_ble_eq_true rfl)⟩ hl.1 rfl (Nat.le_of_ble_eq_true rfl) dX11_resultAt_22 ⟨(Nat.le_of_ble_eq_true rfl), (Nat.le_of_ble_eq_true rfl)⟩ hP hD hS (va_free (wc := [(a0, .inr (13, [.ref z0, .ref z1, .ref z2, .ref z3, .ref z4, .ref z5, .int 45, .ref z6, .ref z7, .ref z8, .int 0, .ref z9, .ref z10, .int 0, .int 0, .int 0, .int 0, .ref z11, .int 0, .null, .ref z12, .ref z13]))]) hD hS hA [0] rfl) (fun _ h => h) [0] [0] [] rfl rfl rfl rfl rfl (by decide) 0 (ci := 13) rfl rfl rfl (fun u_2 H locs hP hD hS => ?_)
  have hP : va_P D vwCl [(a0, .inr (13, [.ref z0, .ref z1, .ref z2, .ref z3, .ref z4, .ref z5, .int 45, .ref z6, .ref z7, .ref z8, .int 0, .ref z9, .ref z10, .int 0, .int 0, .int 1, .int 0, .ref z11, .int 0, .null, .ref z12, .ref z13]))] H := hP
  have hD : va_D A [(a0, .inr (13, [.ref z0, .ref z1, .ref z2, .ref z3, .ref z4, .ref z5, .int 45, .ref z6, .ref z7, .ref z8, .int 0, .ref z9, .ref z10, .int 0, .int 0, .int 1, .int 0, .ref z11, .int 0, .null, .ref z12, .ref z13]))] := hD
  refine W.widen (k := 0) (n := 0) (Nat.le_of_ble_eq_true rfl) (Nat.le_of_ble_eq_true rfl) ?_
  refine W.eq (g2 := F0 m 25 ls [.int 1]) rfl ?_
  refine lv_if_eq (tgt := 33) hx hb dX11_resultAt_25 (by decide) (fun c => absurd c (by decide)) (fun _ => ?_)
  refine lv_bipush (v := 32) hx hb dX11_resultAt_28 (by decide) ?_
  refine lv_goto (tgt := 39) hx hb dX11_resultAt_30 (by decide) ?_
  exact e_z hF hr (by decide) (Nat.le_of_ble_eq_true rfl) (Nat.le_of_ble_eq_true rfl) hS (qg_end hS (fun _ => 0) rfl [0] hP rfl (hD.sub [0] rfl rfl)) dX11_resultAt_39

set_option maxHeartbeats 4000000 in
set_option maxRecDepth 100000 in
theorem c249_X10_needPerson (l : Launch) (hlt : l.stackTraces = false) (a0 : Nat) (a1 : Nat) (a2 : Nat) (z0 : Nat) (z1 : Nat) (z2 : Nat) (z3 : Nat) (z4 : Nat) (z5 : Nat) (z6 : Nat) (z7 : Nat) (z8 : Nat) (z9 : Nat) (z10 : Nat) (z11 : Nat) (z12 : Nat) (z13 : Nat) (z14 : Nat) (z15 : Nat) (z16 : Nat) (z17 : Nat) (z18 : Nat) (p0 : Int32) : CX l (.code yX10_needPerson cX10_needPerson 2 none) yX10_needPerson { frames := 6, cells := 1, slots := 6, locals := 90 } [.ref a0, .int p0] (fun y => [(a0, .inr (12, [.ref a1, .ref z0, .ref z1, .ref z2, .ref z3, .ref z4, .ref z5, .ref z6, .ref z7, .ref z8, .ref z9, .ref z10, .ref z11, .ref z12, .ref z13])), (a1, .inr (5, [.ref a2, .ref z14, .ref z15])), (a2, .inr (4, [.int 0, .ref z16, .ref z17, .ref z18]))]) (fun _ => []) "java/util/NoSuchElementException" := by
  refine mkX (by decide) (Nat.le_of_ble_eq_true rfl) ?_
  intro p e s m args below meth c D y A ls hF htb hAe hP hD hS hl
  have hF : FX p e s m args meth c cX10_needPerson 2 RX10 "needPerson" D y A := hF
  obtain ⟨⟨hx, hb, hml, hown, hts⟩, hev, heh, hA, hlk, hnm⟩ := id hF
  have hK := hev.1
  have hP : va_P D vwCl [(a0, .inr (12, [.ref a1, .ref z0, .ref z1, .ref z2, .ref z3, .ref z4, .ref z5, .ref z6, .ref z7, .ref z8, .ref z9, .ref z10, .ref z11, .ref z12, .ref z13])), (a1, .inr (5, [.ref a2, .ref z14, .ref z15])), (a2, .inr (4, [.int 0, .ref z16, .ref z17, .ref z18]))] s.heap := hP
  have hD : va_D (fun _ => True) [(a0, .inr (12, [.ref a1, .ref z0, .ref z1, .ref z2, .ref z3, .ref z4, .ref z5, .ref z6, .ref z7, .ref z8, .ref z9, .ref z10, .ref z11, .ref z12, .ref z13])), (a1, .inr (5, [.ref a2, .ref z14, .ref z15])), (a2, .inr (4, [.int 0, .ref z16, .ref z17, .ref z18]))] := hD
  have hl : lv_has ls 2 [(0, .ref a0), (1, .int p0)] := hl
  refine lv_aload_n hx hb dX10_needPerson_0 rfl (lv_at hl 0 rfl) ?_
  refine va_get (D := D) (ci := 12) (v := .ref a1) (C := RX10) (T := TX10) (N := 15) hx hb hts inX10 hown hK hP 0 rfl rfl 0 (by decide) (hts _ wd_24) (fun _ h9 => h9) rfl dX10_needPerson_1 ?_
  refine va_getN (D := D) (ci := 5) (v := .ref a2) (C := RX3) (T := TX3) (N := 3) hx hb hts inX3 hown hK hP 1 rfl rfl 0 (by decide) (va_Nw.use (A := args) rfl (hev.2.1 (RX10, 352, RX3, "persons", "LStablepairBureau$Lists;") (List.mem_of_getElem? (i := 8) rfl))) (fun _ h9 => h9) rfl dX10_needPerson_4 ?_
  refine lv_iload_n hx hb dX10_needPerson_7 rfl (lv_at hl 1 rfl) ?_
  refine cV (l := l) (yM := yX2_has) (C := RX2) (As := [.int p0]) (rest := []) (wr := [(a0, .inr (12, [.ref a1, .ref z0, .ref z1, .ref z2, .ref z3, .ref z4, .ref z5, .ref z6, .ref z7, .ref z8, .ref z9, .ref z10, .ref z11, .ref z12, .ref z13])), (a1, .inr (5, [.ref a2, .ref z14, .ref z15])), (a2, .inr (4, [.int 0, .ref z16, .ref z17, .ref z18]))]) hF (c82_X2_has l a2 z16 z17 z18 p0) gv_RX10_216 1 (by decide +kernel) rfl ⟨(Nat.le_of_ble_eq_true rfl), (Nat.le_of_ble_eq_true rfl)⟩ hl.1 rfl (Nat.le_of_ble_eq_true rfl) dX10_needPerson_8 ⟨(Nat.le_of_ble_eq_true rfl), (Nat.le_of_ble_eq_true rfl)⟩ hP hD hS (pA hA hS) (fun _ _ => trivial) [2] [] [0, 1, 2] rfl rfl rfl rfl rfl (by decide) 2 (ci := 4) rfl rfl rfl (fun u_1 H locs hP hD hS => ?_)
  have hP : va_P D vwCl [(a0, .inr (12, [.ref a1, .ref z0, .ref z1, .ref z2, .ref z3, .ref z4, .ref z5, .ref z6, .ref z7, .ref z8, .ref z9, .ref z10, .ref z11, .ref z12, .ref z13])), (a1, .inr (5, [.ref a2, .ref z14, .ref z15])), (a2, .inr (4, [.int 0, .ref z16, .ref z17, .ref z18]))] H := hP
  have hD : va_D (fun _ => True) [(a0, .inr (12, [.ref a1, .ref z0, .ref z1, .ref z2, .ref z3, .ref z4, .ref z5, .ref z6, .ref z7, .ref z8, .ref z9, .ref z10, .ref z11, .ref z12, .ref z13])), (a1, .inr (5, [.ref a2, .ref z14, .ref z15])), (a2, .inr (4, [.int 0, .ref z16, .ref z17, .ref z18]))] := hD
  refine W.widen (k := 0) (n := 0) (Nat.le_of_ble_eq_true rfl) (Nat.le_of_ble_eq_true rfl) ?_
  refine W.eq (g2 := F0 m 11 ls [.int 0]) rfl ?_
  refine lv_if_ne (tgt := 25) hx hb dX10_needPerson_11 (by decide) (fun c => absurd (by decide) c) (fun _ => ?_)
  exact th_N (text := "no such person") hF htb hlt wd_251 wd_252 (List.mem_of_getElem? (i := 16) rfl) exg3 exf3 exo3 hS hl.1 (Nat.le_of_ble_eq_true rfl) ⟨(Nat.le_of_ble_eq_true rfl), (Nat.le_of_ble_eq_true rfl)⟩ ⟨(Nat.le_of_ble_eq_true rfl), (Nat.le_of_ble_eq_true rfl)⟩ ⟨(Nat.le_of_ble_eq_true rfl), (Nat.le_of_ble_eq_true rfl)⟩ dX10_needPerson_14 dX10_needPerson_17 dX10_needPerson_18 dX10_needPerson_21 dX10_needPerson_24

set_option maxHeartbeats 4000000 in
set_option maxRecDepth 100000 in
theorem c249_X10_pair (l : Launch) (hlt : l.stackTraces = false) (a0 : Nat) (a1 : Nat) (a2 : Nat) (z0 : Nat) (z1 : Nat) (z2 : Nat) (z3 : Nat) (z4 : Nat) (z5 : Nat) (z6 : Nat) (z7 : Nat) (z8 : Nat) (z9 : Nat) (z10 : Nat) (z11 : Nat) (z12 : Nat) (z13 : Nat) (z14 : Nat) (z15 : Nat) (z16 : Nat) (z17 : Nat) (z18 : Nat) (p0 : Int32) (p1 : Int32) : CX l (.code yX10_pair cX10_pair 3 (some .int)) yX10_pair { frames := 7, cells := 1, slots := 6, locals := 111 } [.ref a0, .int p0, .int p1] (fun y => [(a0, .inr (12, [.ref a1, .ref z0, .ref z1, .ref z2, .ref z3, .ref z4, .ref z5, .ref z6, .ref z7, .ref z8, .ref z9, .ref z10, .ref z11, .ref z12, .ref z13])), (a1, .inr (5, [.ref a2, .ref z14, .ref z15])), (a2, .inr (4, [.int 0, .ref z16, .ref z17, .ref z18]))]) (fun _ => []) "java/util/NoSuchElementException" := by
  refine mkX (by decide) (Nat.le_of_ble_eq_true rfl) ?_
  intro p e s m args below meth c D y A ls hF htb hAe hP hD hS hl
  have hF : FX p e s m args meth c cX10_pair 3 RX10 "pair" D y A := hF
  obtain ⟨⟨hx, hb, hml, hown, hts⟩, hev, heh, hA, hlk, hnm⟩ := id hF
  have hK := hev.1
  have hP : va_P D vwCl [(a0, .inr (12, [.ref a1, .ref z0, .ref z1, .ref z2, .ref z3, .ref z4, .ref z5, .ref z6, .ref z7, .ref z8, .ref z9, .ref z10, .ref z11, .ref z12, .ref z13])), (a1, .inr (5, [.ref a2, .ref z14, .ref z15])), (a2, .inr (4, [.int 0, .ref z16, .ref z17, .ref z18]))] s.heap := hP
  have hD : va_D (fun _ => True) [(a0, .inr (12, [.ref a1, .ref z0, .ref z1, .ref z2, .ref z3, .ref z4, .ref z5, .ref z6, .ref z7, .ref z8, .ref z9, .ref z10, .ref z11, .ref z12, .ref z13])), (a1, .inr (5, [.ref a2, .ref z14, .ref z15])), (a2, .inr (4, [.int 0, .ref z16, .ref z17, .ref z18]))] := hD
  have hl : lv_has ls 3 [(0, .ref a0), (1, .int p0), (2, .int p1)] := hl
  refine lv_aload_n hx hb dX10_pair_0 rfl (lv_at hl 0 rfl) ?_
  refine lv_iload_n hx hb dX10_pair_1 rfl (lv_at hl 1 rfl) ?_
  exact xV (l := l) (yM := yX10_needPerson) (C := RX10) (As := [.int p0]) (rest := []) hF htb (c249_X10_needPerson l hlt a0 a1 a2 z0 z1 z2 z3 z4 z5 z6 z7 z8 z9 z10 z11 z12 z13 z14 z15 z16 z17 z18 p0) gv_RX10_254 1 (by decide +kernel) rfl ⟨(Nat.le_of_ble_eq_true rfl), (Nat.le_of_ble_eq_true rfl)⟩ hl.1 rfl (Nat.le_of_ble_eq_true rfl) dX10_pair_2 ⟨(Nat.le_of_ble_eq_true rfl), (Nat.le_of_ble_eq_true rfl)⟩ hP hD hS (pA hA hS) [0, 1, 2] rfl rfl 0 (ci := 12) rfl rfl rfl ⟨(Nat.le_of_ble_eq_true rfl), (Nat.le_of_ble_eq_true rfl)⟩

set_option maxHeartbeats 4000000 in
set_option maxRecDepth 100000 in
theorem c249_L_pair (l : Launch) (hlt : l.stackTraces = false) (a0 : Nat) (a1 : Nat) (a2 : Nat) (z0 : Nat) (z1 : Nat) (z2 : Nat) (z3 : Nat) (z4 : Nat) (z5 : Nat) (z6 : Nat) (z7 : Nat) (z8 : Nat) (z9 : Nat) (z10 : Nat) (z11 : Nat) (z12 : Nat) (z13 : Nat) (z14 : Nat) (z15 : Nat) (z16 : Nat) (z17 : Nat) (z18 : Nat) (p0 : Int32) (p1 : Int32) (z19 : Nat) : CT l (.codeWith yL_pair cL_pair 5 (some .int) [(0, 10, 13, 24), (0, 10, 17, 13), (0, 10, 21, 61)]) yL_pair { frames := 8, cells := 1, slots := 6, locals := 133 } [.ref a0, .int p0, .int p1, .ref z19] (fun y => [(a0, .inr (12, [.ref a1, .ref z0, .ref z1, .ref z2, .ref z3, .ref z4, .ref z5, .ref z6, .ref z7, .ref z8, .ref z9, .ref z10, .ref z11, .ref z12, .ref z13])), (a1, .inr (5, [.ref a2, .ref z14, .ref z15])), (a2, .inr (4, [.int 0, .ref z16, .ref z17, .ref z18]))]) (fun _ => []) (fun u => some (.int 1)) (fun y u => []) := by
  refine mkH (by decide) (Nat.le_of_ble_eq_true rfl) ?_
  intro p e s m args below meth c D y A ls hF htab hr hAe hP hD hS hl
  have hF : FX p e s m args meth c cL_pair 5 RL "pair" D y A := hF
  obtain ⟨⟨hx, hb, hml, hown, hts⟩, hev, heh, hA, hlk, hnm⟩ := id hF
  have hK := hev.1
  have hP : va_P D vwCl [(a0, .inr (12, [.ref a1, .ref z0, .ref z1, .ref z2, .ref z3, .ref z4, .ref z5, .ref z6, .ref z7, .ref z8, .ref z9, .ref z10, .ref z11, .ref z12, .ref z13])), (a1, .inr (5, [.ref a2, .ref z14, .ref z15])), (a2, .inr (4, [.int 0, .ref z16, .ref z17, .ref z18]))] s.heap := hP
  have hD : va_D (fun _ => True) [(a0, .inr (12, [.ref a1, .ref z0, .ref z1, .ref z2, .ref z3, .ref z4, .ref z5, .ref z6, .ref z7, .ref z8, .ref z9, .ref z10, .ref z11, .ref z12, .ref z13])), (a1, .inr (5, [.ref a2, .ref z14, .ref z15])), (a2, .inr (4, [.int 0, .ref z16, .ref z17, .ref z18]))] := hD
  have hl : lv_has ls 5 [(0, .ref a0), (1, .int p0), (2, .int p1), (3, .ref z19)] := hl
  refine lv_aload_n hx hb dL_pair_0 rfl (lv_at hl 3 rfl) ?_
  refine lv_iconst (v := 0) hx hb dL_pair_1 (by decide) ?_
  refine lv_aload_n hx hb dL_pair_2 rfl (lv_at hl 0 rfl) ?_
  refine lv_iload_n hx hb dL_pair_3 rfl (lv_at hl 1 rfl) ?_
  refine lv_iload_n hx hb dL_pair_4 rfl (lv_at hl 2 rfl) ?_
  refine hV (wr := [(a0, .inr (12, [.ref a1, .ref z0, .ref z1, .ref z2, .ref z3, .ref z4, .ref z5, .ref z6, .ref z7, .ref z8, .ref z9, .ref z10, .ref z11, .ref z12, .ref z13])), (a1, .inr (5, [.ref a2, .ref z14, .ref z15])), (a2, .inr (4, [.int 0, .ref z16, .ref z17, .ref z18]))]) (name := "java/util/NoSuchElementException") (E0 := "java/util/NoSuchElementException") (l := l) (yM := yX10_pair) (C := RX10) (As := [.int p0, .int p1]) (rest := [.int 0, .ref z19]) hF (c249_X10_pair l hlt a0 a1 a2 z0 z1 z2 z3 z4 z5 z6 z7 z8 z9 z10 z11 z12 z13 z14 z15 z16 z17 z18 p0 p1) gv_RL_77 2 (by decide +kernel) rfl ⟨(Nat.le_of_ble_eq_true rfl), (Nat.le_of_ble_eq_true rfl)⟩ hl.1 rfl (Nat.le_of_ble_eq_true rfl) dL_pair_5 ⟨(Nat.le_of_ble_eq_true rfl), (Nat.le_of_ble_eq_true rfl)⟩ hP hD hS (pA hA hS) (fun _ _ => trivial) [0, 1, 2] [] [0, 1, 2] rfl rfl rfl rfl rfl (by decide) 0 (ci := 12) rfl rfl rfl [] ⟨0, 10, 13, 24⟩ [⟨0, 10, 17, 13⟩, ⟨0, 10, 21, 61⟩] htab (fun z hz => nomatch hz) (by decide) (by decide) wd_261 (by decide) (fun q9 H locs hP hD hS => ?_)
  have hP : va_P D vwCl [(a0, .inr (12, [.ref a1, .ref z0, .ref z1, .ref z2, .ref z3, .ref z4, .ref z5, .ref z6, .ref z7, .ref z8, .ref z9, .ref z10, .ref z11, .ref z12, .ref z13])), (a1, .inr (5, [.ref a2, .ref z14, .ref z15])), (a2, .inr (4, [.int 0, .ref z16, .ref z17, .ref z18]))] H := hP
  have hD : va_D (fun _ => True) [(a0, .inr (12, [.ref a1, .ref z0, .ref z1, .ref z2, .ref z3, .ref z4, .ref z5, .ref z6, .ref z7, .ref z8, .ref z9, .ref z10, .ref z11, .ref z12, .ref z13])), (a1, .inr (5, [.ref a2, .ref z14, .ref z15])), (a2, .inr (4, [.int 0, .ref z16, .ref z17, .ref z18]))] := hD
  refine W.widen (k := 1) (n := 6) (Nat.le_of_ble_eq_true rfl) (Nat.le_of_ble_eq_true rfl) ?_
  refine W.eq (g2 := F0 m 13 ls [.ref q9]) rfl ?_
  refine lv_astore (lv' := [(4, .ref q9), (0, .ref a0), (1, .int p0), (2, .int p1), (3, .ref z19)]) hx hb dL_pair_13 hl (by decide) rfl (fun ls hl => ?_)
  refine lv_iconst (v := 1) hx hb dL_pair_15 (by decide) ?_
  exact e_i hF hr (Nat.le_of_ble_eq_true rfl) (Nat.le_of_ble_eq_true rfl) hS (qg_end hS (fun _ => 0) rfl [] hP rfl d_nil) dL_pair_16

set_option maxHeartbeats 4000000 in
set_option maxRecDepth 100000 in
theorem c252_X11_isPerson (l : Launch) (a0 : Nat) (a1 : Nat) (z0 : Nat) (z1 : Nat) (z2 : Nat) (z3 : Nat) (z4 : Nat) (z5 : Nat) (z6 : Nat) (z7 : Nat) (z8 : Nat) (z9 : Nat) (z10 : Nat) (z11 : Nat) (z12 : Nat) (p0 : Int32) : CT l (.code yX11_isPerson cX11_isPerson 2 (some .boolean)) yX11_isPerson { frames := 1, cells := 0, slots := 0, locals := 22 } [.ref a0, .int p0] (fun y => [(a0, .inr (13, [.ref a1, .ref z0, .ref z1, .ref z2, .ref z3, .ref z4, .int 45, .ref z5, .ref z6, .ref z7, .int 0, .ref z8, .ref z9, .int 0, .int 0, .int 0, .int 0, .ref z10, .int 0, .null, .ref z11, .ref z12])), (a1, .inl (y 0, 3, .inl (fun _ => 0)))]) (fun _ => []) (fun u => some (.int 0)) (fun y u => []) := by
  refine mkM (by decide) (Nat.le_of_ble_eq_true rfl) ?_
  intro p e s m args below meth c D y A ls hF hr hAe hP hD hS hl
  have hF : FX p e s m args meth c cX11_isPerson 2 RX11 "isPerson" D y A := hF
  obtain ⟨⟨hx, hb, hml, hown, hts⟩, hev, heh, hA, hlk, hnm⟩ := id hF
  have hK := hev.1
  have hP : va_P D vwCl [(a0, .inr (13, [.ref a1, .ref z0, .ref z1, .ref z2, .ref z3, .ref z4, .int 45, .ref z5, .ref z6, .ref z7, .int 0, .ref z8, .ref z9, .int 0, .int 0, .int 0, .int 0, .ref z10, .int 0, .null, .ref z11, .ref z12])), (a1, .inl (y 0, 3, .inl (fun _ => 0)))] s.heap := hP
  have hD : va_D (fun _ => True) [(a0, .inr (13, [.ref a1, .ref z0, .ref z1, .ref z2, .ref z3, .ref z4, .int 45, .ref z5, .ref z6, .ref z7, .int 0, .ref z8, .ref z9, .int 0, .int 0, .int 0, .int 0, .ref z10, .int 0, .null, .ref z11, .ref z12])), (a1, .inl (y 0, 3, .inl (fun _ => 0)))] := hD
  have hl : lv_has ls 2 [(0, .ref a0), (1, .int p0)] := hl
  refine lv_iload_n hx hb dX11_isPerson_0 rfl (lv_at hl 1 rfl) ?_
  refine lv_iconst (v := 0) hx hb dX11_isPerson_1 (by decide) ?_
  refine lv_aload_n hx hb dX11_isPerson_2 rfl (lv_at hl 0 rfl) ?_
  refine va_get (D := D) (ci := 13) (v := .ref a1) (C := RX11) (T := TX11) (N := 22) hx hb hts inX11 hown hK hP 0 rfl rfl 0 (by decide) (hts _ wd_115) (fun _ h9 => h9) rfl dX11_isPerson_3 ?_
  refine lv_iconst (v := 0) hx hb dX11_isPerson_6 (by decide) ?_
  refine va_iald hx hb hK hP 1 0 rfl rfl (vp_in_nI (n := 0) (by decide) (by decide)) dX11_isPerson_7 ?_
  refine tp_i (v := 0) rfl ?_
  refine lv_iconst (v := 1) hx hb dX11_isPerson_8 (by decide) ?_
  refine lv_isub hx hb dX11_isPerson_9 ?_
  refine tp_i (v := (-1)) (by decide) ?_
  refine cS (l := l) (yM := yX11_in) (As := [.int p0, .int 0, .int (-1)]) (rest := []) (wr := [(a0, .inr (13, [.ref a1, .ref z0, .ref z1, .ref z2, .ref z3, .ref z4, .int 45, .ref z5, .ref z6, .ref z7, .int 0, .ref z8, .ref z9, .int 0, .int 0, .int 0, .int 0, .ref z10, .int 0, .null, .ref z11, .ref z12])), (a1, .inl (y 0, 3, .inl (fun _ => 0)))]) hF (c86_X11_in l p0) gs_RX11_78 3 (by decide +kernel) rfl ⟨(Nat.le_of_ble_eq_true rfl), (Nat.le_of_ble_eq_true rfl)⟩ hl.1 rfl (Nat.le_of_ble_eq_true rfl) dX11_isPerson_10 ⟨(Nat.le_of_ble_eq_true rfl), (Nat.le_of_ble_eq_true rfl)⟩ hP hD hS (pA hA hS) (fun _ _ => trivial) [] [] [0, 1] rfl rfl rfl rfl rfl (by decide) (fun u_1 H locs hP hD hS => ?_)
  have hP : va_P D vwCl [(a0, .inr (13, [.ref a1, .ref z0, .ref z1, .ref z2, .ref z3, .ref z4, .int 45, .ref z5, .ref z6, .ref z7, .int 0, .ref z8, .ref z9, .int 0, .int 0, .int 0, .int 0, .ref z10, .int 0, .null, .ref z11, .ref z12])), (a1, .inl (y 0, 3, .inl (fun _ => 0)))] H := hP
  have hD : va_D (fun _ => True) [(a0, .inr (13, [.ref a1, .ref z0, .ref z1, .ref z2, .ref z3, .ref z4, .int 45, .ref z5, .ref z6, .ref z7, .int 0, .ref z8, .ref z9, .int 0, .int 0, .int 0, .int 0, .ref z10, .int 0, .null, .ref z11, .ref z12])), (a1, .inl (y 0, 3, .inl (fun _ => 0)))] := hD
  refine W.widen (k := 0) (n := 0) (Nat.le_of_ble_eq_true rfl) (Nat.le_of_ble_eq_true rfl) ?_
  refine W.eq (g2 := F0 m 13 ls [.int 0]) rfl ?_
  exact e_z hF hr (by decide) (Nat.le_of_ble_eq_true rfl) (Nat.le_of_ble_eq_true rfl) hS (qg_end hS (fun _ => 0) rfl [] hP rfl d_nil) dX11_isPerson_13

set_option maxHeartbeats 4000000 in
set_option maxRecDepth 100000 in
theorem c252_X11_pair (l : Launch) (a0 : Nat) (a1 : Nat) (z0 : Nat) (z1 : Nat) (z2 : Nat) (z3 : Nat) (z4 : Nat) (z5 : Nat) (z6 : Nat) (z7 : Nat) (z8 : Nat) (z9 : Nat) (z10 : Nat) (z11 : Nat) (z12 : Nat) (p0 : Int32) (p1 : Int32) : CT l (.code yX11_pair cX11_pair 5 (some .int)) yX11_pair { frames := 2, cells := 0, slots := 0, locals := 43 } [.ref a0, .int p0, .int p1] (fun y => [(a0, .inr (13, [.ref a1, .ref z0, .ref z1, .ref z2, .ref z3, .ref z4, .int 45, .ref z5, .ref z6, .ref z7, .int 0, .ref z8, .ref z9, .int 0, .int 0, .int 0, .int 0, .ref z10, .int 0, .null, .ref z11, .ref z12])), (a1, .inl (y 0, 3, .inl (fun _ => 0)))]) (fun y => [(a0, .inr (13, [.ref a1, .ref z0, .ref z1, .ref z2, .ref z3, .ref z4, .int 45, .ref z5, .ref z6, .ref z7, .int 0, .ref z8, .ref z9, .int 0, .int 0, .int 0, .int 0, .ref z10, .int 0, .null, .ref z11, .ref z12])), (a1, .inl (y 0, 3, .inl (fun _ => 0)))]) (fun u => some (.int 0)) (fun y u => [(a0, .inr (13, [.ref a1, .ref z0, .ref z1, .ref z2, .ref z3, .ref z4, .int 45, .ref z5, .ref z6, .ref z7, .int 0, .ref z8, .ref z9, .int 0, .int 0, .int 1, .int 0, .ref z10, .int 0, .null, .ref z11, .ref z12])), (a1, .inl (y 0, 3, .inl (fun _ => 0)))]) := by
  refine mkM (by decide) (Nat.le_of_ble_eq_true rfl) ?_
  intro p e s m args below meth c D y A ls hF hr hAe hP hD hS hl
  have hF : FX p e s m args meth c cX11_pair 5 RX11 "pair" D y A := hF
  obtain ⟨⟨hx, hb, hml, hown, hts⟩, hev, heh, hA, hlk, hnm⟩ := id hF
  have hK := hev.1
  have hP : va_P D vwCl [(a0, .inr (13, [.ref a1, .ref z0, .ref z1, .ref z2, .ref z3, .ref z4, .int 45, .ref z5, .ref z6, .ref z7, .int 0, .ref z8, .ref z9, .int 0, .int 0, .int 0, .int 0, .ref z10, .int 0, .null, .ref z11, .ref z12])), (a1, .inl (y 0, 3, .inl (fun _ => 0)))] s.heap := hP
  have hD : va_D A [(a0, .inr (13, [.ref a1, .ref z0, .ref z1, .ref z2, .ref z3, .ref z4, .int 45, .ref z5, .ref z6, .ref z7, .int 0, .ref z8, .ref z9, .int 0, .int 0, .int 0, .int 0, .ref z10, .int 0, .null, .ref z11, .ref z12])), (a1, .inl (y 0, 3, .inl (fun _ => 0)))] := by rw [← hAe]; exact hD.self
  have hl : lv_has ls 5 [(0, .ref a0), (1, .int p0), (2, .int p1)] := hl
  refine lv_aload_n hx hb dX11_pair_0 rfl (lv_at hl 0 rfl) ?_
  refine lv_iload_n hx hb dX11_pair_1 rfl (lv_at hl 1 rfl) ?_
  refine cV (l := l) (yM := yX11_isPerson) (C := RX11) (As := [.int p0]) (rest := []) (wr := [(a0, .inr (13, [.ref a1, .ref z0, .ref z1, .ref z2, .ref z3, .ref z4, .int 45, .ref z5, .ref z6, .ref z7, .int 0, .ref z8, .ref z9, .int 0, .int 0, .int 0, .int 0, .ref z10, .int 0, .null, .ref z11, .ref z12])), (a1, .inl (y 0, 3, .inl (fun _ => 0)))]) hF (c252_X11_isPerson l a0 a1 z0 z1 z2 z3 z4 z5 z6 z7 z8 z9 z10 z11 z12 p0) gv_RX11_176 1 (by decide +kernel) rfl ⟨(Nat.le_of_ble_eq_true rfl), (Nat.le_of_ble_eq_true rfl)⟩ hl.1 rfl (Nat.le_of_ble_eq_true rfl) dX11_pair_2 ⟨(Nat.le_of_ble_eq_true rfl), (Nat.le_of_ble_eq_true rfl)⟩ hP hD hS (pA hA hS) (fun _ h => h) [0, 1] [] [0, 1] rfl rfl rfl rfl rfl (by decide) 0 (ci := 13) rfl rfl rfl (fun u_1 H locs hP hD hS => ?_)
  have hP : va_P D vwCl [(a0, .inr (13, [.ref a1, .ref z0, .ref z1, .ref z2, .ref z3, .ref z4, .int 45, .ref z5, .ref z6, .ref z7, .int 0, .ref z8, .ref z9, .int 0, .int 0, .int 0, .int 0, .ref z10, .int 0, .null, .ref z11, .ref z12])), (a1, .inl (y 0, 3, .inl (fun _ => 0)))] H := hP
  have hD : va_D A [(a0, .inr (13, [.ref a1, .ref z0, .ref z1, .ref z2, .ref z3, .ref z4, .int 45, .ref z5, .ref z6, .ref z7, .int 0, .ref z8, .ref z9, .int 0, .int 0, .int 0, .int 0, .ref z10, .int 0, .null, .ref z11, .ref z12])), (a1, .inl (y 0, 3, .inl (fun _ => 0)))] := hD
  refine W.widen (k := 0) (n := 0) (Nat.le_of_ble_eq_true rfl) (Nat.le_of_ble_eq_true rfl) ?_
  refine W.eq (g2 := F0 m 5 ls [.int 0]) rfl ?_
  refine lv_if_eq (tgt := 20) hx hb dX11_pair_5 (by decide) (fun _ => ?_) (fun c => absurd (by decide) c)
  refine lv_iconst (v := 0) hx hb dX11_pair_20 (by decide) ?_
  refine lv_istore_n (lv' := [(3, .int 0), (0, .ref a0), (1, .int p0), (2, .int p1)]) hx hb dX11_pair_21 rfl hl (by decide) rfl (fun ls hl => ?_)
  refine lv_iload_n hx hb dX11_pair_22 rfl (lv_at hl 0 rfl) ?_
  refine lv_if_eq (tgt := 39) hx hb dX11_pair_23 (by decide) (fun _ => ?_) (fun c => absurd (by decide) c)
  refine lv_iconst (v := 0) hx hb dX11_pair_39 (by decide) ?_
  refine lv_istore (lv' := [(4, .int 0), (3, .int 0), (0, .ref a0), (1, .int p0), (2, .int p1)]) hx hb dX11_pair_40 hl (by decide) rfl (fun ls hl => ?_)
  refine lv_aload_n hx hb dX11_pair_42 rfl (lv_at hl 2 rfl) ?_
  refine lv_iload_n hx hb dX11_pair_43 rfl (lv_at hl 1 rfl) ?_
  refine lv_if_ne (tgt := 51) hx hb dX11_pair_44 (by decide) (fun c => absurd (by decide) c) (fun _ => ?_)
  refine lv_iconst (v := 1) hx hb dX11_pair_47 (by decide) ?_
  refine lv_goto (tgt := 52) hx hb dX11_pair_48 (by decide) ?_
  refine lv_iload hx hb dX11_pair_52 (lv_at hl 0 rfl) ?_
  refine lv_iload_n hx hb dX11_pair_54 rfl (lv_at hl 1 rfl) ?_
  refine lv_if_eq (tgt := 84) hx hb dX11_pair_55 (by decide) (fun _ => ?_) (fun c => absurd (by decide) c)
  refine lv_iconst (v := 0) hx hb dX11_pair_84 (by decide) ?_
  refine cV (l := l) (yM := yX11_fails) (C := RX11) (As := [.int 1, .int 0, .int 0]) (rest := []) (wr := [(a1, .inl (y 0, 3, .inl (fun _ => 0)))]) hF (c67_X11_fails l a0 a1 z0 z1 z2 z3 z4 z5 z6 z7 z8 z9 z10 z11 z12) gv_RX11_128 3 (by decide +kernel) rfl ⟨(Nat.le_of_ble_eq_true rfl), (Nat.le_of_ble_eq_true rfl)⟩ hl.1 rfl (Nat.le_of_ble_eq_true rfl) dX11_pair_85 ⟨(Nat.le_of_ble_eq_true rfl), (Nat.le_of_ble_eq_true rfl)⟩ hP hD hS (va_free (wc := [(a0, .inr (13, [.ref a1, .ref z0, .ref z1, .ref z2, .ref z3, .ref z4, .int 45, .ref z5, .ref z6, .ref z7, .int 0, .ref z8, .ref z9, .int 0, .int 0, .int 0, .int 0, .ref z10, .int 0, .null, .ref z11, .ref z12]))]) hD hS hA [0] rfl) (fun _ h => h) [0] [0] [1] rfl rfl rfl rfl rfl (by decide) 0 (ci := 13) rfl rfl rfl (fun u_2 H locs hP hD hS => ?_)
  have hP : va_P D vwCl [(a1, .inl (y 0, 3, .inl (fun _ => 0))), (a0, .inr (13, [.ref a1, .ref z0, .ref z1, .ref z2, .ref z3, .ref z4, .int 45, .ref z5, .ref z6, .ref z7, .int 0, .ref z8, .ref z9, .int 0, .int 0, .int 1, .int 0, .ref z10, .int 0, .null, .ref z11, .ref z12]))] H := hP
  have hD : va_D A [(a1, .inl (y 0, 3, .inl (fun _ => 0))), (a0, .inr (13, [.ref a1, .ref z0, .ref z1, .ref z2, .ref z3, .ref z4, .int 45, .ref z5, .ref z6, .ref z7, .int 0, .ref z8, .ref z9, .int 0, .int 0, .int 1, .int 0, .ref z10, .int 0, .null, .ref z11, .ref z12]))] := hD
  refine W.widen (k := 0) (n := 0) (Nat.le_of_ble_eq_true rfl) (Nat.le_of_ble_eq_true rfl) ?_
  refine W.eq (g2 := F0 m 88 ls [.int 1]) rfl ?_
  refine lv_if_eq (tgt := 93) hx hb dX11_pair_88 (by decide) (fun c => absurd c (by decide)) (fun _ => ?_)
  refine lv_iconst (v := 0) hx hb dX11_pair_91 (by decide) ?_
  exact e_i hF hr (Nat.le_of_ble_eq_true rfl) (Nat.le_of_ble_eq_true rfl) hS (qg_end hS (fun _ => 0) rfl [1, 0] hP rfl (hD.sub [1, 0] rfl rfl)) dX11_pair_92

set_option maxHeartbeats 4000000 in
set_option maxRecDepth 100000 in
theorem c254_X10_part (l : Launch) (hlt : l.stackTraces = false) (a0 : Nat) (a1 : Nat) (a2 : Nat) (z0 : Nat) (z1 : Nat) (z2 : Nat) (z3 : Nat) (z4 : Nat) (z5 : Nat) (z6 : Nat) (z7 : Nat) (z8 : Nat) (z9 : Nat) (z10 : Nat) (z11 : Nat) (z12 : Nat) (z13 : Nat) (z14 : Nat) (z15 : Nat) (z16 : Nat) (z17 : Nat) (z18 : Nat) (p0 : Int32) : CX l (.code yX10_part cX10_part 3 (some .int)) yX10_part { frames := 7, cells := 1, slots := 6, locals := 111 } [.ref a0, .int p0] (fun y => [(a0, .inr (12, [.ref a1, .ref z0, .ref z1, .ref z2, .ref z3, .ref z4, .ref z5, .ref z6, .ref z7, .ref z8, .ref z9, .ref z10, .ref z11, .ref z12, .ref z13])), (a1, .inr (5, [.ref a2, .ref z14, .ref z15])), (a2, .inr (4, [.int 0, .ref z16, .ref z17, .ref z18]))]) (fun _ => []) "java/util/NoSuchElementException" := by
  refine mkX (by decide) (Nat.le_of_ble_eq_true rfl) ?_
  intro p e s m args below meth c D y A ls hF htb hAe hP hD hS hl
  have hF : FX p e s m args meth c cX10_part 3 RX10 "part" D y A := hF
  obtain ⟨⟨hx, hb, hml, hown, hts⟩, hev, heh, hA, hlk, hnm⟩ := id hF
  have hK := hev.1
  have hP : va_P D vwCl [(a0, .inr (12, [.ref a1, .ref z0, .ref z1, .ref z2, .ref z3, .ref z4, .ref z5, .ref z6, .ref z7, .ref z8, .ref z9, .ref z10, .ref z11, .ref z12, .ref z13])), (a1, .inr (5, [.ref a2, .ref z14, .ref z15])), (a2, .inr (4, [.int 0, .ref z16, .ref z17, .ref z18]))] s.heap := hP
  have hD : va_D (fun _ => True) [(a0, .inr (12, [.ref a1, .ref z0, .ref z1, .ref z2, .ref z3, .ref z4, .ref z5, .ref z6, .ref z7, .ref z8, .ref z9, .ref z10, .ref z11, .ref z12, .ref z13])), (a1, .inr (5, [.ref a2, .ref z14, .ref z15])), (a2, .inr (4, [.int 0, .ref z16, .ref z17, .ref z18]))] := hD
  have hl : lv_has ls 3 [(0, .ref a0), (1, .int p0)] := hl
  refine lv_aload_n hx hb dX10_part_0 rfl (lv_at hl 0 rfl) ?_
  refine lv_iload_n hx hb dX10_part_1 rfl (lv_at hl 1 rfl) ?_
  exact xV (l := l) (yM := yX10_needPerson) (C := RX10) (As := [.int p0]) (rest := []) hF htb (c249_X10_needPerson l hlt a0 a1 a2 z0 z1 z2 z3 z4 z5 z6 z7 z8 z9 z10 z11 z12 z13 z14 z15 z16 z17 z18 p0) gv_RX10_254 1 (by decide +kernel) rfl ⟨(Nat.le_of_ble_eq_true rfl), (Nat.le_of_ble_eq_true rfl)⟩ hl.1 rfl (Nat.le_of_ble_eq_true rfl) dX10_part_2 ⟨(Nat.le_of_ble_eq_true rfl), (Nat.le_of_ble_eq_true rfl)⟩ hP hD hS (pA hA hS) [0, 1, 2] rfl rfl 0 (ci := 12) rfl rfl rfl ⟨(Nat.le_of_ble_eq_true rfl), (Nat.le_of_ble_eq_true rfl)⟩

set_option maxHeartbeats 4000000 in
set_option maxRecDepth 100000 in
theorem c254_L_part (l : Launch) (hlt : l.stackTraces = false) (a0 : Nat) (a1 : Nat) (a2 : Nat) (z0 : Nat) (z1 : Nat) (z2 : Nat) (z3 : Nat) (z4 : Nat) (z5 : Nat) (z6 : Nat) (z7 : Nat) (z8 : Nat) (z9 : Nat) (z10 : Nat) (z11 : Nat) (z12 : Nat) (z13 : Nat) (z14 : Nat) (z15 : Nat) (z16 : Nat) (z17 : Nat) (z18 : Nat) (p0 : Int32) (z19 : Nat) : CT l (.codeWith yL_part cL_part 4 (some .int) [(0, 9, 12, 24)]) yL_part { frames := 8, cells := 1, slots := 6, locals := 133 } [.ref a0, .int p0, .ref z19] (fun y => [(a0, .inr (12, [.ref a1, .ref z0, .ref z1, .ref z2, .ref z3, .ref z4, .ref z5, .ref z6, .ref z7, .ref z8, .ref z9, .ref z10, .ref z11, .ref z12, .ref z13])), (a1, .inr (5, [.ref a2, .ref z14, .ref z15])), (a2, .inr (4, [.int 0, .ref z16, .ref z17, .ref z18]))]) (fun _ => []) (fun u => some (.int 1)) (fun y u => []) := by
  refine mkH (by decide) (Nat.le_of_ble_eq_true rfl) ?_
  intro p e s m args below meth c D y A ls hF htab hr hAe hP hD hS hl
  have hF : FX p e s m args meth c cL_part 4 RL "part" D y A := hF
  obtain ⟨⟨hx, hb, hml, hown, hts⟩, hev, heh, hA, hlk, hnm⟩ := id hF
  have hK := hev.1
  have hP : va_P D vwCl [(a0, .inr (12, [.ref a1, .ref z0, .ref z1, .ref z2, .ref z3, .ref z4, .ref z5, .ref z6, .ref z7, .ref z8, .ref z9, .ref z10, .ref z11, .ref z12, .ref z13])), (a1, .inr (5, [.ref a2, .ref z14, .ref z15])), (a2, .inr (4, [.int 0, .ref z16, .ref z17, .ref z18]))] s.heap := hP
  have hD : va_D (fun _ => True) [(a0, .inr (12, [.ref a1, .ref z0, .ref z1, .ref z2, .ref z3, .ref z4, .ref z5, .ref z6, .ref z7, .ref z8, .ref z9, .ref z10, .ref z11, .ref z12, .ref z13])), (a1, .inr (5, [.ref a2, .ref z14, .ref z15])), (a2, .inr (4, [.int 0, .ref z16, .ref z17, .ref z18]))] := hD
  have hl : lv_has ls 4 [(0, .ref a0), (1, .int p0), (2, .ref z19)] := hl
  refine lv_aload_n hx hb dL_part_0 rfl (lv_at hl 2 rfl) ?_
  refine lv_iconst (v := 0) hx hb dL_part_1 (by decide) ?_
  refine lv_aload_n hx hb dL_part_2 rfl (lv_at hl 0 rfl) ?_
  refine lv_iload_n hx hb dL_part_3 rfl (lv_at hl 1 rfl) ?_
  refine hV (wr := [(a0, .inr (12, [.ref a1, .ref z0, .ref z1, .ref z2, .ref z3, .ref z4, .ref z5, .ref z6, .ref z7, .ref z8, .ref z9, .ref z10, .ref z11, .ref z12, .ref z13])), (a1, .inr (5, [.ref a2, .ref z14, .ref z15])), (a2, .inr (4, [.int 0, .ref z16, .ref z17, .ref z18]))]) (name := "java/util/NoSuchElementException") (E0 := "java/util/NoSuchElementException") (l := l) (yM := yX10_part) (C := RX10) (As := [.int p0]) (rest := [.int 0, .ref z19]) hF (c254_X10_part l hlt a0 a1 a2 z0 z1 z2 z3 z4 z5 z6 z7 z8 z9 z10 z11 z12 z13 z14 z15 z16 z17 z18 p0) gv_RL_80 1 (by decide +kernel) rfl ⟨(Nat.le_of_ble_eq_true rfl), (Nat.le_of_ble_eq_true rfl)⟩ hl.1 rfl (Nat.le_of_ble_eq_true rfl) dL_part_4 ⟨(Nat.le_of_ble_eq_true rfl), (Nat.le_of_ble_eq_true rfl)⟩ hP hD hS (pA hA hS) (fun _ _ => trivial) [0, 1, 2] [] [0, 1, 2] rfl rfl rfl rfl rfl (by decide) 0 (ci := 12) rfl rfl rfl [] ⟨0, 9, 12, 24⟩ [] htab (fun z hz => nomatch hz) (by decide) (by decide) wd_261 (by decide) (fun q9 H locs hP hD hS => ?_)
  have hP : va_P D vwCl [(a0, .inr (12, [.ref a1, .ref z0, .ref z1, .ref z2, .ref z3, .ref z4, .ref z5, .ref z6, .ref z7, .ref z8, .ref z9, .ref z10, .ref z11, .ref z12, .ref z13])), (a1, .inr (5, [.ref a2, .ref z14, .ref z15])), (a2, .inr (4, [.int 0, .ref z16, .ref z17, .ref z18]))] H := hP
  have hD : va_D (fun _ => True) [(a0, .inr (12, [.ref a1, .ref z0, .ref z1, .ref z2, .ref z3, .ref z4, .ref z5, .ref z6, .ref z7, .ref z8, .ref z9, .ref z10, .ref z11, .ref z12, .ref z13])), (a1, .inr (5, [.ref a2, .ref z14, .ref z15])), (a2, .inr (4, [.int 0, .ref z16, .ref z17, .ref z18]))] := hD
  refine W.widen (k := 1) (n := 6) (Nat.le_of_ble_eq_true rfl) (Nat.le_of_ble_eq_true rfl) ?_
  refine W.eq (g2 := F0 m 12 ls [.ref q9]) rfl ?_
  refine lv_astore_n (lv' := [(3, .ref q9), (0, .ref a0), (1, .int p0), (2, .ref z19)]) hx hb dL_part_12 rfl hl (by decide) rfl (fun ls hl => ?_)
  refine lv_iconst (v := 1) hx hb dL_part_13 (by decide) ?_
  exact e_i hF hr (Nat.le_of_ble_eq_true rfl) (Nat.le_of_ble_eq_true rfl) hS (qg_end hS (fun _ => 0) rfl [] hP rfl d_nil) dL_part_14

set_option maxHeartbeats 4000000 in
set_option maxRecDepth 100000 in
theorem c256_X11_part (l : Launch) (a0 : Nat) (a1 : Nat) (z0 : Nat) (z1 : Nat) (z2 : Nat) (z3 : Nat) (z4 : Nat) (z5 : Nat) (z6 : Nat) (z7 : Nat) (z8 : Nat) (z9 : Nat) (z10 : Nat) (z11 : Nat) (z12 : Nat) (p0 : Int32) : CT l (.code yX11_part cX11_part 3 (some .int)) yX11_part { frames := 2, cells := 0, slots := 0, locals := 43 } [.ref a0, .int p0] (fun y => [(a0, .inr (13, [.ref a1, .ref z0, .ref z1, .ref z2, .ref z3, .ref z4, .int 45, .ref z5, .ref z6, .ref z7, .int 0, .ref z8, .ref z9, .int 0, .int 0, .int 0, .int 0, .ref z10, .int 0, .null, .ref z11, .ref z12])), (a1, .inl (y 0, 3, .inl (fun _ => 0)))]) (fun y => [(a0, .inr (13, [.ref a1, .ref z0, .ref z1, .ref z2, .ref z3, .ref z4, .int 45, .ref z5, .ref z6, .ref z7, .int 0, .ref z8, .ref z9, .int 0, .int 0, .int 0, .int 0, .ref z10, .int 0, .null, .ref z11, .ref z12])), (a1, .inl (y 0, 3, .inl (fun _ => 0)))]) (fun u => some (.int 0)) (fun y u => [(a0, .inr (13, [.ref a1, .ref z0, .ref z1, .ref z2, .ref z3, .ref z4, .int 45, .ref z5, .ref z6, .ref z7, .int 0, .ref z8, .ref z9, .int 0, .int 0, .int 1, .int 0, .ref z10, .int 0, .null, .ref z11, .ref z12])), (a1, .inl (y 0, 3, .inl (fun _ => 0)))]) := by
  refine mkM (by decide) (Nat.le_of_ble_eq_true rfl) ?_
  intro p e s m args below meth c D y A ls hF hr hAe hP hD hS hl
  have hF : FX p e s m args meth c cX11_part 3 RX11 "part" D y A := hF
  obtain ⟨⟨hx, hb, hml, hown, hts⟩, hev, heh, hA, hlk, hnm⟩ := id hF
  have hK := hev.1
  have hP : va_P D vwCl [(a0, .inr (13, [.ref a1, .ref z0, .ref z1, .ref z2, .ref z3, .ref z4, .int 45, .ref z5, .ref z6, .ref z7, .int 0, .ref z8, .ref z9, .int 0, .int 0, .int 0, .int 0, .ref z10, .int 0, .null, .ref z11, .ref z12])), (a1, .inl (y 0, 3, .inl (fun _ => 0)))] s.heap := hP
  have hD : va_D A [(a0, .inr (13, [.ref a1, .ref z0, .ref z1, .ref z2, .ref z3, .ref z4, .int 45, .ref z5, .ref z6, .ref z7, .int 0, .ref z8, .ref z9, .int 0, .int 0, .int 0, .int 0, .ref z10, .int 0, .null, .ref z11, .ref z12])), (a1, .inl (y 0, 3, .inl (fun _ => 0)))] := by rw [← hAe]; exact hD.self
  have hl : lv_has ls 3 [(0, .ref a0), (1, .int p0)] := hl
  refine lv_aload_n hx hb dX11_part_0 rfl (lv_at hl 0 rfl) ?_
  refine lv_aload_n hx hb dX11_part_1 rfl (lv_at hl 0 rfl) ?_
  refine lv_iload_n hx hb dX11_part_2 rfl (lv_at hl 1 rfl) ?_
  refine cV (l := l) (yM := yX11_isPerson) (C := RX11) (As := [.int p0]) (rest := [.ref a0]) (wr := [(a0, .inr (13, [.ref a1, .ref z0, .ref z1, .ref z2, .ref z3, .ref z4, .int 45, .ref z5, .ref z6, .ref z7, .int 0, .ref z8, .ref z9, .int 0, .int 0, .int 0, .int 0, .ref z10, .int 0, .null, .ref z11, .ref z12])), (a1, .inl (y 0, 3, .inl (fun _ => 0)))]) hF (c252_X11_isPerson l a0 a1 z0 z1 z2 z3 z4 z5 z6 z7 z8 z9 z10 z11 z12 p0) gv_RX11_176 1 (by decide +kernel) rfl ⟨(Nat.le_of_ble_eq_true rfl), (Nat.le_of_ble_eq_true rfl)⟩ hl.1 rfl (Nat.le_of_ble_eq_true rfl) dX11_part_3 ⟨(Nat.le_of_ble_eq_true rfl), (Nat.le_of_ble_eq_true rfl)⟩ hP hD hS (pA hA hS) (fun _ h => h) [0, 1] [] [0, 1] rfl rfl rfl rfl rfl (by decide) 0 (ci := 13) rfl rfl rfl (fun u_1 H locs hP hD hS => ?_)
  have hP : va_P D vwCl [(a0, .inr (13, [.ref a1, .ref z0, .ref z1, .ref z2, .ref z3, .ref z4, .int 45, .ref z5, .ref z6, .ref z7, .int 0, .ref z8, .ref z9, .int 0, .int 0, .int 0, .int 0, .ref z10, .int 0, .null, .ref z11, .ref z12])), (a1, .inl (y 0, 3, .inl (fun _ => 0)))] H := hP
  have hD : va_D A [(a0, .inr (13, [.ref a1, .ref z0, .ref z1, .ref z2, .ref z3, .ref z4, .int 45, .ref z5, .ref z6, .ref z7, .int 0, .ref z8, .ref z9, .int 0, .int 0, .int 0, .int 0, .ref z10, .int 0, .null, .ref z11, .ref z12])), (a1, .inl (y 0, 3, .inl (fun _ => 0)))] := hD
  refine W.widen (k := 0) (n := 0) (Nat.le_of_ble_eq_true rfl) (Nat.le_of_ble_eq_true rfl) ?_
  refine W.eq (g2 := F0 m 6 ls [.int 0, .ref a0]) rfl ?_
  refine lv_if_ne (tgt := 13) hx hb dX11_part_6 (by decide) (fun c => absurd (by decide) c) (fun _ => ?_)
  refine lv_iconst (v := 1) hx hb dX11_part_9 (by decide) ?_
  refine lv_goto (tgt := 14) hx hb dX11_part_10 (by decide) ?_
  refine lv_iconst (v := 0) hx hb dX11_part_14 (by decide) ?_
  refine lv_iconst (v := 0) hx hb dX11_part_15 (by decide) ?_
  refine cV (l := l) (yM := yX11_fails) (C := RX11) (As := [.int 1, .int 0, .int 0]) (rest := []) (wr := [(a1, .inl (y 0, 3, .inl (fun _ => 0)))]) hF (c67_X11_fails l a0 a1 z0 z1 z2 z3 z4 z5 z6 z7 z8 z9 z10 z11 z12) gv_RX11_128 3 (by decide +kernel) rfl ⟨(Nat.le_of_ble_eq_true rfl), (Nat.le_of_ble_eq_true rfl)⟩ hl.1 rfl (Nat.le_of_ble_eq_true rfl) dX11_part_16 ⟨(Nat.le_of_ble_eq_true rfl), (Nat.le_of_ble_eq_true rfl)⟩ hP hD hS (va_free (wc := [(a0, .inr (13, [.ref a1, .ref z0, .ref z1, .ref z2, .ref z3, .ref z4, .int 45, .ref z5, .ref z6, .ref z7, .int 0, .ref z8, .ref z9, .int 0, .int 0, .int 0, .int 0, .ref z10, .int 0, .null, .ref z11, .ref z12]))]) hD hS hA [0] rfl) (fun _ h => h) [0] [0] [1] rfl rfl rfl rfl rfl (by decide) 0 (ci := 13) rfl rfl rfl (fun u_2 H locs hP hD hS => ?_)
  have hP : va_P D vwCl [(a1, .inl (y 0, 3, .inl (fun _ => 0))), (a0, .inr (13, [.ref a1, .ref z0, .ref z1, .ref z2, .ref z3, .ref z4, .int 45, .ref z5, .ref z6, .ref z7, .int 0, .ref z8, .ref z9, .int 0, .int 0, .int 1, .int 0, .ref z10, .int 0, .null, .ref z11, .ref z12]))] H := hP
  have hD : va_D A [(a1, .inl (y 0, 3, .inl (fun _ => 0))), (a0, .inr (13, [.ref a1, .ref z0, .ref z1, .ref z2, .ref z3, .ref z4, .int 45, .ref z5, .ref z6, .ref z7, .int 0, .ref z8, .ref z9, .int 0, .int 0, .int 1, .int 0, .ref z10, .int 0, .null, .ref z11, .ref z12]))] := hD
  refine W.widen (k := 0) (n := 0) (Nat.le_of_ble_eq_true rfl) (Nat.le_of_ble_eq_true rfl) ?_
  refine W.eq (g2 := F0 m 19 ls [.int 1]) rfl ?_
  refine lv_if_eq (tgt := 24) hx hb dX11_part_19 (by decide) (fun c => absurd c (by decide)) (fun _ => ?_)
  refine lv_iconst (v := 0) hx hb dX11_part_22 (by decide) ?_
  exact e_i hF hr (Nat.le_of_ble_eq_true rfl) (Nat.le_of_ble_eq_true rfl) hS (qg_end hS (fun _ => 0) rfl [1, 0] hP rfl (hD.sub [1, 0] rfl rfl)) dX11_part_23

set_option maxHeartbeats 4000000 in
set_option maxRecDepth 100000 in
theorem c257_X10_houseOf (l : Launch) (hlt : l.stackTraces = false) (a0 : Nat) (a1 : Nat) (a2 : Nat) (z0 : Nat) (z1 : Nat) (z2 : Nat) (z3 : Nat) (z4 : Nat) (z5 : Nat) (z6 : Nat) (z7 : Nat) (z8 : Nat) (z9 : Nat) (z10 : Nat) (z11 : Nat) (z12 : Nat) (z13 : Nat) (z14 : Nat) (z15 : Nat) (z16 : Nat) (z17 : Nat) (z18 : Nat) (p0 : Int32) : CX l (.code yX10_houseOf cX10_houseOf 2 (some .int)) yX10_houseOf { frames := 7, cells := 1, slots := 6, locals := 111 } [.ref a0, .int p0] (fun y => [(a0, .inr (12, [.ref a1, .ref z0, .ref z1, .ref z2, .ref z3, .ref z4, .ref z5, .ref z6, .ref z7, .ref z8, .ref z9, .ref z10, .ref z11, .ref z12, .ref z13])), (a1, .inr (5, [.ref a2, .ref z14, .ref z15])), (a2, .inr (4, [.int 0, .ref z16, .ref z17, .ref z18]))]) (fun _ => []) "java/util/NoSuchElementException" := by
  refine mkX (by decide) (Nat.le_of_ble_eq_true rfl) ?_
  intro p e s m args below meth c D y A ls hF htb hAe hP hD hS hl
  have hF : FX p e s m args meth c cX10_houseOf 2 RX10 "houseOf" D y A := hF
  obtain ⟨⟨hx, hb, hml, hown, hts⟩, hev, heh, hA, hlk, hnm⟩ := id hF
  have hK := hev.1
  have hP : va_P D vwCl [(a0, .inr (12, [.ref a1, .ref z0, .ref z1, .ref z2, .ref z3, .ref z4, .ref z5, .ref z6, .ref z7, .ref z8, .ref z9, .ref z10, .ref z11, .ref z12, .ref z13])), (a1, .inr (5, [.ref a2, .ref z14, .ref z15])), (a2, .inr (4, [.int 0, .ref z16, .ref z17, .ref z18]))] s.heap := hP
  have hD : va_D (fun _ => True) [(a0, .inr (12, [.ref a1, .ref z0, .ref z1, .ref z2, .ref z3, .ref z4, .ref z5, .ref z6, .ref z7, .ref z8, .ref z9, .ref z10, .ref z11, .ref z12, .ref z13])), (a1, .inr (5, [.ref a2, .ref z14, .ref z15])), (a2, .inr (4, [.int 0, .ref z16, .ref z17, .ref z18]))] := hD
  have hl : lv_has ls 2 [(0, .ref a0), (1, .int p0)] := hl
  refine lv_aload_n hx hb dX10_houseOf_0 rfl (lv_at hl 0 rfl) ?_
  refine lv_iload_n hx hb dX10_houseOf_1 rfl (lv_at hl 1 rfl) ?_
  exact xV (l := l) (yM := yX10_needPerson) (C := RX10) (As := [.int p0]) (rest := []) hF htb (c249_X10_needPerson l hlt a0 a1 a2 z0 z1 z2 z3 z4 z5 z6 z7 z8 z9 z10 z11 z12 z13 z14 z15 z16 z17 z18 p0) gv_RX10_254 1 (by decide +kernel) rfl ⟨(Nat.le_of_ble_eq_true rfl), (Nat.le_of_ble_eq_true rfl)⟩ hl.1 rfl (Nat.le_of_ble_eq_true rfl) dX10_houseOf_2 ⟨(Nat.le_of_ble_eq_true rfl), (Nat.le_of_ble_eq_true rfl)⟩ hP hD hS (pA hA hS) [0, 1, 2] rfl rfl 0 (ci := 12) rfl rfl rfl ⟨(Nat.le_of_ble_eq_true rfl), (Nat.le_of_ble_eq_true rfl)⟩

set_option maxHeartbeats 4000000 in
set_option maxRecDepth 100000 in
theorem c257_L_houseOf (l : Launch) (hlt : l.stackTraces = false) (a0 : Nat) (a1 : Nat) (a2 : Nat) (z0 : Nat) (z1 : Nat) (z2 : Nat) (z3 : Nat) (z4 : Nat) (z5 : Nat) (z6 : Nat) (z7 : Nat) (z8 : Nat) (z9 : Nat) (z10 : Nat) (z11 : Nat) (z12 : Nat) (z13 : Nat) (z14 : Nat) (z15 : Nat) (z16 : Nat) (z17 : Nat) (z18 : Nat) (p0 : Int32) (z19 : Nat) : CT l (.codeWith yL_houseOf cL_houseOf 4 (some .int) [(0, 9, 12, 24)]) yL_houseOf { frames := 8, cells := 1, slots := 6, locals := 132 } [.ref a0, .int p0, .ref z19] (fun y => [(a0, .inr (12, [.ref a1, .ref z0, .ref z1, .ref z2, .ref z3, .ref z4, .ref z5, .ref z6, .ref z7, .ref z8, .ref z9, .ref z10, .ref z11, .ref z12, .ref z13])), (a1, .inr (5, [.ref a2, .ref z14, .ref z15])), (a2, .inr (4, [.int 0, .ref z16, .ref z17, .ref z18]))]) (fun _ => []) (fun u => some (.int 1)) (fun y u => []) := by
  refine mkH (by decide) (Nat.le_of_ble_eq_true rfl) ?_
  intro p e s m args below meth c D y A ls hF htab hr hAe hP hD hS hl
  have hF : FX p e s m args meth c cL_houseOf 4 RL "houseOf" D y A := hF
  obtain ⟨⟨hx, hb, hml, hown, hts⟩, hev, heh, hA, hlk, hnm⟩ := id hF
  have hK := hev.1
  have hP : va_P D vwCl [(a0, .inr (12, [.ref a1, .ref z0, .ref z1, .ref z2, .ref z3, .ref z4, .ref z5, .ref z6, .ref z7, .ref z8, .ref z9, .ref z10, .ref z11, .ref z12, .ref z13])), (a1, .inr (5, [.ref a2, .ref z14, .ref z15])), (a2, .inr (4, [.int 0, .ref z16, .ref z17, .ref z18]))] s.heap := hP
  have hD : va_D (fun _ => True) [(a0, .inr (12, [.ref a1, .ref z0, .ref z1, .ref z2, .ref z3, .ref z4, .ref z5, .ref z6, .ref z7, .ref z8, .ref z9, .ref z10, .ref z11, .ref z12, .ref z13])), (a1, .inr (5, [.ref a2, .ref z14, .ref z15])), (a2, .inr (4, [.int 0, .ref z16, .ref z17, .ref z18]))] := hD
  have hl : lv_has ls 4 [(0, .ref a0), (1, .int p0), (2, .ref z19)] := hl
  refine lv_aload_n hx hb dL_houseOf_0 rfl (lv_at hl 2 rfl) ?_
  refine lv_iconst (v := 0) hx hb dL_houseOf_1 (by decide) ?_
  refine lv_aload_n hx hb dL_houseOf_2 rfl (lv_at hl 0 rfl) ?_
  refine lv_iload_n hx hb dL_houseOf_3 rfl (lv_at hl 1 rfl) ?_
  refine hV (wr := [(a0, .inr (12, [.ref a1, .ref z0, .ref z1, .ref z2, .ref z3, .ref z4, .ref z5, .ref z6, .ref z7, .ref z8, .ref z9, .ref z10, .ref z11, .ref z12, .ref z13])), (a1, .inr (5, [.ref a2, .ref z14, .ref z15])), (a2, .inr (4, [.int 0, .ref z16, .ref z17, .ref z18]))]) (name := "java/util/NoSuchElementException") (E0 := "java/util/NoSuchElementException") (l := l) (yM := yX10_houseOf) (C := RX10) (As := [.int p0]) (rest := [.int 0, .ref z19]) hF (c257_X10_houseOf l hlt a0 a1 a2 z0 z1 z2 z3 z4 z5 z6 z7 z8 z9 z10 z11 z12 z13 z14 z15 z16 z17 z18 p0) gv_RL_83 1 (by decide +kernel) rfl ⟨(Nat.le_of_ble_eq_true rfl), (Nat.le_of_ble_eq_true rfl)⟩ hl.1 rfl (Nat.le_of_ble_eq_true rfl) dL_houseOf_4 ⟨(Nat.le_of_ble_eq_true rfl), (Nat.le_of_ble_eq_true rfl)⟩ hP hD hS (pA hA hS) (fun _ _ => trivial) [0, 1, 2] [] [0, 1, 2] rfl rfl rfl rfl rfl (by decide) 0 (ci := 12) rfl rfl rfl [] ⟨0, 9, 12, 24⟩ [] htab (fun z hz => nomatch hz) (by decide) (by decide) wd_261 (by decide) (fun q9 H locs hP hD hS => ?_)
  have hP : va_P D vwCl [(a0, .inr (12, [.ref a1, .ref z0, .ref z1, .ref z2, .ref z3, .ref z4, .ref z5, .ref z6, .ref z7, .ref z8, .ref z9, .ref z10, .ref z11, .ref z12, .ref z13])), (a1, .inr (5, [.ref a2, .ref z14, .ref z15])), (a2, .inr (4, [.int 0, .ref z16, .ref z17, .ref z18]))] H := hP
  have hD : va_D (fun _ => True) [(a0, .inr (12, [.ref a1, .ref z0, .ref z1, .ref z2, .ref z3, .ref z4, .ref z5, .ref z6, .ref z7, .ref z8, .ref z9, .ref z10, .ref z11, .ref z12, .ref z13])), (a1, .inr (5, [.ref a2, .ref z14, .ref z15])), (a2, .inr (4, [.int 0, .ref z16, .ref z17, .ref z18]))] := hD
  refine W.widen (k := 1) (n := 6) (Nat.le_of_ble_eq_true rfl) (Nat.le_of_ble_eq_true rfl) ?_
  refine W.eq (g2 := F0 m 12 ls [.ref q9]) rfl ?_
  refine lv_astore_n (lv' := [(3, .ref q9), (0, .ref a0), (1, .int p0), (2, .ref z19)]) hx hb dL_houseOf_12 rfl hl (by decide) rfl (fun ls hl => ?_)
  refine lv_iconst (v := 1) hx hb dL_houseOf_13 (by decide) ?_
  exact e_i hF hr (Nat.le_of_ble_eq_true rfl) (Nat.le_of_ble_eq_true rfl) hS (qg_end hS (fun _ => 0) rfl [] hP rfl d_nil) dL_houseOf_14

set_option maxHeartbeats 4000000 in
set_option maxRecDepth 100000 in
theorem c259_X11_houseOf (l : Launch) (a0 : Nat) (a1 : Nat) (z0 : Nat) (z1 : Nat) (z2 : Nat) (z3 : Nat) (z4 : Nat) (z5 : Nat) (z6 : Nat) (z7 : Nat) (z8 : Nat) (z9 : Nat) (z10 : Nat) (z11 : Nat) (z12 : Nat) (p0 : Int32) : CT l (.code yX11_houseOf cX11_houseOf 2 (some .int)) yX11_houseOf { frames := 2, cells := 0, slots := 0, locals := 43 } [.ref a0, .int p0] (fun y => [(a0, .inr (13, [.ref a1, .ref z0, .ref z1, .ref z2, .ref z3, .ref z4, .int 45, .ref z5, .ref z6, .ref z7, .int 0, .ref z8, .ref z9, .int 0, .int 0, .int 0, .int 0, .ref z10, .int 0, .null, .ref z11, .ref z12])), (a1, .inl (y 0, 3, .inl (fun _ => 0)))]) (fun y => [(a0, .inr (13, [.ref a1, .ref z0, .ref z1, .ref z2, .ref z3, .ref z4, .int 45, .ref z5, .ref z6, .ref z7, .int 0, .ref z8, .ref z9, .int 0, .int 0, .int 0, .int 0, .ref z10, .int 0, .null, .ref z11, .ref z12])), (a1, .inl (y 0, 3, .inl (fun _ => 0)))]) (fun u => some (.int 0)) (fun y u => [(a0, .inr (13, [.ref a1, .ref z0, .ref z1, .ref z2, .ref z3, .ref z4, .int 45, .ref z5, .ref z6, .ref z7, .int 0, .ref z8, .ref z9, .int 0, .int 0, .int 1, .int 0, .ref z10, .int 0, .null, .ref z11, .ref z12])), (a1, .inl (y 0, 3, .inl (fun _ => 0)))]) := by
  refine mkM (by decide) (Nat.le_of_ble_eq_true rfl) ?_
  intro p e s m args below meth c D y A ls hF hr hAe hP hD hS hl
  have hF : FX p e s m args meth c cX11_houseOf 2 RX11 "houseOf" D y A := hF
  obtain ⟨⟨hx, hb, hml, hown, hts⟩, hev, heh, hA, hlk, hnm⟩ := id hF
  have hK := hev.1
  have hP : va_P D vwCl [(a0, .inr (13, [.ref a1, .ref z0, .ref z1, .ref z2, .ref z3, .ref z4, .int 45, .ref z5, .ref z6, .ref z7, .int 0, .ref z8, .ref z9, .int 0, .int 0, .int 0, .int 0, .ref z10, .int 0, .null, .ref z11, .ref z12])), (a1, .inl (y 0, 3, .inl (fun _ => 0)))] s.heap := hP
  have hD : va_D A [(a0, .inr (13, [.ref a1, .ref z0, .ref z1, .ref z2, .ref z3, .ref z4, .int 45, .ref z5, .ref z6, .ref z7, .int 0, .ref z8, .ref z9, .int 0, .int 0, .int 0, .int 0, .ref z10, .int 0, .null, .ref z11, .ref z12])), (a1, .inl (y 0, 3, .inl (fun _ => 0)))] := by rw [← hAe]; exact hD.self
  have hl : lv_has ls 2 [(0, .ref a0), (1, .int p0)] := hl
  refine lv_aload_n hx hb dX11_houseOf_0 rfl (lv_at hl 0 rfl) ?_
  refine lv_aload_n hx hb dX11_houseOf_1 rfl (lv_at hl 0 rfl) ?_
  refine lv_iload_n hx hb dX11_houseOf_2 rfl (lv_at hl 1 rfl) ?_
  refine cV (l := l) (yM := yX11_isPerson) (C := RX11) (As := [.int p0]) (rest := [.ref a0]) (wr := [(a0, .inr (13, [.ref a1, .ref z0, .ref z1, .ref z2, .ref z3, .ref z4, .int 45, .ref z5, .ref z6, .ref z7, .int 0, .ref z8, .ref z9, .int 0, .int 0, .int 0, .int 0, .ref z10, .int 0, .null, .ref z11, .ref z12])), (a1, .inl (y 0, 3, .inl (fun _ => 0)))]) hF (c252_X11_isPerson l a0 a1 z0 z1 z2 z3 z4 z5 z6 z7 z8 z9 z10 z11 z12 p0) gv_RX11_176 1 (by decide +kernel) rfl ⟨(Nat.le_of_ble_eq_true rfl), (Nat.le_of_ble_eq_true rfl)⟩ hl.1 rfl (Nat.le_of_ble_eq_true rfl) dX11_houseOf_3 ⟨(Nat.le_of_ble_eq_true rfl), (Nat.le_of_ble_eq_true rfl)⟩ hP hD hS (pA hA hS) (fun _ h => h) [0, 1] [] [0, 1] rfl rfl rfl rfl rfl (by decide) 0 (ci := 13) rfl rfl rfl (fun u_1 H locs hP hD hS => ?_)
  have hP : va_P D vwCl [(a0, .inr (13, [.ref a1, .ref z0, .ref z1, .ref z2, .ref z3, .ref z4, .int 45, .ref z5, .ref z6, .ref z7, .int 0, .ref z8, .ref z9, .int 0, .int 0, .int 0, .int 0, .ref z10, .int 0, .null, .ref z11, .ref z12])), (a1, .inl (y 0, 3, .inl (fun _ => 0)))] H := hP
  have hD : va_D A [(a0, .inr (13, [.ref a1, .ref z0, .ref z1, .ref z2, .ref z3, .ref z4, .int 45, .ref z5, .ref z6, .ref z7, .int 0, .ref z8, .ref z9, .int 0, .int 0, .int 0, .int 0, .ref z10, .int 0, .null, .ref z11, .ref z12])), (a1, .inl (y 0, 3, .inl (fun _ => 0)))] := hD
  refine W.widen (k := 0) (n := 0) (Nat.le_of_ble_eq_true rfl) (Nat.le_of_ble_eq_true rfl) ?_
  refine W.eq (g2 := F0 m 6 ls [.int 0, .ref a0]) rfl ?_
  refine lv_if_ne (tgt := 13) hx hb dX11_houseOf_6 (by decide) (fun c => absurd (by decide) c) (fun _ => ?_)
  refine lv_iconst (v := 1) hx hb dX11_houseOf_9 (by decide) ?_
  refine lv_goto (tgt := 14) hx hb dX11_houseOf_10 (by decide) ?_
  refine lv_iconst (v := 0) hx hb dX11_houseOf_14 (by decide) ?_
  refine lv_iconst (v := 0) hx hb dX11_houseOf_15 (by decide) ?_
  refine cV (l := l) (yM := yX11_fails) (C := RX11) (As := [.int 1, .int 0, .int 0]) (rest := []) (wr := [(a1, .inl (y 0, 3, .inl (fun _ => 0)))]) hF (c67_X11_fails l a0 a1 z0 z1 z2 z3 z4 z5 z6 z7 z8 z9 z10 z11 z12) gv_RX11_128 3 (by decide +kernel) rfl ⟨(Nat.le_of_ble_eq_true rfl), (Nat.le_of_ble_eq_true rfl)⟩ hl.1 rfl (Nat.le_of_ble_eq_true rfl) dX11_houseOf_16 ⟨(Nat.le_of_ble_eq_true rfl), (Nat.le_of_ble_eq_true rfl)⟩ hP hD hS (va_free (wc := [(a0, .inr (13, [.ref a1, .ref z0, .ref z1, .ref z2, .ref z3, .ref z4, .int 45, .ref z5, .ref z6, .ref z7, .int 0, .ref z8, .ref z9, .int 0, .int 0, .int 0, .int 0, .ref z10, .int 0, .null, .ref z11, .ref z12]))]) hD hS hA [0] rfl) (fun _ h => h) [0] [0] [1] rfl rfl rfl rfl rfl (by decide) 0 (ci := 13) rfl rfl rfl (fun u_2 H locs hP hD hS => ?_)
  have hP : va_P D vwCl [(a1, .inl (y 0, 3, .inl (fun _ => 0))), (a0, .inr (13, [.ref a1, .ref z0, .ref z1, .ref z2, .ref z3, .ref z4, .int 45, .ref z5, .ref z6, .ref z7, .int 0, .ref z8, .ref z9, .int 0, .int 0, .int 1, .int 0, .ref z10, .int 0, .null, .ref z11, .ref z12]))] H := hP
  have hD : va_D A [(a1, .inl (y 0, 3, .inl (fun _ => 0))), (a0, .inr (13, [.ref a1, .ref z0, .ref z1, .ref z2, .ref z3, .ref z4, .int 45, .ref z5, .ref z6, .ref z7, .int 0, .ref z8, .ref z9, .int 0, .int 0, .int 1, .int 0, .ref z10, .int 0, .null, .ref z11, .ref z12]))] := hD
  refine W.widen (k := 0) (n := 0) (Nat.le_of_ble_eq_true rfl) (Nat.le_of_ble_eq_true rfl) ?_
  refine W.eq (g2 := F0 m 19 ls [.int 1]) rfl ?_
  refine lv_if_eq (tgt := 26) hx hb dX11_houseOf_19 (by decide) (fun c => absurd c (by decide)) (fun _ => ?_)
  refine lv_iconst (v := 0) hx hb dX11_houseOf_22 (by decide) ?_
  refine lv_goto (tgt := 32) hx hb dX11_houseOf_23 (by decide) ?_
  exact e_i hF hr (Nat.le_of_ble_eq_true rfl) (Nat.le_of_ble_eq_true rfl) hS (qg_end hS (fun _ => 0) rfl [1, 0] hP rfl (hD.sub [1, 0] rfl rfl)) dX11_houseOf_32

set_option maxHeartbeats 4000000 in
set_option maxRecDepth 100000 in
theorem c260_X10_held (l : Launch) (hlt : l.stackTraces = false) (a0 : Nat) (a1 : Nat) (a2 : Nat) (z0 : Nat) (z1 : Nat) (z2 : Nat) (z3 : Nat) (z4 : Nat) (z5 : Nat) (z6 : Nat) (z7 : Nat) (z8 : Nat) (z9 : Nat) (z10 : Nat) (z11 : Nat) (z12 : Nat) (z13 : Nat) (z14 : Nat) (z15 : Nat) (z16 : Nat) (z17 : Nat) (z18 : Nat) (p0 : Int32) : CX l (.code yX10_held cX10_held 2 (some .int)) yX10_held { frames := 7, cells := 1, slots := 6, locals := 111 } [.ref a0, .int p0] (fun y => [(a0, .inr (12, [.ref a1, .ref z0, .ref z1, .ref z2, .ref z3, .ref z4, .ref z5, .ref z6, .ref z7, .ref z8, .ref z9, .ref z10, .ref z11, .ref z12, .ref z13])), (a1, .inr (5, [.ref z14, .ref a2, .ref z15])), (a2, .inr (4, [.int 0, .ref z16, .ref z17, .ref z18]))]) (fun _ => []) "java/util/NoSuchElementException" := by
  refine mkX (by decide) (Nat.le_of_ble_eq_true rfl) ?_
  intro p e s m args below meth c D y A ls hF htb hAe hP hD hS hl
  have hF : FX p e s m args meth c cX10_held 2 RX10 "held" D y A := hF
  obtain ⟨⟨hx, hb, hml, hown, hts⟩, hev, heh, hA, hlk, hnm⟩ := id hF
  have hK := hev.1
  have hP : va_P D vwCl [(a0, .inr (12, [.ref a1, .ref z0, .ref z1, .ref z2, .ref z3, .ref z4, .ref z5, .ref z6, .ref z7, .ref z8, .ref z9, .ref z10, .ref z11, .ref z12, .ref z13])), (a1, .inr (5, [.ref z14, .ref a2, .ref z15])), (a2, .inr (4, [.int 0, .ref z16, .ref z17, .ref z18]))] s.heap := hP
  have hD : va_D (fun _ => True) [(a0, .inr (12, [.ref a1, .ref z0, .ref z1, .ref z2, .ref z3, .ref z4, .ref z5, .ref z6, .ref z7, .ref z8, .ref z9, .ref z10, .ref z11, .ref z12, .ref z13])), (a1, .inr (5, [.ref z14, .ref a2, .ref z15])), (a2, .inr (4, [.int 0, .ref z16, .ref z17, .ref z18]))] := hD
  have hl : lv_has ls 2 [(0, .ref a0), (1, .int p0)] := hl
  refine lv_aload_n hx hb dX10_held_0 rfl (lv_at hl 0 rfl) ?_
  refine lv_iload_n hx hb dX10_held_1 rfl (lv_at hl 1 rfl) ?_
  exact xV (l := l) (yM := yX10_needHouse) (C := RX10) (As := [.int p0]) (rest := []) hF htb (c82_X10_needHouse l hlt a0 a1 a2 z0 z1 z2 z3 z4 z5 z6 z7 z8 z9 z10 z11 z12 z13 z14 z15 z16 z17 z18 p0) gv_RX10_116 1 (by decide +kernel) rfl ⟨(Nat.le_of_ble_eq_true rfl), (Nat.le_of_ble_eq_true rfl)⟩ hl.1 rfl (Nat.le_of_ble_eq_true rfl) dX10_held_2 ⟨(Nat.le_of_ble_eq_true rfl), (Nat.le_of_ble_eq_true rfl)⟩ hP hD hS (pA hA hS) [0, 1, 2] rfl rfl 0 (ci := 12) rfl rfl rfl ⟨(Nat.le_of_ble_eq_true rfl), (Nat.le_of_ble_eq_true rfl)⟩

set_option maxHeartbeats 4000000 in
set_option maxRecDepth 100000 in
theorem c260_L_held (l : Launch) (hlt : l.stackTraces = false) (a0 : Nat) (a1 : Nat) (a2 : Nat) (z0 : Nat) (z1 : Nat) (z2 : Nat) (z3 : Nat) (z4 : Nat) (z5 : Nat) (z6 : Nat) (z7 : Nat) (z8 : Nat) (z9 : Nat) (z10 : Nat) (z11 : Nat) (z12 : Nat) (z13 : Nat) (z14 : Nat) (z15 : Nat) (z16 : Nat) (z17 : Nat) (z18 : Nat) (p0 : Int32) (z19 : Nat) : CT l (.codeWith yL_held cL_held 4 (some .int) [(0, 9, 12, 24)]) yL_held { frames := 8, cells := 1, slots := 6, locals := 132 } [.ref a0, .int p0, .ref z19] (fun y => [(a0, .inr (12, [.ref a1, .ref z0, .ref z1, .ref z2, .ref z3, .ref z4, .ref z5, .ref z6, .ref z7, .ref z8, .ref z9, .ref z10, .ref z11, .ref z12, .ref z13])), (a1, .inr (5, [.ref z14, .ref a2, .ref z15])), (a2, .inr (4, [.int 0, .ref z16, .ref z17, .ref z18]))]) (fun _ => []) (fun u => some (.int 1)) (fun y u => []) := by
  refine mkH (by decide) (Nat.le_of_ble_eq_true rfl) ?_
  intro p e s m args below meth c D y A ls hF htab hr hAe hP hD hS hl
  have hF : FX p e s m args meth c cL_held 4 RL "held" D y A := hF
  obtain ⟨⟨hx, hb, hml, hown, hts⟩, hev, heh, hA, hlk, hnm⟩ := id hF
  have hK := hev.1
  have hP : va_P D vwCl [(a0, .inr (12, [.ref a1, .ref z0, .ref z1, .ref z2, .ref z3, .ref z4, .ref z5, .ref z6, .ref z7, .ref z8, .ref z9, .ref z10, .ref z11, .ref z12, .ref z13])), (a1, .inr (5, [.ref z14, .ref a2, .ref z15])), (a2, .inr (4, [.int 0, .ref z16, .ref z17, .ref z18]))] s.heap := hP
  have hD : va_D (fun _ => True) [(a0, .inr (12, [.ref a1, .ref z0, .ref z1, .ref z2, .ref z3, .ref z4, .ref z5, .ref z6, .ref z7, .ref z8, .ref z9, .ref z10, .ref z11, .ref z12, .ref z13])), (a1, .inr (5, [.ref z14, .ref a2, .ref z15])), (a2, .inr (4, [.int 0, .ref z16, .ref z17, .ref z18]))] := hD
  have hl : lv_has ls 4 [(0, .ref a0), (1, .int p0), (2, .ref z19)] := hl
  refine lv_aload_n hx hb dL_held_0 rfl (lv_at hl 2 rfl) ?_
  refine lv_iconst (v := 0) hx hb dL_held_1 (by decide) ?_
  refine lv_aload_n hx hb dL_held_2 rfl (lv_at hl 0 rfl) ?_
  refine lv_iload_n hx hb dL_held_3 rfl (lv_at hl 1 rfl) ?_
  refine hV (wr := [(a0, .inr (12, [.ref a1, .ref z0, .ref z1, .ref z2, .ref z3, .ref z4, .ref z5, .ref z6, .ref z7, .ref z8, .ref z9, .ref z10, .ref z11, .ref z12, .ref z13])), (a1, .inr (5, [.ref z14, .ref a2, .ref z15])), (a2, .inr (4, [.int 0, .ref z16, .ref z17, .ref z18]))]) (name := "java/util/NoSuchElementException") (E0 := "java/util/NoSuchElementException") (l := l) (yM := yX10_held) (C := RX10) (As := [.int p0]) (rest := [.int 0, .ref z19]) hF (c260_X10_held l hlt a0 a1 a2 z0 z1 z2 z3 z4 z5 z6 z7 z8 z9 z10 z11 z12 z13 z14 z15 z16 z17 z18 p0) gv_RL_86 1 (by decide +kernel) rfl ⟨(Nat.le_of_ble_eq_true rfl), (Nat.le_of_ble_eq_true rfl)⟩ hl.1 rfl (Nat.le_of_ble_eq_true rfl) dL_held_4 ⟨(Nat.le_of_ble_eq_true rfl), (Nat.le_of_ble_eq_true rfl)⟩ hP hD hS (pA hA hS) (fun _ _ => trivial) [0, 1, 2] [] [0, 1, 2] rfl rfl rfl rfl rfl (by decide) 0 (ci := 12) rfl rfl rfl [] ⟨0, 9, 12, 24⟩ [] htab (fun z hz => nomatch hz) (by decide) (by decide) wd_261 (by decide) (fun q9 H locs hP hD hS => ?_)
  have hP : va_P D vwCl [(a0, .inr (12, [.ref a1, .ref z0, .ref z1, .ref z2, .ref z3, .ref z4, .ref z5, .ref z6, .ref z7, .ref z8, .ref z9, .ref z10, .ref z11, .ref z12, .ref z13])), (a1, .inr (5, [.ref z14, .ref a2, .ref z15])), (a2, .inr (4, [.int 0, .ref z16, .ref z17, .ref z18]))] H := hP
  have hD : va_D (fun _ => True) [(a0, .inr (12, [.ref a1, .ref z0, .ref z1, .ref z2, .ref z3, .ref z4, .ref z5, .ref z6, .ref z7, .ref z8, .ref z9, .ref z10, .ref z11, .ref z12, .ref z13])), (a1, .inr (5, [.ref z14, .ref a2, .ref z15])), (a2, .inr (4, [.int 0, .ref z16, .ref z17, .ref z18]))] := hD
  refine W.widen (k := 1) (n := 6) (Nat.le_of_ble_eq_true rfl) (Nat.le_of_ble_eq_true rfl) ?_
  refine W.eq (g2 := F0 m 12 ls [.ref q9]) rfl ?_
  refine lv_astore_n (lv' := [(3, .ref q9), (0, .ref a0), (1, .int p0), (2, .ref z19)]) hx hb dL_held_12 rfl hl (by decide) rfl (fun ls hl => ?_)
  refine lv_iconst (v := 1) hx hb dL_held_13 (by decide) ?_
  exact e_i hF hr (Nat.le_of_ble_eq_true rfl) (Nat.le_of_ble_eq_true rfl) hS (qg_end hS (fun _ => 0) rfl [] hP rfl d_nil) dL_held_14

set_option maxHeartbeats 4000000 in
set_option maxRecDepth 100000 in
theorem c262_X11_held (l : Launch) (a0 : Nat) (a1 : Nat) (z0 : Nat) (z1 : Nat) (z2 : Nat) (z3 : Nat) (z4 : Nat) (z5 : Nat) (z6 : Nat) (z7 : Nat) (z8 : Nat) (z9 : Nat) (z10 : Nat) (z11 : Nat) (z12 : Nat) (p0 : Int32) : CT l (.code yX11_held cX11_held 2 (some .int)) yX11_held { frames := 2, cells := 0, slots := 0, locals := 43 } [.ref a0, .int p0] (fun y => [(a0, .inr (13, [.ref a1, .ref z0, .ref z1, .ref z2, .ref z3, .ref z4, .int 45, .ref z5, .ref z6, .ref z7, .int 0, .ref z8, .ref z9, .int 0, .int 0, .int 0, .int 0, .ref z10, .int 0, .null, .ref z11, .ref z12])), (a1, .inl (y 0, 3, .inl (fun _ => 0)))]) (fun y => [(a0, .inr (13, [.ref a1, .ref z0, .ref z1, .ref z2, .ref z3, .ref z4, .int 45, .ref z5, .ref z6, .ref z7, .int 0, .ref z8, .ref z9, .int 0, .int 0, .int 0, .int 0, .ref z10, .int 0, .null, .ref z11, .ref z12])), (a1, .inl (y 0, 3, .inl (fun _ => 0)))]) (fun u => some (.int 0)) (fun y u => [(a0, .inr (13, [.ref a1, .ref z0, .ref z1, .ref z2, .ref z3, .ref z4, .int 45, .ref z5, .ref z6, .ref z7, .int 0, .ref z8, .ref z9, .int 0, .int 0, .int 1, .int 0, .ref z10, .int 0, .null, .ref z11, .ref z12])), (a1, .inl (y 0, 3, .inl (fun _ => 0)))]) := by
  refine mkM (by decide) (Nat.le_of_ble_eq_true rfl) ?_
  intro p e s m args below meth c D y A ls hF hr hAe hP hD hS hl
  have hF : FX p e s m args meth c cX11_held 2 RX11 "held" D y A := hF
  obtain ⟨⟨hx, hb, hml, hown, hts⟩, hev, heh, hA, hlk, hnm⟩ := id hF
  have hK := hev.1
  have hP : va_P D vwCl [(a0, .inr (13, [.ref a1, .ref z0, .ref z1, .ref z2, .ref z3, .ref z4, .int 45, .ref z5, .ref z6, .ref z7, .int 0, .ref z8, .ref z9, .int 0, .int 0, .int 0, .int 0, .ref z10, .int 0, .null, .ref z11, .ref z12])), (a1, .inl (y 0, 3, .inl (fun _ => 0)))] s.heap := hP
  have hD : va_D A [(a0, .inr (13, [.ref a1, .ref z0, .ref z1, .ref z2, .ref z3, .ref z4, .int 45, .ref z5, .ref z6, .ref z7, .int 0, .ref z8, .ref z9, .int 0, .int 0, .int 0, .int 0, .ref z10, .int 0, .null, .ref z11, .ref z12])), (a1, .inl (y 0, 3, .inl (fun _ => 0)))] := by rw [← hAe]; exact hD.self
  have hl : lv_has ls 2 [(0, .ref a0), (1, .int p0)] := hl
  refine lv_aload_n hx hb dX11_held_0 rfl (lv_at hl 0 rfl) ?_
  refine lv_aload_n hx hb dX11_held_1 rfl (lv_at hl 0 rfl) ?_
  refine lv_iload_n hx hb dX11_held_2 rfl (lv_at hl 1 rfl) ?_
  refine cV (l := l) (yM := yX11_isHouse) (C := RX11) (As := [.int p0]) (rest := [.ref a0]) (wr := [(a0, .inr (13, [.ref a1, .ref z0, .ref z1, .ref z2, .ref z3, .ref z4, .int 45, .ref z5, .ref z6, .ref z7, .int 0, .ref z8, .ref z9, .int 0, .int 0, .int 0, .int 0, .ref z10, .int 0, .null, .ref z11, .ref z12])), (a1, .inl (y 0, 3, .inl (fun _ => 0)))]) hF (c86_X11_isHouse l a0 a1 z0 z1 z2 z3 z4 z5 z6 z7 z8 z9 z10 z11 z12 p0) gv_RX11_135 1 (by decide +kernel) rfl ⟨(Nat.le_of_ble_eq_true rfl), (Nat.le_of_ble_eq_true rfl)⟩ hl.1 rfl (Nat.le_of_ble_eq_true rfl) dX11_held_3 ⟨(Nat.le_of_ble_eq_true rfl), (Nat.le_of_ble_eq_true rfl)⟩ hP hD hS (pA hA hS) (fun _ h => h) [0, 1] [] [0, 1] rfl rfl rfl rfl rfl (by decide) 0 (ci := 13) rfl rfl rfl (fun u_1 H locs hP hD hS => ?_)
  have hP : va_P D vwCl [(a0, .inr (13, [.ref a1, .ref z0, .ref z1, .ref z2, .ref z3, .ref z4, .int 45, .ref z5, .ref z6, .ref z7, .int 0, .ref z8, .ref z9, .int 0, .int 0, .int 0, .int 0, .ref z10, .int 0, .null, .ref z11, .ref z12])), (a1, .inl (y 0, 3, .inl (fun _ => 0)))] H := hP
  have hD : va_D A [(a0, .inr (13, [.ref a1, .ref z0, .ref z1, .ref z2, .ref z3, .ref z4, .int 45, .ref z5, .ref z6, .ref z7, .int 0, .ref z8, .ref z9, .int 0, .int 0, .int 0, .int 0, .ref z10, .int 0, .null, .ref z11, .ref z12])), (a1, .inl (y 0, 3, .inl (fun _ => 0)))] := hD
  refine W.widen (k := 0) (n := 0) (Nat.le_of_ble_eq_true rfl) (Nat.le_of_ble_eq_true rfl) ?_
  refine W.eq (g2 := F0 m 6 ls [.int 0, .ref a0]) rfl ?_
  refine lv_if_ne (tgt := 13) hx hb dX11_held_6 (by decide) (fun c => absurd (by decide) c) (fun _ => ?_)
  refine lv_iconst (v := 1) hx hb dX11_held_9 (by decide) ?_
  refine lv_goto (tgt := 14) hx hb dX11_held_10 (by decide) ?_
  refine lv_iconst (v := 0) hx hb dX11_held_14 (by decide) ?_
  refine lv_iconst (v := 0) hx hb dX11_held_15 (by decide) ?_
  refine cV (l := l) (yM := yX11_fails) (C := RX11) (As := [.int 1, .int 0, .int 0]) (rest := []) (wr := [(a1, .inl (y 0, 3, .inl (fun _ => 0)))]) hF (c67_X11_fails l a0 a1 z0 z1 z2 z3 z4 z5 z6 z7 z8 z9 z10 z11 z12) gv_RX11_128 3 (by decide +kernel) rfl ⟨(Nat.le_of_ble_eq_true rfl), (Nat.le_of_ble_eq_true rfl)⟩ hl.1 rfl (Nat.le_of_ble_eq_true rfl) dX11_held_16 ⟨(Nat.le_of_ble_eq_true rfl), (Nat.le_of_ble_eq_true rfl)⟩ hP hD hS (va_free (wc := [(a0, .inr (13, [.ref a1, .ref z0, .ref z1, .ref z2, .ref z3, .ref z4, .int 45, .ref z5, .ref z6, .ref z7, .int 0, .ref z8, .ref z9, .int 0, .int 0, .int 0, .int 0, .ref z10, .int 0, .null, .ref z11, .ref z12]))]) hD hS hA [0] rfl) (fun _ h => h) [0] [0] [1] rfl rfl rfl rfl rfl (by decide) 0 (ci := 13) rfl rfl rfl (fun u_2 H locs hP hD hS => ?_)
  have hP : va_P D vwCl [(a1, .inl (y 0, 3, .inl (fun _ => 0))), (a0, .inr (13, [.ref a1, .ref z0, .ref z1, .ref z2, .ref z3, .ref z4, .int 45, .ref z5, .ref z6, .ref z7, .int 0, .ref z8, .ref z9, .int 0, .int 0, .int 1, .int 0, .ref z10, .int 0, .null, .ref z11, .ref z12]))] H := hP
  have hD : va_D A [(a1, .inl (y 0, 3, .inl (fun _ => 0))), (a0, .inr (13, [.ref a1, .ref z0, .ref z1, .ref z2, .ref z3, .ref z4, .int 45, .ref z5, .ref z6, .ref z7, .int 0, .ref z8, .ref z9, .int 0, .int 0, .int 1, .int 0, .ref z10, .int 0, .null, .ref z11, .ref z12]))] := hD
  refine W.widen (k := 0) (n := 0) (Nat.le_of_ble_eq_true rfl) (Nat.le_of_ble_eq_true rfl) ?_
  refine W.eq (g2 := F0 m 19 ls [.int 1]) rfl ?_
  refine lv_if_eq (tgt := 26) hx hb dX11_held_19 (by decide) (fun c => absurd c (by decide)) (fun _ => ?_)
  refine lv_iconst (v := 0) hx hb dX11_held_22 (by decide) ?_
  refine lv_goto (tgt := 35) hx hb dX11_held_23 (by decide) ?_
  exact e_i hF hr (Nat.le_of_ble_eq_true rfl) (Nat.le_of_ble_eq_true rfl) hS (qg_end hS (fun _ => 0) rfl [1, 0] hP rfl (hD.sub [1, 0] rfl rfl)) dX11_held_35

set_option maxHeartbeats 4000000 in
set_option maxRecDepth 100000 in
theorem c263_X10_heldAt (l : Launch) (hlt : l.stackTraces = false) (a0 : Nat) (a1 : Nat) (a2 : Nat) (z0 : Nat) (z1 : Nat) (z2 : Nat) (z3 : Nat) (z4 : Nat) (z5 : Nat) (z6 : Nat) (z7 : Nat) (z8 : Nat) (z9 : Nat) (z10 : Nat) (z11 : Nat) (z12 : Nat) (z13 : Nat) (z14 : Nat) (z15 : Nat) (z16 : Nat) (z17 : Nat) (z18 : Nat) (p0 : Int32) (p1 : Int32) : CX l (.code yX10_heldAt cX10_heldAt 3 (some .int)) yX10_heldAt { frames := 7, cells := 1, slots := 6, locals := 111 } [.ref a0, .int p0, .int p1] (fun y => [(a0, .inr (12, [.ref a1, .ref z0, .ref z1, .ref z2, .ref z3, .ref z4, .ref z5, .ref z6, .ref z7, .ref z8, .ref z9, .ref z10, .ref z11, .ref z12, .ref z13])), (a1, .inr (5, [.ref z14, .ref a2, .ref z15])), (a2, .inr (4, [.int 0, .ref z16, .ref z17, .ref z18]))]) (fun _ => []) "java/util/NoSuchElementException" := by
  refine mkX (by decide) (Nat.le_of_ble_eq_true rfl) ?_
  intro p e s m args below meth c D y A ls hF htb hAe hP hD hS hl
  have hF : FX p e s m args meth c cX10_heldAt 3 RX10 "heldAt" D y A := hF
  obtain ⟨⟨hx, hb, hml, hown, hts⟩, hev, heh, hA, hlk, hnm⟩ := id hF
  have hK := hev.1
  have hP : va_P D vwCl [(a0, .inr (12, [.ref a1, .ref z0, .ref z1, .ref z2, .ref z3, .ref z4, .ref z5, .ref z6, .ref z7, .ref z8, .ref z9, .ref z10, .ref z11, .ref z12, .ref z13])), (a1, .inr (5, [.ref z14, .ref a2, .ref z15])), (a2, .inr (4, [.int 0, .ref z16, .ref z17, .ref z18]))] s.heap := hP
  have hD : va_D (fun _ => True) [(a0, .inr (12, [.ref a1, .ref z0, .ref z1, .ref z2, .ref z3, .ref z4, .ref z5, .ref z6, .ref z7, .ref z8, .ref z9, .ref z10, .ref z11, .ref z12, .ref z13])), (a1, .inr (5, [.ref z14, .ref a2, .ref z15])), (a2, .inr (4, [.int 0, .ref z16, .ref z17, .ref z18]))] := hD
  have hl : lv_has ls 3 [(0, .ref a0), (1, .int p0), (2, .int p1)] := hl
  refine lv_aload_n hx hb dX10_heldAt_0 rfl (lv_at hl 0 rfl) ?_
  refine lv_iload_n hx hb dX10_heldAt_1 rfl (lv_at hl 1 rfl) ?_
  exact xV (l := l) (yM := yX10_needHouse) (C := RX10) (As := [.int p0]) (rest := []) hF htb (c82_X10_needHouse l hlt a0 a1 a2 z0 z1 z2 z3 z4 z5 z6 z7 z8 z9 z10 z11 z12 z13 z14 z15 z16 z17 z18 p0) gv_RX10_116 1 (by decide +kernel) rfl ⟨(Nat.le_of_ble_eq_true rfl), (Nat.le_of_ble_eq_true rfl)⟩ hl.1 rfl (Nat.le_of_ble_eq_true rfl) dX10_heldAt_2 ⟨(Nat.le_of_ble_eq_true rfl), (Nat.le_of_ble_eq_true rfl)⟩ hP hD hS (pA hA hS) [0, 1, 2] rfl rfl 0 (ci := 12) rfl rfl rfl ⟨(Nat.le_of_ble_eq_true rfl), (Nat.le_of_ble_eq_true rfl)⟩

set_option maxHeartbeats 4000000 in
set_option maxRecDepth 100000 in
theorem c263_L_heldAt (l : Launch) (hlt : l.stackTraces = false) (a0 : Nat) (a1 : Nat) (a2 : Nat) (z0 : Nat) (z1 : Nat) (z2 : Nat) (z3 : Nat) (z4 : Nat) (z5 : Nat) (z6 : Nat) (z7 : Nat) (z8 : Nat) (z9 : Nat) (z10 : Nat) (z11 : Nat) (z12 : Nat) (z13 : Nat) (z14 : Nat) (z15 : Nat) (z16 : Nat) (z17 : Nat) (z18 : Nat) (p0 : Int32) (p1 : Int32) (z19 : Nat) : CT l (.codeWith yL_heldAt cL_heldAt 5 (some .int) [(0, 10, 13, 24), (0, 10, 17, 36)]) yL_heldAt { frames := 8, cells := 1, slots := 6, locals := 133 } [.ref a0, .int p0, .int p1, .ref z19] (fun y => [(a0, .inr (12, [.ref a1, .ref z0, .ref z1, .ref z2, .ref z3, .ref z4, .ref z5, .ref z6, .ref z7, .ref z8, .ref z9, .ref z10, .ref z11, .ref z12, .ref z13])), (a1, .inr (5, [.ref z14, .ref a2, .ref z15])), (a2, .inr (4, [.int 0, .ref z16, .ref z17, .ref z18]))]) (fun _ => []) (fun u => some (.int 1)) (fun y u => []) := by
  refine mkH (by decide) (Nat.le_of_ble_eq_true rfl) ?_
  intro p e s m args below meth c D y A ls hF htab hr hAe hP hD hS hl
  have hF : FX p e s m args meth c cL_heldAt 5 RL "heldAt" D y A := hF
  obtain ⟨⟨hx, hb, hml, hown, hts⟩, hev, heh, hA, hlk, hnm⟩ := id hF
  have hK := hev.1
  have hP : va_P D vwCl [(a0, .inr (12, [.ref a1, .ref z0, .ref z1, .ref z2, .ref z3, .ref z4, .ref z5, .ref z6, .ref z7, .ref z8, .ref z9, .ref z10, .ref z11, .ref z12, .ref z13])), (a1, .inr (5, [.ref z14, .ref a2, .ref z15])), (a2, .inr (4, [.int 0, .ref z16, .ref z17, .ref z18]))] s.heap := hP
  have hD : va_D (fun _ => True) [(a0, .inr (12, [.ref a1, .ref z0, .ref z1, .ref z2, .ref z3, .ref z4, .ref z5, .ref z6, .ref z7, .ref z8, .ref z9, .ref z10, .ref z11, .ref z12, .ref z13])), (a1, .inr (5, [.ref z14, .ref a2, .ref z15])), (a2, .inr (4, [.int 0, .ref z16, .ref z17, .ref z18]))] := hD
  have hl : lv_has ls 5 [(0, .ref a0), (1, .int p0), (2, .int p1), (3, .ref z19)] := hl
  refine lv_aload_n hx hb dL_heldAt_0 rfl (lv_at hl 3 rfl) ?_
  refine lv_iconst (v := 0) hx hb dL_heldAt_1 (by decide) ?_
  refine lv_aload_n hx hb dL_heldAt_2 rfl (lv_at hl 0 rfl) ?_
  refine lv_iload_n hx hb dL_heldAt_3 rfl (lv_at hl 1 rfl) ?_
  refine lv_iload_n hx hb dL_heldAt_4 rfl (lv_at hl 2 rfl) ?_
  refine hV (wr := [(a0, .inr (12, [.ref a1, .ref z0, .ref z1, .ref z2, .ref z3, .ref z4, .ref z5, .ref z6, .ref z7, .ref z8, .ref z9, .ref z10, .ref z11, .ref z12, .ref z13])), (a1, .inr (5, [.ref z14, .ref a2, .ref z15])), (a2, .inr (4, [.int 0, .ref z16, .ref z17, .ref z18]))]) (name := "java/util/NoSuchElementException") (E0 := "java/util/NoSuchElementException") (l := l) (yM := yX10_heldAt) (C := RX10) (As := [.int p0, .int p1]) (rest := [.int 0, .ref z19]) hF (c263_X10_heldAt l hlt a0 a1 a2 z0 z1 z2 z3 z4 z5 z6 z7 z8 z9 z10 z11 z12 z13 z14 z15 z16 z17 z18 p0 p1) gv_RL_89 2 (by decide +kernel) rfl ⟨(Nat.le_of_ble_eq_true rfl), (Nat.le_of_ble_eq_true rfl)⟩ hl.1 rfl (Nat.le_of_ble_eq_true rfl) dL_heldAt_5 ⟨(Nat.le_of_ble_eq_true rfl), (Nat.le_of_ble_eq_true rfl)⟩ hP hD hS (pA hA hS) (fun _ _ => trivial) [0, 1, 2] [] [0, 1, 2] rfl rfl rfl rfl rfl (by decide) 0 (ci := 12) rfl rfl rfl [] ⟨0, 10, 13, 24⟩ [⟨0, 10, 17, 36⟩] htab (fun z hz => nomatch hz) (by decide) (by decide) wd_261 (by decide) (fun q9 H locs hP hD hS => ?_)
  have hP : va_P D vwCl [(a0, .inr (12, [.ref a1, .ref z0, .ref z1, .ref z2, .ref z3, .ref z4, .ref z5, .ref z6, .ref z7, .ref z8, .ref z9, .ref z10, .ref z11, .ref z12, .ref z13])), (a1, .inr (5, [.ref z14, .ref a2, .ref z15])), (a2, .inr (4, [.int 0, .ref z16, .ref z17, .ref z18]))] H := hP
  have hD : va_D (fun _ => True) [(a0, .inr (12, [.ref a1, .ref z0, .ref z1, .ref z2, .ref z3, .ref z4, .ref z5, .ref z6, .ref z7, .ref z8, .ref z9, .ref z10, .ref z11, .ref z12, .ref z13])), (a1, .inr (5, [.ref z14, .ref a2, .ref z15])), (a2, .inr (4, [.int 0, .ref z16, .ref z17, .ref z18]))] := hD
  refine W.widen (k := 1) (n := 6) (Nat.le_of_ble_eq_true rfl) (Nat.le_of_ble_eq_true rfl) ?_
  refine W.eq (g2 := F0 m 13 ls [.ref q9]) rfl ?_
  refine lv_astore (lv' := [(4, .ref q9), (0, .ref a0), (1, .int p0), (2, .int p1), (3, .ref z19)]) hx hb dL_heldAt_13 hl (by decide) rfl (fun ls hl => ?_)
  refine lv_iconst (v := 1) hx hb dL_heldAt_15 (by decide) ?_
  exact e_i hF hr (Nat.le_of_ble_eq_true rfl) (Nat.le_of_ble_eq_true rfl) hS (qg_end hS (fun _ => 0) rfl [] hP rfl d_nil) dL_heldAt_16

set_option maxHeartbeats 4000000 in
set_option maxRecDepth 100000 in
theorem c265_X11_heldAt (l : Launch) (a0 : Nat) (a1 : Nat) (z0 : Nat) (z1 : Nat) (z2 : Nat) (z3 : Nat) (z4 : Nat) (z5 : Nat) (z6 : Nat) (z7 : Nat) (z8 : Nat) (z9 : Nat) (z10 : Nat) (z11 : Nat) (z12 : Nat) (p0 : Int32) (p1 : Int32) : CT l (.code yX11_heldAt cX11_heldAt 6 (some .int)) yX11_heldAt { frames := 2, cells := 0, slots := 0, locals := 43 } [.ref a0, .int p0, .int p1] (fun y => [(a0, .inr (13, [.ref a1, .ref z0, .ref z1, .ref z2, .ref z3, .ref z4, .int 45, .ref z5, .ref z6, .ref z7, .int 0, .ref z8, .ref z9, .int 0, .int 0, .int 0, .int 0, .ref z10, .int 0, .null, .ref z11, .ref z12])), (a1, .inl (y 0, 3, .inl (fun _ => 0)))]) (fun y => [(a0, .inr (13, [.ref a1, .ref z0, .ref z1, .ref z2, .ref z3, .ref z4, .int 45, .ref z5, .ref z6, .ref z7, .int 0, .ref z8, .ref z9, .int 0, .int 0, .int 0, .int 0, .ref z10, .int 0, .null, .ref z11, .ref z12])), (a1, .inl (y 0, 3, .inl (fun _ => 0)))]) (fun u => some (.int 0)) (fun y u => [(a0, .inr (13, [.ref a1, .ref z0, .ref z1, .ref z2, .ref z3, .ref z4, .int 45, .ref z5, .ref z6, .ref z7, .int 0, .ref z8, .ref z9, .int 0, .int 0, .int 1, .int 0, .ref z10, .int 0, .null, .ref z11, .ref z12])), (a1, .inl (y 0, 3, .inl (fun _ => 0)))]) := by
  refine mkM (by decide) (Nat.le_of_ble_eq_true rfl) ?_
  intro p e s m args below meth c D y A ls hF hr hAe hP hD hS hl
  have hF : FX p e s m args meth c cX11_heldAt 6 RX11 "heldAt" D y A := hF
  obtain ⟨⟨hx, hb, hml, hown, hts⟩, hev, heh, hA, hlk, hnm⟩ := id hF
  have hK := hev.1
  have hP : va_P D vwCl [(a0, .inr (13, [.ref a1, .ref z0, .ref z1, .ref z2, .ref z3, .ref z4, .int 45, .ref z5, .ref z6, .ref z7, .int 0, .ref z8, .ref z9, .int 0, .int 0, .int 0, .int 0, .ref z10, .int 0, .null, .ref z11, .ref z12])), (a1, .inl (y 0, 3, .inl (fun _ => 0)))] s.heap := hP
  have hD : va_D A [(a0, .inr (13, [.ref a1, .ref z0, .ref z1, .ref z2, .ref z3, .ref z4, .int 45, .ref z5, .ref z6, .ref z7, .int 0, .ref z8, .ref z9, .int 0, .int 0, .int 0, .int 0, .ref z10, .int 0, .null, .ref z11, .ref z12])), (a1, .inl (y 0, 3, .inl (fun _ => 0)))] := by rw [← hAe]; exact hD.self
  have hl : lv_has ls 6 [(0, .ref a0), (1, .int p0), (2, .int p1)] := hl
  refine lv_aload_n hx hb dX11_heldAt_0 rfl (lv_at hl 0 rfl) ?_
  refine lv_iload_n hx hb dX11_heldAt_1 rfl (lv_at hl 1 rfl) ?_
  refine cV (l := l) (yM := yX11_isHouse) (C := RX11) (As := [.int p0]) (rest := []) (wr := [(a0, .inr (13, [.ref a1, .ref z0, .ref z1, .ref z2, .ref z3, .ref z4, .int 45, .ref z5, .ref z6, .ref z7, .int 0, .ref z8, .ref z9, .int 0, .int 0, .int 0, .int 0, .ref z10, .int 0, .null, .ref z11, .ref z12])), (a1, .inl (y 0, 3, .inl (fun _ => 0)))]) hF (c86_X11_isHouse l a0 a1 z0 z1 z2 z3 z4 z5 z6 z7 z8 z9 z10 z11 z12 p0) gv_RX11_135 1 (by decide +kernel) rfl ⟨(Nat.le_of_ble_eq_true rfl), (Nat.le_of_ble_eq_true rfl)⟩ hl.1 rfl (Nat.le_of_ble_eq_true rfl) dX11_heldAt_2 ⟨(Nat.le_of_ble_eq_true rfl), (Nat.le_of_ble_eq_true rfl)⟩ hP hD hS (pA hA hS) (fun _ h => h) [0, 1] [] [0, 1] rfl rfl rfl rfl rfl (by decide) 0 (ci := 13) rfl rfl rfl (fun u_1 H locs hP hD hS => ?_)
  have hP : va_P D vwCl [(a0, .inr (13, [.ref a1, .ref z0, .ref z1, .ref z2, .ref z3, .ref z4, .int 45, .ref z5, .ref z6, .ref z7, .int 0, .ref z8, .ref z9, .int 0, .int 0, .int 0, .int 0, .ref z10, .int 0, .null, .ref z11, .ref z12])), (a1, .inl (y 0, 3, .inl (fun _ => 0)))] H := hP
  have hD : va_D A [(a0, .inr (13, [.ref a1, .ref z0, .ref z1, .ref z2, .ref z3, .ref z4, .int 45, .ref z5, .ref z6, .ref z7, .int 0, .ref z8, .ref z9, .int 0, .int 0, .int 0, .int 0, .ref z10, .int 0, .null, .ref z11, .ref z12])), (a1, .inl (y 0, 3, .inl (fun _ => 0)))] := hD
  refine W.widen (k := 0) (n := 0) (Nat.le_of_ble_eq_true rfl) (Nat.le_of_ble_eq_true rfl) ?_
  refine W.eq (g2 := F0 m 5 ls [.int 0]) rfl ?_
  refine lv_istore_n (lv' := [(3, .int 0), (0, .ref a0), (1, .int p0), (2, .int p1)]) hx hb dX11_heldAt_5 rfl hl (by decide) rfl (fun ls hl => ?_)
  refine lv_aload_n hx hb dX11_heldAt_6 rfl (lv_at hl 1 rfl) ?_
  refine lv_iload_n hx hb dX11_heldAt_7 rfl (lv_at hl 0 rfl) ?_
  refine lv_if_ne (tgt := 15) hx hb dX11_heldAt_8 (by decide) (fun c => absurd (by decide) c) (fun _ => ?_)
  refine lv_iconst (v := 1) hx hb dX11_heldAt_11 (by decide) ?_
  refine lv_goto (tgt := 16) hx hb dX11_heldAt_12 (by decide) ?_
  refine lv_iload_n hx hb dX11_heldAt_16 rfl (lv_at hl 0 rfl) ?_
  refine lv_if_eq (tgt := 43) hx hb dX11_heldAt_17 (by decide) (fun _ => ?_) (fun c => absurd (by decide) c)
  refine lv_iconst (v := 0) hx hb dX11_heldAt_43 (by decide) ?_
  refine lv_iconst (v := 0) hx hb dX11_heldAt_44 (by decide) ?_
  refine cV (l := l) (yM := yX11_fails) (C := RX11) (As := [.int 1, .int 0, .int 0]) (rest := []) (wr := [(a1, .inl (y 0, 3, .inl (fun _ => 0)))]) hF (c67_X11_fails l a0 a1 z0 z1 z2 z3 z4 z5 z6 z7 z8 z9 z10 z11 z12) gv_RX11_128 3 (by decide +kernel) rfl ⟨(Nat.le_of_ble_eq_true rfl), (Nat.le_of_ble_eq_true rfl)⟩ hl.1 rfl (Nat.le_of_ble_eq_true rfl) dX11_heldAt_45 ⟨(Nat.le_of_ble_eq_true rfl), (Nat.le_of_ble_eq_true rfl)⟩ hP hD hS (va_free (wc := [(a0, .inr (13, [.ref a1, .ref z0, .ref z1, .ref z2, .ref z3, .ref z4, .int 45, .ref z5, .ref z6, .ref z7, .int 0, .ref z8, .ref z9, .int 0, .int 0, .int 0, .int 0, .ref z10, .int 0, .null, .ref z11, .ref z12]))]) hD hS hA [0] rfl) (fun _ h => h) [0] [0] [1] rfl rfl rfl rfl rfl (by decide) 0 (ci := 13) rfl rfl rfl (fun u_2 H locs hP hD hS => ?_)
  have hP : va_P D vwCl [(a1, .inl (y 0, 3, .inl (fun _ => 0))), (a0, .inr (13, [.ref a1, .ref z0, .ref z1, .ref z2, .ref z3, .ref z4, .int 45, .ref z5, .ref z6, .ref z7, .int 0, .ref z8, .ref z9, .int 0, .int 0, .int 1, .int 0, .ref z10, .int 0, .null, .ref z11, .ref z12]))] H := hP
  have hD : va_D A [(a1, .inl (y 0, 3, .inl (fun _ => 0))), (a0, .inr (13, [.ref a1, .ref z0, .ref z1, .ref z2, .ref z3, .ref z4, .int 45, .ref z5, .ref z6, .ref z7, .int 0, .ref z8, .ref z9, .int 0, .int 0, .int 1, .int 0, .ref z10, .int 0, .null, .ref z11, .ref z12]))] := hD
  refine W.widen (k := 0) (n := 0) (Nat.le_of_ble_eq_true rfl) (Nat.le_of_ble_eq_true rfl) ?_
  refine W.eq (g2 := F0 m 48 ls [.int 1]) rfl ?_
  refine lv_if_eq (tgt := 53) hx hb dX11_heldAt_48 (by decide) (fun c => absurd c (by decide)) (fun _ => ?_)
  refine lv_iconst (v := 0) hx hb dX11_heldAt_51 (by decide) ?_
  exact e_i hF hr (Nat.le_of_ble_eq_true rfl) (Nat.le_of_ble_eq_true rfl) hS (qg_end hS (fun _ => 0) rfl [1, 0] hP rfl (hD.sub [1, 0] rfl rfl)) dX11_heldAt_52

set_option maxHeartbeats 4000000 in
set_option maxRecDepth 100000 in
theorem c266_X2_placeOf (l : Launch) (a0 : Nat) (z0 : Nat) (z1 : Nat) (z2 : Nat) (p0 : Int32) (p1 : Int32) : CT l (.code yX2_placeOf cX2_placeOf 3 (some .int)) yX2_placeOf { frames := 0, cells := 0, slots := 0, locals := 0 } [.ref a0, .int p0, .int p1] (fun y => [(a0, .inr (4, [.int 0, .ref z0, .ref z1, .ref z2]))]) (fun _ => []) (fun u => some (.int (-1))) (fun y u => []) := by
  refine mkM (by decide) (Nat.le_of_ble_eq_true rfl) ?_
  intro p e s m args below meth c D y A ls hF hr hAe hP hD hS hl
  have hF : FX p e s m args meth c cX2_placeOf 3 RX2 "placeOf" D y A := hF
  obtain ⟨⟨hx, hb, hml, hown, hts⟩, hev, heh, hA, hlk, hnm⟩ := id hF
  have hK := hev.1
  have hP : va_P D vwCl [(a0, .inr (4, [.int 0, .ref z0, .ref z1, .ref z2]))] s.heap := hP
  have hD : va_D (fun _ => True) [(a0, .inr (4, [.int 0, .ref z0, .ref z1, .ref z2]))] := hD
  have hl : lv_has ls 3 [(0, .ref a0), (1, .int p0), (2, .int p1)] := hl
  refine lv_iload_n hx hb dX2_placeOf_0 rfl (lv_at hl 1 rfl) ?_
  refine lv_if_lt (tgt := 28) hx hb dX2_placeOf_1 (by decide) (fun c_1 => ?_) (fun c_1 => ?_)
  · refine lv_iconst (v := (-1)) hx hb dX2_placeOf_28 (by decide) ?_
    exact e_i hF hr (Nat.le_of_ble_eq_true rfl) (Nat.le_of_ble_eq_true rfl) hS (qg_end hS (fun _ => 0) rfl [] hP rfl d_nil) dX2_placeOf_29
  · refine lv_iload_n hx hb dX2_placeOf_4 rfl (lv_at hl 1 rfl) ?_
    refine lv_aload_n hx hb dX2_placeOf_5 rfl (lv_at hl 0 rfl) ?_
    refine va_get (D := D) (ci := 4) (v := .int 0) (C := RX2) (T := TX2) (N := 4) hx hb hts inX2 hown hK hP 0 rfl rfl 0 (by decide) (hts _ wd_142) (fun _ h9 => h9) rfl dX2_placeOf_6 ?_
    refine lv_icmp_ge (tgt := 28) hx hb dX2_placeOf_9 (by decide) (fun _ => ?_) (fun c => absurd (by have e0 : (0 : Int32).toInt = 0 := (by decide); have h9 := c_1; simp only [Int32.lt_iff_toInt_lt, Int32.le_iff_toInt_le, ← Int32.toInt_inj, e0] at h9 ⊢; omega) c)
    refine lv_iconst (v := (-1)) hx hb dX2_placeOf_28 (by decide) ?_
    exact e_i hF hr (Nat.le_of_ble_eq_true rfl) (Nat.le_of_ble_eq_true rfl) hS (qg_end hS (fun _ => 0) rfl [] hP rfl d_nil) dX2_placeOf_29

set_option maxHeartbeats 4000000 in
set_option maxRecDepth 100000 in
theorem c266_X3_areMutual (l : Launch) (a0 : Nat) (a1 : Nat) (z0 : Nat) (z1 : Nat) (z2 : Nat) (z3 : Nat) (z4 : Nat) (p0 : Int32) (p1 : Int32) : CT l (.code yX3_areMutual cX3_areMutual 3 (some .boolean)) yX3_areMutual { frames := 1, cells := 0, slots := 0, locals := 22 } [.ref a0, .int p0, .int p1] (fun y => [(a0, .inr (5, [.ref a1, .ref z0, .ref z1])), (a1, .inr (4, [.int 0, .ref z2, .ref z3, .ref z4]))]) (fun _ => []) (fun u => some (.int 0)) (fun y u => []) := by
  refine mkM (by decide) (Nat.le_of_ble_eq_true rfl) ?_
  intro p e s m args below meth c D y A ls hF hr hAe hP hD hS hl
  have hF : FX p e s m args meth c cX3_areMutual 3 RX3 "areMutual" D y A := hF
  obtain ⟨⟨hx, hb, hml, hown, hts⟩, hev, heh, hA, hlk, hnm⟩ := id hF
  have hK := hev.1
  have hP : va_P D vwCl [(a0, .inr (5, [.ref a1, .ref z0, .ref z1])), (a1, .inr (4, [.int 0, .ref z2, .ref z3, .ref z4]))] s.heap := hP
  have hD : va_D (fun _ => True) [(a0, .inr (5, [.ref a1, .ref z0, .ref z1])), (a1, .inr (4, [.int 0, .ref z2, .ref z3, .ref z4]))] := hD
  have hl : lv_has ls 3 [(0, .ref a0), (1, .int p0), (2, .int p1)] := hl
  refine lv_aload_n hx hb dX3_areMutual_0 rfl (lv_at hl 0 rfl) ?_
  refine va_get (D := D) (ci := 5) (v := .ref a1) (C := RX3) (T := TX3) (N := 3) hx hb hts inX3 hown hK hP 0 rfl rfl 0 (by decide) (hts _ wd_18) (fun _ h9 => h9) rfl dX3_areMutual_1 ?_
  refine lv_iload_n hx hb dX3_areMutual_4 rfl (lv_at hl 1 rfl) ?_
  refine lv_iload_n hx hb dX3_areMutual_5 rfl (lv_at hl 2 rfl) ?_
  refine cV (l := l) (yM := yX2_placeOf) (C := RX2) (As := [.int p0, .int p1]) (rest := []) (wr := [(a0, .inr (5, [.ref a1, .ref z0, .ref z1])), (a1, .inr (4, [.int 0, .ref z2, .ref z3, .ref z4]))]) hF (c266_X2_placeOf l a1 z2 z3 z4 p0 p1) gv_RX3_25 2 (by decide +kernel) rfl ⟨(Nat.le_of_ble_eq_true rfl), (Nat.le_of_ble_eq_true rfl)⟩ hl.1 rfl (Nat.le_of_ble_eq_true rfl) dX3_areMutual_6 ⟨(Nat.le_of_ble_eq_true rfl), (Nat.le_of_ble_eq_true rfl)⟩ hP hD hS (pA hA hS) (fun _ _ => trivial) [1] [] [0, 1] rfl rfl rfl rfl rfl (by decide) 1 (ci := 4) rfl rfl rfl (fun u_1 H locs hP hD hS => ?_)
  have hP : va_P D vwCl [(a0, .inr (5, [.ref a1, .ref z0, .ref z1])), (a1, .inr (4, [.int 0, .ref z2, .ref z3, .ref z4]))] H := hP
  have hD : va_D (fun _ => True) [(a0, .inr (5, [.ref a1, .ref z0, .ref z1])), (a1, .inr (4, [.int 0, .ref z2, .ref z3, .ref z4]))] := hD
  refine W.widen (k := 0) (n := 0) (Nat.le_of_ble_eq_true rfl) (Nat.le_of_ble_eq_true rfl) ?_
  refine W.eq (g2 := F0 m 9 ls [.int (-1)]) rfl ?_
  refine lv_iconst (v := (-1)) hx hb dX3_areMutual_9 (by decide) ?_
  refine lv_icmp_eq (tgt := 30) hx hb dX3_areMutual_10 (by decide) (fun _ => ?_) (fun c => absurd (by decide) c)
  refine lv_iconst (v := 0) hx hb dX3_areMutual_30 (by decide) ?_
  exact e_z hF hr (by decide) (Nat.le_of_ble_eq_true rfl) (Nat.le_of_ble_eq_true rfl) hS (qg_end hS (fun _ => 0) rfl [] hP rfl d_nil) dX3_areMutual_31

set_option maxHeartbeats 4000000 in
set_option maxRecDepth 100000 in
theorem c266_X5_isBlock (l : Launch) (a0 : Nat) (a1 : Nat) (z0 : Nat) (z1 : Nat) (z2 : Nat) (z3 : Nat) (z4 : Nat) (z5 : Nat) (p0 : Int32) (p1 : Int32) : CT l (.code yX5_isBlock cX5_isBlock 6 (some .boolean)) yX5_isBlock { frames := 2, cells := 0, slots := 0, locals := 44 } [.ref z5, .ref a0, .int p0, .int p1] (fun y => [(a0, .inr (5, [.ref a1, .ref z0, .ref z1])), (a1, .inr (4, [.int 0, .ref z2, .ref z3, .ref z4]))]) (fun _ => []) (fun u => some (.int 0)) (fun y u => []) := by
  refine mkM (by decide) (Nat.le_of_ble_eq_true rfl) ?_
  intro p e s m args below meth c D y A ls hF hr hAe hP hD hS hl
  have hF : FX p e s m args meth c cX5_isBlock 6 RX5 "isBlock" D y A := hF
  obtain ⟨⟨hx, hb, hml, hown, hts⟩, hev, heh, hA, hlk, hnm⟩ := id hF
  have hK := hev.1
  have hP : va_P D vwCl [(a0, .inr (5, [.ref a1, .ref z0, .ref z1])), (a1, .inr (4, [.int 0, .ref z2, .ref z3, .ref z4]))] s.heap := hP
  have hD : va_D (fun _ => True) [(a0, .inr (5, [.ref a1, .ref z0, .ref z1])), (a1, .inr (4, [.int 0, .ref z2, .ref z3, .ref z4]))] := hD
  have hl : lv_has ls 6 [(0, .ref z5), (1, .ref a0), (2, .int p0), (3, .int p1)] := hl
  refine lv_aload_n hx hb dX5_isBlock_0 rfl (lv_at hl 1 rfl) ?_
  refine lv_iload_n hx hb dX5_isBlock_1 rfl (lv_at hl 2 rfl) ?_
  refine lv_iload_n hx hb dX5_isBlock_2 rfl (lv_at hl 3 rfl) ?_
  refine cV (l := l) (yM := yX3_areMutual) (C := RX3) (As := [.int p0, .int p1]) (rest := []) (wr := [(a0, .inr (5, [.ref a1, .ref z0, .ref z1])), (a1, .inr (4, [.int 0, .ref z2, .ref z3, .ref z4]))]) hF (c266_X3_areMutual l a0 a1 z0 z1 z2 z3 z4 p0 p1) gv_RX5_66 2 (by decide +kernel) rfl ⟨(Nat.le_of_ble_eq_true rfl), (Nat.le_of_ble_eq_true rfl)⟩ hl.1 rfl (Nat.le_of_ble_eq_true rfl) dX5_isBlock_3 ⟨(Nat.le_of_ble_eq_true rfl), (Nat.le_of_ble_eq_true rfl)⟩ hP hD hS (pA hA hS) (fun _ _ => trivial) [0, 1] [] [0, 1] rfl rfl rfl rfl rfl (by decide) 0 (ci := 5) rfl rfl rfl (fun u_1 H locs hP hD hS => ?_)
  have hP : va_P D vwCl [(a0, .inr (5, [.ref a1, .ref z0, .ref z1])), (a1, .inr (4, [.int 0, .ref z2, .ref z3, .ref z4]))] H := hP
  have hD : va_D (fun _ => True) [(a0, .inr (5, [.ref a1, .ref z0, .ref z1])), (a1, .inr (4, [.int 0, .ref z2, .ref z3, .ref z4]))] := hD
  refine W.widen (k := 0) (n := 0) (Nat.le_of_ble_eq_true rfl) (Nat.le_of_ble_eq_true rfl) ?_
  refine W.eq (g2 := F0 m 6 ls [.int 0]) rfl ?_
  refine lv_if_ne (tgt := 11) hx hb dX5_isBlock_6 (by decide) (fun c => absurd (by decide) c) (fun _ => ?_)
  refine lv_iconst (v := 0) hx hb dX5_isBlock_9 (by decide) ?_
  exact e_z hF hr (by decide) (Nat.le_of_ble_eq_true rfl) (Nat.le_of_ble_eq_true rfl) hS (qg_end hS (fun _ => 0) rfl [] hP rfl d_nil) dX5_isBlock_10

set_option maxHeartbeats 4000000 in
set_option maxRecDepth 100000 in
theorem c266_X5_countBlocks (l : Launch) (a0 : Nat) (a1 : Nat) (a2 : Nat) (z0 : Nat) (z1 : Nat) (z2 : Nat) (z3 : Nat) (z4 : Nat) (z5 : Nat) (z6 : Nat) : CT l (.code yX5_countBlocks cX5_countBlocks 4 (some .int)) yX5_countBlocks { frames := 3, cells := 0, slots := 0, locals := 69 } [.ref a2, .ref a0] (fun y => [(a0, .inr (5, [.ref a1, .ref z0, .ref z1])), (a1, .inr (4, [.int 0, .ref z2, .ref z3, .ref z4])), (a2, .inr (7, [.ref z5, .ref z6]))]) (fun _ => []) (fun u => some (.int 0)) (fun y u => []) := by
  refine mkM (by decide) (Nat.le_of_ble_eq_true rfl) ?_
  intro p e s m args below meth c D y A ls hF hr hAe hP hD hS hl
  have hF : FX p e s m args meth c cX5_countBlocks 4 RX5 "countBlocks" D y A := hF
  obtain ⟨⟨hx, hb, hml, hown, hts⟩, hev, heh, hA, hlk, hnm⟩ := id hF
  have hK := hev.1
  have hP : va_P D vwCl [(a0, .inr (5, [.ref a1, .ref z0, .ref z1])), (a1, .inr (4, [.int 0, .ref z2, .ref z3, .ref z4])), (a2, .inr (7, [.ref z5, .ref z6]))] s.heap := hP
  have hD : va_D (fun _ => True) [(a0, .inr (5, [.ref a1, .ref z0, .ref z1])), (a1, .inr (4, [.int 0, .ref z2, .ref z3, .ref z4])), (a2, .inr (7, [.ref z5, .ref z6]))] := hD
  have hl : lv_has ls 4 [(0, .ref a2), (1, .ref a0)] := hl
  refine lv_iconst (v := 0) hx hb dX5_countBlocks_0 (by decide) ?_
  refine lv_istore_n (lv' := [(2, .int 0), (0, .ref a2), (1, .ref a0)]) hx hb dX5_countBlocks_1 rfl hl (by decide) rfl (fun ls hl => ?_)
  refine lv_iconst (v := 0) hx hb dX5_countBlocks_2 (by decide) ?_
  refine lv_istore_n (lv' := [(3, .int 0), (2, .int 0), (0, .ref a2), (1, .ref a0)]) hx hb dX5_countBlocks_3 rfl hl (by decide) rfl (fun ls hl => ?_)
  refine lpF (lo := 0) (N := 100) (by decide) (Wd := fun i => [(a0, .inr (5, [.ref a1, .ref z0, .ref z1])), (a1, .inr (4, [.int 0, .ref z2, .ref z3, .ref z4])), (a2, .inr (7, [.ref z5, .ref z6]))]) (Lv := fun i => [(3, .int (nI i)), (2, .int 0), (0, .ref a2), (1, .ref a0)]) hP hD hS (lv_sub hl [0, 1, 2, 3] rfl) (fun i hlo_i hi ih_i H locs ls hP hD hS hl => ?_) (fun H locs ls hP hD hS hl => ?_)
  · have hP : va_P D vwCl [(a0, .inr (5, [.ref a1, .ref z0, .ref z1])), (a1, .inr (4, [.int 0, .ref z2, .ref z3, .ref z4])), (a2, .inr (7, [.ref z5, .ref z6]))] H := hP
    have hD : va_D (fun _ => True) [(a0, .inr (5, [.ref a1, .ref z0, .ref z1])), (a1, .inr (4, [.int 0, .ref z2, .ref z3, .ref z4])), (a2, .inr (7, [.ref z5, .ref z6]))] := hD
    have hl : lv_has ls 4 [(3, .int (nI i)), (2, .int 0), (0, .ref a2), (1, .ref a0)] := hl
    have hi_1 : (nI i) < (100 : Int32) := nI_lt hi (by decide)
    have hi_0 : ¬ (nI i) < (0 : Int32) := nI_pos (by omega)
    refine lv_iload_n hx hb dX5_countBlocks_4 rfl (lv_at hl 0 rfl) ?_
    refine lv_bipush (v := 100) hx hb dX5_countBlocks_5 (by decide) ?_
    refine lv_icmp_ge (tgt := 35) hx hb dX5_countBlocks_7 (by decide) (fun c => absurd c (by have e0 : (0 : Int32).toInt = 0 := (by decide); have e1 : (100 : Int32).toInt = 100 := (by decide); have h9 := And.intro hi_1 hi_0; simp only [Int32.lt_iff_toInt_lt, Int32.le_iff_toInt_le, ← Int32.toInt_inj, e0, e1] at h9 ⊢; omega)) (fun _ => ?_)
    refine lv_aload_n hx hb dX5_countBlocks_10 rfl (lv_at hl 2 rfl) ?_
    refine lv_aload_n hx hb dX5_countBlocks_11 rfl (lv_at hl 3 rfl) ?_
    refine lv_iload_n hx hb dX5_countBlocks_12 rfl (lv_at hl 0 rfl) ?_
    refine lv_bipush (v := 10) hx hb dX5_countBlocks_13 (by decide) ?_
    refine lv_idiv hx hb dX5_countBlocks_15 (by decide) ?_
    refine lv_topi (fun k1 ek1 => ?_)
    refine lv_iload_n hx hb dX5_countBlocks_16 rfl (lv_at hl 0 rfl) ?_
    refine lv_bipush (v := 10) hx hb dX5_countBlocks_17 (by decide) ?_
    refine lv_irem hx hb dX5_countBlocks_19 (by decide) ?_
    refine lv_topi (fun k2 ek2 => ?_)
    refine cV (l := l) (yM := yX5_isBlock) (C := RX5) (As := [.ref a0, .int k1, .int k2]) (rest := []) (wr := [(a0, .inr (5, [.ref a1, .ref z0, .ref z1])), (a1, .inr (4, [.int 0, .ref z2, .ref z3, .ref z4])), (a2, .inr (7, [.ref z5, .ref z6]))]) hF (c266_X5_isBlock l a0 a1 z0 z1 z2 z3 z4 a2 k1 k2) gv_RX5_77 3 (by decide +kernel) rfl ⟨(Nat.le_of_ble_eq_true rfl), (Nat.le_of_ble_eq_true rfl)⟩ hl.1 rfl (Nat.le_of_ble_eq_true rfl) dX5_countBlocks_20 ⟨(Nat.le_of_ble_eq_true rfl), (Nat.le_of_ble_eq_true rfl)⟩ hP hD hS (pA hA hS) (fun _ _ => trivial) [0, 1] [] [0, 1, 2] rfl rfl rfl rfl rfl (by decide) 2 (ci := 7) rfl rfl rfl (fun u_3 H locs hP hD hS => ?_)
    have hP : va_P D vwCl [(a0, .inr (5, [.ref a1, .ref z0, .ref z1])), (a1, .inr (4, [.int 0, .ref z2, .ref z3, .ref z4])), (a2, .inr (7, [.ref z5, .ref z6]))] H := hP
    have hD : va_D (fun _ => True) [(a0, .inr (5, [.ref a1, .ref z0, .ref z1])), (a1, .inr (4, [.int 0, .ref z2, .ref z3, .ref z4])), (a2, .inr (7, [.ref z5, .ref z6]))] := hD
    refine W.widen (k := 0) (n := 0) (Nat.le_of_ble_eq_true rfl) (Nat.le_of_ble_eq_true rfl) ?_
    refine W.eq (g2 := F0 m 23 ls [.int 0]) rfl ?_
    refine lv_if_eq (tgt := 29) hx hb dX5_countBlocks_23 (by decide) (fun _ => ?_) (fun c => absurd (by decide) c)
    refine lv_iinc (v := nI (i + 1)) (lv' := [(3, .int (nI (i + 1))), (2, .int 0), (0, .ref a2), (1, .ref a0)]) hx hb dX5_countBlocks_29 hl (k := 0) rfl (nI_inc i) (by decide) rfl (fun ls hl => ?_)
    refine lv_goto (tgt := 4) hx hb dX5_countBlocks_32 (by decide) ?_
    exact ih_i _ _ _ hP hD hS (lv_sub hl [0, 1, 2, 3] rfl)
  · have hP : va_P D vwCl [(a0, .inr (5, [.ref a1, .ref z0, .ref z1])), (a1, .inr (4, [.int 0, .ref z2, .ref z3, .ref z4])), (a2, .inr (7, [.ref z5, .ref z6]))] H := hP
    have hD : va_D (fun _ => True) [(a0, .inr (5, [.ref a1, .ref z0, .ref z1])), (a1, .inr (4, [.int 0, .ref z2, .ref z3, .ref z4])), (a2, .inr (7, [.ref z5, .ref z6]))] := hD
    have hl : lv_has ls 4 [(3, .int 100), (2, .int 0), (0, .ref a2), (1, .ref a0)] := hl
    refine lv_iload_n hx hb dX5_countBlocks_4 rfl (lv_at hl 0 rfl) ?_
    refine lv_bipush (v := 100) hx hb dX5_countBlocks_5 (by decide) ?_
    refine lv_icmp_ge (tgt := 35) hx hb dX5_countBlocks_7 (by decide) (fun _ => ?_) (fun c => absurd (by decide) c)
    refine lv_iload_n hx hb dX5_countBlocks_35 rfl (lv_at hl 1 rfl) ?_
    exact e_i hF hr (Nat.le_of_ble_eq_true rfl) (Nat.le_of_ble_eq_true rfl) hS (qg_end hS (fun _ => 0) rfl [] hP rfl d_nil) dX5_countBlocks_36

set_option maxHeartbeats 4000000 in
set_option maxRecDepth 100000 in
theorem c266_X10_blocks (l : Launch) (a0 : Nat) (a1 : Nat) (a2 : Nat) (a3 : Nat) (z0 : Nat) (z1 : Nat) (z2 : Nat) (z3 : Nat) (z4 : Nat) (z5 : Nat) (z6 : Nat) (z7 : Nat) (z8 : Nat) (z9 : Nat) (z10 : Nat) (z11 : Nat) (z12 : Nat) (z13 : Nat) (z14 : Nat) (z15 : Nat) (z16 : Nat) (z17 : Nat) (z18 : Nat) (z19 : Nat) : CT l (.code yX10_blocks cX10_blocks 1 (some .int)) yX10_blocks { frames := 4, cells := 0, slots := 0, locals := 92 } [.ref a0] (fun y => [(a0, .inr (12, [.ref a1, .ref z0, .ref z1, .ref z2, .ref a3, .ref z3, .ref z4, .ref z5, .ref z6, .ref z7, .ref z8, .ref z9, .ref z10, .ref z11, .ref z12])), (a1, .inr (5, [.ref a2, .ref z13, .ref z14])), (a2, .inr (4, [.int 0, .ref z15, .ref z16, .ref z17])), (a3, .inr (7, [.ref z18, .ref z19]))]) (fun _ => []) (fun u => some (.int 0)) (fun y u => []) := by
  refine mkM (by decide) (Nat.le_of_ble_eq_true rfl) ?_
  intro p e s m args below meth c D y A ls hF hr hAe hP hD hS hl
  have hF : FX p e s m args meth c cX10_blocks 1 RX10 "blocks" D y A := hF
  obtain ⟨⟨hx, hb, hml, hown, hts⟩, hev, heh, hA, hlk, hnm⟩ := id hF
  have hK := hev.1
  have hP : va_P D vwCl [(a0, .inr (12, [.ref a1, .ref z0, .ref z1, .ref z2, .ref a3, .ref z3, .ref z4, .ref z5, .ref z6, .ref z7, .ref z8, .ref z9, .ref z10, .ref z11, .ref z12])), (a1, .inr (5, [.ref a2, .ref z13, .ref z14])), (a2, .inr (4, [.int 0, .ref z15, .ref z16, .ref z17])), (a3, .inr (7, [.ref z18, .ref z19]))] s.heap := hP
  have hD : va_D (fun _ => True) [(a0, .inr (12, [.ref a1, .ref z0, .ref z1, .ref z2, .ref a3, .ref z3, .ref z4, .ref z5, .ref z6, .ref z7, .ref z8, .ref z9, .ref z10, .ref z11, .ref z12])), (a1, .inr (5, [.ref a2, .ref z13, .ref z14])), (a2, .inr (4, [.int 0, .ref z15, .ref z16, .ref z17])), (a3, .inr (7, [.ref z18, .ref z19]))] := hD
  have hl : lv_has ls 1 [(0, .ref a0)] := hl
  refine lv_aload_n hx hb dX10_blocks_0 rfl (lv_at hl 0 rfl) ?_
  refine va_get (D := D) (ci := 12) (v := .ref a3) (C := RX10) (T := TX10) (N := 15) hx hb hts inX10 hown hK hP 0 rfl rfl 4 (by decide) (hts _ wd_47) (fun _ h9 => h9) rfl dX10_blocks_1 ?_
  refine lv_aload_n hx hb dX10_blocks_4 rfl (lv_at hl 0 rfl) ?_
  refine va_get (D := D) (ci := 12) (v := .ref a1) (C := RX10) (T := TX10) (N := 15) hx hb hts inX10 hown hK hP 0 rfl rfl 0 (by decide) (hts _ wd_24) (fun _ h9 => h9) rfl dX10_blocks_5 ?_
  refine cV (l := l) (yM := yX5_countBlocks) (C := RX5) (As := [.ref a1]) (rest := []) (wr := [(a0, .inr (12, [.ref a1, .ref z0, .ref z1, .ref z2, .ref a3, .ref z3, .ref z4, .ref z5, .ref z6, .ref z7, .ref z8, .ref z9, .ref z10, .ref z11, .ref z12])), (a1, .inr (5, [.ref a2, .ref z13, .ref z14])), (a2, .inr (4, [.int 0, .ref z15, .ref z16, .ref z17])), (a3, .inr (7, [.ref z18, .ref z19]))]) hF (c266_X5_countBlocks l a1 a2 a3 z13 z14 z15 z16 z17 z18 z19) gv_RX10_290 1 (by decide +kernel) rfl ⟨(Nat.le_of_ble_eq_true rfl), (Nat.le_of_ble_eq_true rfl)⟩ hl.1 rfl (Nat.le_of_ble_eq_true rfl) dX10_blocks_8 ⟨(Nat.le_of_ble_eq_true rfl), (Nat.le_of_ble_eq_true rfl)⟩ hP hD hS (pA hA hS) (fun _ _ => trivial) [1, 2, 3] [] [0, 1, 2, 3] rfl rfl rfl rfl rfl (by decide) 3 (ci := 7) rfl rfl rfl (fun u_1 H locs hP hD hS => ?_)
  have hP : va_P D vwCl [(a0, .inr (12, [.ref a1, .ref z0, .ref z1, .ref z2, .ref a3, .ref z3, .ref z4, .ref z5, .ref z6, .ref z7, .ref z8, .ref z9, .ref z10, .ref z11, .ref z12])), (a1, .inr (5, [.ref a2, .ref z13, .ref z14])), (a2, .inr (4, [.int 0, .ref z15, .ref z16, .ref z17])), (a3, .inr (7, [.ref z18, .ref z19]))] H := hP
  have hD : va_D (fun _ => True) [(a0, .inr (12, [.ref a1, .ref z0, .ref z1, .ref z2, .ref a3, .ref z3, .ref z4, .ref z5, .ref z6, .ref z7, .ref z8, .ref z9, .ref z10, .ref z11, .ref z12])), (a1, .inr (5, [.ref a2, .ref z13, .ref z14])), (a2, .inr (4, [.int 0, .ref z15, .ref z16, .ref z17])), (a3, .inr (7, [.ref z18, .ref z19]))] := hD
  refine W.widen (k := 0) (n := 0) (Nat.le_of_ble_eq_true rfl) (Nat.le_of_ble_eq_true rfl) ?_
  refine W.eq (g2 := F0 m 11 ls [.int 0]) rfl ?_
  exact e_i hF hr (Nat.le_of_ble_eq_true rfl) (Nat.le_of_ble_eq_true rfl) hS (qg_end hS (fun _ => 0) rfl [] hP rfl d_nil) dX10_blocks_11

set_option maxHeartbeats 4000000 in
set_option maxRecDepth 100000 in
theorem c271_X11_blocksOf (l : Launch) (a0 : Nat) (a1 : Nat) (z0 : Nat) (z1 : Nat) (z2 : Nat) (z3 : Nat) (z4 : Nat) (z5 : Nat) (z6 : Nat) (z7 : Nat) (z8 : Nat) (z9 : Nat) (z10 : Nat) (z11 : Nat) (z12 : Nat) : CT l (.code yX11_blocksOf cX11_blocksOf 5 (some .int)) yX11_blocksOf { frames := 0, cells := 0, slots := 0, locals := 0 } [.ref a0, .ref z4] (fun y => [(a0, .inr (13, [.ref a1, .ref z0, .ref z1, .ref z2, .ref z3, .ref z4, .int 45, .ref z5, .ref z6, .ref z7, .int 0, .ref z8, .ref z9, .int 0, .int 0, .int 0, .int 0, .ref z10, .int 0, .null, .ref z11, .ref z12])), (a1, .inl (y 0, 3, .inl (fun _ => 0)))]) (fun _ => []) (fun u => some (.int 0)) (fun y u => []) := by
  refine mkM (by decide) (Nat.le_of_ble_eq_true rfl) ?_
  intro p e s m args below meth c D y A ls hF hr hAe hP hD hS hl
  have hF : FX p e s m args meth c cX11_blocksOf 5 RX11 "blocksOf" D y A := hF
  obtain ⟨⟨hx, hb, hml, hown, hts⟩, hev, heh, hA, hlk, hnm⟩ := id hF
  have hK := hev.1
  have hP : va_P D vwCl [(a0, .inr (13, [.ref a1, .ref z0, .ref z1, .ref z2, .ref z3, .ref z4, .int 45, .ref z5, .ref z6, .ref z7, .int 0, .ref z8, .ref z9, .int 0, .int 0, .int 0, .int 0, .ref z10, .int 0, .null, .ref z11, .ref z12])), (a1, .inl (y 0, 3, .inl (fun _ => 0)))] s.heap := hP
  have hD : va_D (fun _ => True) [(a0, .inr (13, [.ref a1, .ref z0, .ref z1, .ref z2, .ref z3, .ref z4, .int 45, .ref z5, .ref z6, .ref z7, .int 0, .ref z8, .ref z9, .int 0, .int 0, .int 0, .int 0, .ref z10, .int 0, .null, .ref z11, .ref z12])), (a1, .inl (y 0, 3, .inl (fun _ => 0)))] := hD
  have hl : lv_has ls 5 [(0, .ref a0), (1, .ref z4)] := hl
  refine lv_iconst (v := 0) hx hb dX11_blocksOf_0 (by decide) ?_
  refine lv_istore_n (lv' := [(2, .int 0), (0, .ref a0), (1, .ref z4)]) hx hb dX11_blocksOf_1 rfl hl (by decide) rfl (fun ls hl => ?_)
  refine lv_iconst (v := 0) hx hb dX11_blocksOf_2 (by decide) ?_
  refine lv_istore_n (lv' := [(3, .int 0), (2, .int 0), (0, .ref a0), (1, .ref z4)]) hx hb dX11_blocksOf_3 rfl hl (by decide) rfl (fun ls hl => ?_)
  refine lv_iload_n hx hb dX11_blocksOf_4 rfl (lv_at hl 0 rfl) ?_
  refine lv_aload_n hx hb dX11_blocksOf_5 rfl (lv_at hl 2 rfl) ?_
  refine va_get (D := D) (ci := 13) (v := .ref a1) (C := RX11) (T := TX11) (N := 22) hx hb hts inX11 hown hK hP 0 rfl rfl 0 (by decide) (hts _ wd_115) (fun _ h9 => h9) rfl dX11_blocksOf_6 ?_
  refine lv_iconst (v := 0) hx hb dX11_blocksOf_9 (by decide) ?_
  refine va_iald hx hb hK hP 1 0 rfl rfl (vp_in_nI (n := 0) (by decide) (by decide)) dX11_blocksOf_10 ?_
  refine tp_i (v := 0) rfl ?_
  refine lv_icmp_ge (tgt := 59) hx hb dX11_blocksOf_11 (by decide) (fun _ => ?_) (fun c => absurd (by decide) c)
  refine lv_iload_n hx hb dX11_blocksOf_59 rfl (lv_at hl 1 rfl) ?_
  exact e_i hF hr (Nat.le_of_ble_eq_true rfl) (Nat.le_of_ble_eq_true rfl) hS (qg_end hS (fun _ => 0) rfl [] hP rfl d_nil) dX11_blocksOf_60

set_option maxHeartbeats 4000000 in
set_option maxRecDepth 100000 in
theorem c271_X11_blocks_ (l : Launch) (a0 : Nat) (a1 : Nat) (z0 : Nat) (z1 : Nat) (z2 : Nat) (z3 : Nat) (z4 : Nat) (z5 : Nat) (z6 : Nat) (z7 : Nat) (z8 : Nat) (z9 : Nat) (z10 : Nat) (z11 : Nat) (z12 : Nat) : CT l (.code yX11_blocks_ cX11_blocks_ 1 (some .int)) yX11_blocks_ { frames := 1, cells := 0, slots := 0, locals := 24 } [.ref a0] (fun y => [(a0, .inr (13, [.ref a1, .ref z0, .ref z1, .ref z2, .ref z3, .ref z4, .int 45, .ref z5, .ref z6, .ref z7, .int 0, .ref z8, .ref z9, .int 0, .int 0, .int 0, .int 0, .ref z10, .int 0, .null, .ref z11, .ref z12])), (a1, .inl (y 0, 3, .inl (fun _ => 0)))]) (fun y => [(a0, .inr (13, [.ref a1, .ref z0, .ref z1, .ref z2, .ref z3, .ref z4, .int 45, .ref z5, .ref z6, .ref z7, .int 0, .ref z8, .ref z9, .int 0, .int 0, .int 0, .int 0, .ref z10, .int 0, .null, .ref z11, .ref z12])), (a1, .inl (y 0, 3, .inl (fun _ => 0)))]) (fun u => some (.int 0)) (fun y u => [(a0, .inr (13, [.ref a1, .ref z0, .ref z1, .ref z2, .ref z3, .ref z4, .int 45, .ref z5, .ref z6, .ref z7, .int 0, .ref z8, .ref z9, .int 0, .int 0, .int 0, .int 0, .ref z10, .int 0, .null, .ref z11, .ref z12])), (a1, .inl (y 0, 3, .inl (fun _ => 0)))]) := by
  refine mkM (by decide) (Nat.le_of_ble_eq_true rfl) ?_
  intro p e s m args below meth c D y A ls hF hr hAe hP hD hS hl
  have hF : FX p e s m args meth c cX11_blocks_ 1 RX11 "blocks" D y A := hF
  obtain ⟨⟨hx, hb, hml, hown, hts⟩, hev, heh, hA, hlk, hnm⟩ := id hF
  have hK := hev.1
  have hP : va_P D vwCl [(a0, .inr (13, [.ref a1, .ref z0, .ref z1, .ref z2, .ref z3, .ref z4, .int 45, .ref z5, .ref z6, .ref z7, .int 0, .ref z8, .ref z9, .int 0, .int 0, .int 0, .int 0, .ref z10, .int 0, .null, .ref z11, .ref z12])), (a1, .inl (y 0, 3, .inl (fun _ => 0)))] s.heap := hP
  have hD : va_D A [(a0, .inr (13, [.ref a1, .ref z0, .ref z1, .ref z2, .ref z3, .ref z4, .int 45, .ref z5, .ref z6, .ref z7, .int 0, .ref z8, .ref z9, .int 0, .int 0, .int 0, .int 0, .ref z10, .int 0, .null, .ref z11, .ref z12])), (a1, .inl (y 0, 3, .inl (fun _ => 0)))] := by rw [← hAe]; exact hD.self
  have hl : lv_has ls 1 [(0, .ref a0)] := hl
  refine lv_aload_n hx hb dX11_blocks__0 rfl (lv_at hl 0 rfl) ?_
  refine lv_iconst (v := 0) hx hb dX11_blocks__1 (by decide) ?_
  refine va_put (D := D) (ci := 13) (v := .int 0) (ty := .int) (C := RX11) (T := TX11) (N := 22) hx hb hts inX11 tyX11 tyX11_ok nmX11 hown hK hP hD hS 0 rfl rfl 15 (by decide) (hts _ wd_216) (fun _ h9 => h9) rfl (by decide +kernel) rfl rfl (Nat.le_of_ble_eq_true rfl) dX11_blocks__2 (fun H locs hP hD hS => ?_)
  have hP : va_P D vwCl [(a0, .inr (13, [.ref a1, .ref z0, .ref z1, .ref z2, .ref z3, .ref z4, .int 45, .ref z5, .ref z6, .ref z7, .int 0, .ref z8, .ref z9, .int 0, .int 0, .int 0, .int 0, .ref z10, .int 0, .null, .ref z11, .ref z12])), (a1, .inl (y 0, 3, .inl (fun _ => 0)))] H := hP
  have hD : va_D A [(a0, .inr (13, [.ref a1, .ref z0, .ref z1, .ref z2, .ref z3, .ref z4, .int 45, .ref z5, .ref z6, .ref z7, .int 0, .ref z8, .ref z9, .int 0, .int 0, .int 0, .int 0, .ref z10, .int 0, .null, .ref z11, .ref z12])), (a1, .inl (y 0, 3, .inl (fun _ => 0)))] := hD
  refine lv_aload_n hx hb dX11_blocks__5 rfl (lv_at hl 0 rfl) ?_
  refine lv_aload_n hx hb dX11_blocks__6 rfl (lv_at hl 0 rfl) ?_
  refine va_get (D := D) (ci := 13) (v := .ref z4) (C := RX11) (T := TX11) (N := 22) hx hb hts inX11 hown hK hP 0 rfl rfl 5 (by decide) (hts _ wd_125) (fun _ h9 => h9) rfl dX11_blocks__7 ?_
  refine cV (l := l) (yM := yX11_blocksOf) (C := RX11) (As := [.ref z4]) (rest := []) (wr := [(a0, .inr (13, [.ref a1, .ref z0, .ref z1, .ref z2, .ref z3, .ref z4, .int 45, .ref z5, .ref z6, .ref z7, .int 0, .ref z8, .ref z9, .int 0, .int 0, .int 0, .int 0, .ref z10, .int 0, .null, .ref z11, .ref z12])), (a1, .inl (y 0, 3, .inl (fun _ => 0)))]) hF (c271_X11_blocksOf l a0 a1 z0 z1 z2 z3 z4 z5 z6 z7 z8 z9 z10 z11 z12) gv_RX11_179 1 (by decide +kernel) rfl ⟨(Nat.le_of_ble_eq_true rfl), (Nat.le_of_ble_eq_true rfl)⟩ hl.1 rfl (Nat.le_of_ble_eq_true rfl) dX11_blocks__10 ⟨(Nat.le_of_ble_eq_true rfl), (Nat.le_of_ble_eq_true rfl)⟩ hP hD hS (pA hA hS) (fun _ h => h) [0, 1] [] [0, 1] rfl rfl rfl rfl rfl (by decide) 0 (ci := 13) rfl rfl rfl (fun u_1 H locs hP hD hS => ?_)
  have hP : va_P D vwCl [(a0, .inr (13, [.ref a1, .ref z0, .ref z1, .ref z2, .ref z3, .ref z4, .int 45, .ref z5, .ref z6, .ref z7, .int 0, .ref z8, .ref z9, .int 0, .int 0, .int 0, .int 0, .ref z10, .int 0, .null, .ref z11, .ref z12])), (a1, .inl (y 0, 3, .inl (fun _ => 0)))] H := hP
  have hD : va_D A [(a0, .inr (13, [.ref a1, .ref z0, .ref z1, .ref z2, .ref z3, .ref z4, .int 45, .ref z5, .ref z6, .ref z7, .int 0, .ref z8, .ref z9, .int 0, .int 0, .int 0, .int 0, .ref z10, .int 0, .null, .ref z11, .ref z12])), (a1, .inl (y 0, 3, .inl (fun _ => 0)))] := hD
  refine W.widen (k := 0) (n := 0) (Nat.le_of_ble_eq_true rfl) (Nat.le_of_ble_eq_true rfl) ?_
  refine W.eq (g2 := F0 m 13 ls [.int 0]) rfl ?_
  exact e_i hF hr (Nat.le_of_ble_eq_true rfl) (Nat.le_of_ble_eq_true rfl) hS (qg_end hS (fun _ => 0) rfl [0, 1] hP rfl (hD.sub [0, 1] rfl rfl)) dX11_blocks__13

set_option maxHeartbeats 4000000 in
set_option maxRecDepth 100000 in
theorem c273_X5_blockNumber (l : Launch) (a0 : Nat) (a1 : Nat) (a2 : Nat) (z0 : Nat) (z1 : Nat) (z2 : Nat) (z3 : Nat) (z4 : Nat) (z5 : Nat) (z6 : Nat) (p0 : Int32) : CT l (.code yX5_blockNumber cX5_blockNumber 5 (some .int)) yX5_blockNumber { frames := 3, cells := 0, slots := 0, locals := 69 } [.ref a2, .ref a0, .int p0] (fun y => [(a0, .inr (5, [.ref a1, .ref z0, .ref z1])), (a1, .inr (4, [.int 0, .ref z2, .ref z3, .ref z4])), (a2, .inr (7, [.ref z5, .ref z6]))]) (fun _ => []) (fun u => some (.int (-1))) (fun y u => []) := by
  refine mkM (by decide) (Nat.le_of_ble_eq_true rfl) ?_
  intro p e s m args below meth c D y A ls hF hr hAe hP hD hS hl
  have hF : FX p e s m args meth c cX5_blockNumber 5 RX5 "blockNumber" D y A := hF
  obtain ⟨⟨hx, hb, hml, hown, hts⟩, hev, heh, hA, hlk, hnm⟩ := id hF
  have hK := hev.1
  have hP : va_P D vwCl [(a0, .inr (5, [.ref a1, .ref z0, .ref z1])), (a1, .inr (4, [.int 0, .ref z2, .ref z3, .ref z4])), (a2, .inr (7, [.ref z5, .ref z6]))] s.heap := hP
  have hD : va_D (fun _ => True) [(a0, .inr (5, [.ref a1, .ref z0, .ref z1])), (a1, .inr (4, [.int 0, .ref z2, .ref z3, .ref z4])), (a2, .inr (7, [.ref z5, .ref z6]))] := hD
  have hl : lv_has ls 5 [(0, .ref a2), (1, .ref a0), (2, .int p0)] := hl
  refine lv_iconst (v := 0) hx hb dX5_blockNumber_0 (by decide) ?_
  refine lv_istore_n (lv' := [(3, .int 0), (0, .ref a2), (1, .ref a0), (2, .int p0)]) hx hb dX5_blockNumber_1 rfl hl (by decide) rfl (fun ls hl => ?_)
  refine lv_iconst (v := 0) hx hb dX5_blockNumber_2 (by decide) ?_
  refine lv_istore (lv' := [(4, .int 0), (3, .int 0), (0, .ref a2), (1, .ref a0), (2, .int p0)]) hx hb dX5_blockNumber_3 hl (by decide) rfl (fun ls hl => ?_)
  refine lpF (lo := 0) (N := 100) (by decide) (Wd := fun i => [(a0, .inr (5, [.ref a1, .ref z0, .ref z1])), (a1, .inr (4, [.int 0, .ref z2, .ref z3, .ref z4])), (a2, .inr (7, [.ref z5, .ref z6]))]) (Lv := fun i => [(4, .int (nI i)), (3, .int 0), (0, .ref a2), (1, .ref a0), (2, .int p0)]) hP hD hS (lv_sub hl [0, 1, 2, 3, 4] rfl) (fun i hlo_i hi ih_i H locs ls hP hD hS hl => ?_) (fun H locs ls hP hD hS hl => ?_)
  · have hP : va_P D vwCl [(a0, .inr (5, [.ref a1, .ref z0, .ref z1])), (a1, .inr (4, [.int 0, .ref z2, .ref z3, .ref z4])), (a2, .inr (7, [.ref z5, .ref z6]))] H := hP
    have hD : va_D (fun _ => True) [(a0, .inr (5, [.ref a1, .ref z0, .ref z1])), (a1, .inr (4, [.int 0, .ref z2, .ref z3, .ref z4])), (a2, .inr (7, [.ref z5, .ref z6]))] := hD
    have hl : lv_has ls 5 [(4, .int (nI i)), (3, .int 0), (0, .ref a2), (1, .ref a0), (2, .int p0)] := hl
    have hi_1 : (nI i) < (100 : Int32) := nI_lt hi (by decide)
    have hi_0 : ¬ (nI i) < (0 : Int32) := nI_pos (by omega)
    refine lv_iload hx hb dX5_blockNumber_5 (lv_at hl 0 rfl) ?_
    refine lv_bipush (v := 100) hx hb dX5_blockNumber_7 (by decide) ?_
    refine lv_icmp_ge (tgt := 47) hx hb dX5_blockNumber_9 (by decide) (fun c => absurd c (by have e0 : (0 : Int32).toInt = 0 := (by decide); have e1 : (100 : Int32).toInt = 100 := (by decide); have h9 := And.intro hi_1 hi_0; simp only [Int32.lt_iff_toInt_lt, Int32.le_iff_toInt_le, ← Int32.toInt_inj, e0, e1] at h9 ⊢; omega)) (fun _ => ?_)
    refine lv_aload_n hx hb dX5_blockNumber_12 rfl (lv_at hl 2 rfl) ?_
    refine lv_aload_n hx hb dX5_blockNumber_13 rfl (lv_at hl 3 rfl) ?_
    refine lv_iload hx hb dX5_blockNumber_14 (lv_at hl 0 rfl) ?_
    refine lv_bipush (v := 10) hx hb dX5_blockNumber_16 (by decide) ?_
    refine lv_idiv hx hb dX5_blockNumber_18 (by decide) ?_
    refine lv_topi (fun k1 ek1 => ?_)
    refine lv_iload hx hb dX5_blockNumber_19 (lv_at hl 0 rfl) ?_
    refine lv_bipush (v := 10) hx hb dX5_blockNumber_21 (by decide) ?_
    refine lv_irem hx hb dX5_blockNumber_23 (by decide) ?_
    refine lv_topi (fun k2 ek2 => ?_)
    refine cV (l := l) (yM := yX5_isBlock) (C := RX5) (As := [.ref a0, .int k1, .int k2]) (rest := []) (wr := [(a0, .inr (5, [.ref a1, .ref z0, .ref z1])), (a1, .inr (4, [.int 0, .ref z2, .ref z3, .ref z4])), (a2, .inr (7, [.ref z5, .ref z6]))]) hF (c266_X5_isBlock l a0 a1 z0 z1 z2 z3 z4 a2 k1 k2) gv_RX5_77 3 (by decide +kernel) rfl ⟨(Nat.le_of_ble_eq_true rfl), (Nat.le_of_ble_eq_true rfl)⟩ hl.1 rfl (Nat.le_of_ble_eq_true rfl) dX5_blockNumber_24 ⟨(Nat.le_of_ble_eq_true rfl), (Nat.le_of_ble_eq_true rfl)⟩ hP hD hS (pA hA hS) (fun _ _ => trivial) [0, 1] [] [0, 1, 2] rfl rfl rfl rfl rfl (by decide) 2 (ci := 7) rfl rfl rfl (fun u_3 H locs hP hD hS => ?_)
    have hP : va_P D vwCl [(a0, .inr (5, [.ref a1, .ref z0, .ref z1])), (a1, .inr (4, [.int 0, .ref z2, .ref z3, .ref z4])), (a2, .inr (7, [.ref z5, .ref z6]))] H := hP
    have hD : va_D (fun _ => True) [(a0, .inr (5, [.ref a1, .ref z0, .ref z1])), (a1, .inr (4, [.int 0, .ref z2, .ref z3, .ref z4])), (a2, .inr (7, [.ref z5, .ref z6]))] := hD
    refine W.widen (k := 0) (n := 0) (Nat.le_of_ble_eq_true rfl) (Nat.le_of_ble_eq_true rfl) ?_
    refine W.eq (g2 := F0 m 27 ls [.int 0]) rfl ?_
    refine lv_if_eq (tgt := 41) hx hb dX5_blockNumber_27 (by decide) (fun _ => ?_) (fun c => absurd (by decide) c)
    refine lv_iinc (v := nI (i + 1)) (lv' := [(4, .int (nI (i + 1))), (3, .int 0), (0, .ref a2), (1, .ref a0), (2, .int p0)]) hx hb dX5_blockNumber_41 hl (k := 0) rfl (nI_inc i) (by decide) rfl (fun ls hl => ?_)
    refine lv_goto (tgt := 5) hx hb dX5_blockNumber_44 (by decide) ?_
    exact ih_i _ _ _ hP hD hS (lv_sub hl [0, 1, 2, 3, 4] rfl)
  · have hP : va_P D vwCl [(a0, .inr (5, [.ref a1, .ref z0, .ref z1])), (a1, .inr (4, [.int 0, .ref z2, .ref z3, .ref z4])), (a2, .inr (7, [.ref z5, .ref z6]))] H := hP
    have hD : va_D (fun _ => True) [(a0, .inr (5, [.ref a1, .ref z0, .ref z1])), (a1, .inr (4, [.int 0, .ref z2, .ref z3, .ref z4])), (a2, .inr (7, [.ref z5, .ref z6]))] := hD
    have hl : lv_has ls 5 [(4, .int 100), (3, .int 0), (0, .ref a2), (1, .ref a0), (2, .int p0)] := hl
    refine lv_iload hx hb dX5_blockNumber_5 (lv_at hl 0 rfl) ?_
    refine lv_bipush (v := 100) hx hb dX5_blockNumber_7 (by decide) ?_
    refine lv_icmp_ge (tgt := 47) hx hb dX5_blockNumber_9 (by decide) (fun _ => ?_) (fun c => absurd (by decide) c)
    refine lv_iconst (v := (-1)) hx hb dX5_blockNumber_47 (by decide) ?_
    exact e_i hF hr (Nat.le_of_ble_eq_true rfl) (Nat.le_of_ble_eq_true rfl) hS (qg_end hS (fun _ => 0) rfl [] hP rfl d_nil) dX5_blockNumber_48

set_option maxHeartbeats 4000000 in
set_option maxRecDepth 100000 in
theorem c273_X10_blockAt (l : Launch) (hlt : l.stackTraces = false) (a0 : Nat) (a1 : Nat) (a2 : Nat) (a3 : Nat) (z0 : Nat) (z1 : Nat) (z2 : Nat) (z3 : Nat) (z4 : Nat) (z5 : Nat) (z6 : Nat) (z7 : Nat) (z8 : Nat) (z9 : Nat) (z10 : Nat) (z11 : Nat) (z12 : Nat) (z13 : Nat) (z14 : Nat) (z15 : Nat) (z16 : Nat) (z17 : Nat) (z18 : Nat) (z19 : Nat) (p0 : Int32) : CX l (.code yX10_blockAt cX10_blockAt 3 (some .int)) yX10_blockAt { frames := 6, cells := 1, slots := 6, locals := 93 } [.ref a0, .int p0] (fun y => [(a0, .inr (12, [.ref a1, .ref z0, .ref z1, .ref z2, .ref a3, .ref z3, .ref z4, .ref z5, .ref z6, .ref z7, .ref z8, .ref z9, .ref z10, .ref z11, .ref z12])), (a1, .inr (5, [.ref a2, .ref z13, .ref z14])), (a2, .inr (4, [.int 0, .ref z15, .ref z16, .ref z17])), (a3, .inr (7, [.ref z18, .ref z19]))]) (fun _ => []) "java/lang/IndexOutOfBoundsException" := by
  refine mkX (by decide) (Nat.le_of_ble_eq_true rfl) ?_
  intro p e s m args below meth c D y A ls hF htb hAe hP hD hS hl
  have hF : FX p e s m args meth c cX10_blockAt 3 RX10 "blockAt" D y A := hF
  obtain ⟨⟨hx, hb, hml, hown, hts⟩, hev, heh, hA, hlk, hnm⟩ := id hF
  have hK := hev.1
  have hP : va_P D vwCl [(a0, .inr (12, [.ref a1, .ref z0, .ref z1, .ref z2, .ref a3, .ref z3, .ref z4, .ref z5, .ref z6, .ref z7, .ref z8, .ref z9, .ref z10, .ref z11, .ref z12])), (a1, .inr (5, [.ref a2, .ref z13, .ref z14])), (a2, .inr (4, [.int 0, .ref z15, .ref z16, .ref z17])), (a3, .inr (7, [.ref z18, .ref z19]))] s.heap := hP
  have hD : va_D (fun _ => True) [(a0, .inr (12, [.ref a1, .ref z0, .ref z1, .ref z2, .ref a3, .ref z3, .ref z4, .ref z5, .ref z6, .ref z7, .ref z8, .ref z9, .ref z10, .ref z11, .ref z12])), (a1, .inr (5, [.ref a2, .ref z13, .ref z14])), (a2, .inr (4, [.int 0, .ref z15, .ref z16, .ref z17])), (a3, .inr (7, [.ref z18, .ref z19]))] := hD
  have hl : lv_has ls 3 [(0, .ref a0), (1, .int p0)] := hl
  refine lv_aload_n hx hb dX10_blockAt_0 rfl (lv_at hl 0 rfl) ?_
  refine va_get (D := D) (ci := 12) (v := .ref a3) (C := RX10) (T := TX10) (N := 15) hx hb hts inX10 hown hK hP 0 rfl rfl 4 (by decide) (hts _ wd_47) (fun _ h9 => h9) rfl dX10_blockAt_1 ?_
  refine lv_aload_n hx hb dX10_blockAt_4 rfl (lv_at hl 0 rfl) ?_
  refine va_get (D := D) (ci := 12) (v := .ref a1) (C := RX10) (T := TX10) (N := 15) hx hb hts inX10 hown hK hP 0 rfl rfl 0 (by decide) (hts _ wd_24) (fun _ h9 => h9) rfl dX10_blockAt_5 ?_
  refine lv_iload_n hx hb dX10_blockAt_8 rfl (lv_at hl 1 rfl) ?_
  refine cV (l := l) (yM := yX5_blockNumber) (C := RX5) (As := [.ref a1, .int p0]) (rest := []) (wr := [(a0, .inr (12, [.ref a1, .ref z0, .ref z1, .ref z2, .ref a3, .ref z3, .ref z4, .ref z5, .ref z6, .ref z7, .ref z8, .ref z9, .ref z10, .ref z11, .ref z12])), (a1, .inr (5, [.ref a2, .ref z13, .ref z14])), (a2, .inr (4, [.int 0, .ref z15, .ref z16, .ref z17])), (a3, .inr (7, [.ref z18, .ref z19]))]) hF (c273_X5_blockNumber l a1 a2 a3 z13 z14 z15 z16 z17 z18 z19 p0) gv_RX10_294 2 (by decide +kernel) rfl ⟨(Nat.le_of_ble_eq_true rfl), (Nat.le_of_ble_eq_true rfl)⟩ hl.1 rfl (Nat.le_of_ble_eq_true rfl) dX10_blockAt_9 ⟨(Nat.le_of_ble_eq_true rfl), (Nat.le_of_ble_eq_true rfl)⟩ hP hD hS (pA hA hS) (fun _ _ => trivial) [1, 2, 3] [] [0, 1, 2, 3] rfl rfl rfl rfl rfl (by decide) 3 (ci := 7) rfl rfl rfl (fun u_1 H locs hP hD hS => ?_)
  have hP : va_P D vwCl [(a0, .inr (12, [.ref a1, .ref z0, .ref z1, .ref z2, .ref a3, .ref z3, .ref z4, .ref z5, .ref z6, .ref z7, .ref z8, .ref z9, .ref z10, .ref z11, .ref z12])), (a1, .inr (5, [.ref a2, .ref z13, .ref z14])), (a2, .inr (4, [.int 0, .ref z15, .ref z16, .ref z17])), (a3, .inr (7, [.ref z18, .ref z19]))] H := hP
  have hD : va_D (fun _ => True) [(a0, .inr (12, [.ref a1, .ref z0, .ref z1, .ref z2, .ref a3, .ref z3, .ref z4, .ref z5, .ref z6, .ref z7, .ref z8, .ref z9, .ref z10, .ref z11, .ref z12])), (a1, .inr (5, [.ref a2, .ref z13, .ref z14])), (a2, .inr (4, [.int 0, .ref z15, .ref z16, .ref z17])), (a3, .inr (7, [.ref z18, .ref z19]))] := hD
  refine W.widen (k := 0) (n := 0) (Nat.le_of_ble_eq_true rfl) (Nat.le_of_ble_eq_true rfl) ?_
  refine W.eq (g2 := F0 m 12 ls [.int (-1)]) rfl ?_
  refine lv_istore_n (lv' := [(2, .int (-1)), (0, .ref a0), (1, .int p0)]) hx hb dX10_blockAt_12 rfl hl (by decide) rfl (fun ls hl => ?_)
  refine lv_iload_n hx hb dX10_blockAt_13 rfl (lv_at hl 0 rfl) ?_
  refine lv_iconst (v := (-1)) hx hb dX10_blockAt_14 (by decide) ?_
  refine lv_icmp_ne (tgt := 29) hx hb dX10_blockAt_15 (by decide) (fun c => absurd (by decide) c) (fun _ => ?_)
  exact th_W (text := "no such pair blocks") hF htb hlt (by decide) wd_316 wd_317 (List.mem_of_getElem? (i := 20) rfl) exg4 exf4 exo4 hS hl.1 (Nat.le_of_ble_eq_true rfl) ⟨(Nat.le_of_ble_eq_true rfl), (Nat.le_of_ble_eq_true rfl)⟩ ⟨(Nat.le_of_ble_eq_true rfl), (Nat.le_of_ble_eq_true rfl)⟩ ⟨(Nat.le_of_ble_eq_true rfl), (Nat.le_of_ble_eq_true rfl)⟩ dX10_blockAt_18 dX10_blockAt_21 dX10_blockAt_22 dX10_blockAt_25 dX10_blockAt_28

set_option maxHeartbeats 4000000 in
set_option maxRecDepth 100000 in
theorem c273_L_blockAt (l : Launch) (hlt : l.stackTraces = false) (a0 : Nat) (a1 : Nat) (a2 : Nat) (a3 : Nat) (z0 : Nat) (z1 : Nat) (z2 : Nat) (z3 : Nat) (z4 : Nat) (z5 : Nat) (z6 : Nat) (z7 : Nat) (z8 : Nat) (z9 : Nat) (z10 : Nat) (z11 : Nat) (z12 : Nat) (z13 : Nat) (z14 : Nat) (z15 : Nat) (z16 : Nat) (z17 : Nat) (z18 : Nat) (z19 : Nat) (p0 : Int32) (z20 : Nat) : CT l (.codeWith yL_blockAt cL_blockAt 4 (some .int) [(0, 9, 12, 36)]) yL_blockAt { frames := 7, cells := 1, slots := 6, locals := 115 } [.ref a0, .int p0, .ref z20] (fun y => [(a0, .inr (12, [.ref a1, .ref z0, .ref z1, .ref z2, .ref a3, .ref z3, .ref z4, .ref z5, .ref z6, .ref z7, .ref z8, .ref z9, .ref z10, .ref z11, .ref z12])), (a1, .inr (5, [.ref a2, .ref z13, .ref z14])), (a2, .inr (4, [.int 0, .ref z15, .ref z16, .ref z17])), (a3, .inr (7, [.ref z18, .ref z19]))]) (fun _ => []) (fun u => some (.int 1)) (fun y u => []) := by
  refine mkH (by decide) (Nat.le_of_ble_eq_true rfl) ?_
  intro p e s m args below meth c D y A ls hF htab hr hAe hP hD hS hl
  have hF : FX p e s m args meth c cL_blockAt 4 RL "blockAt" D y A := hF
  obtain ⟨⟨hx, hb, hml, hown, hts⟩, hev, heh, hA, hlk, hnm⟩ := id hF
  have hK := hev.1
  have hP : va_P D vwCl [(a0, .inr (12, [.ref a1, .ref z0, .ref z1, .ref z2, .ref a3, .ref z3, .ref z4, .ref z5, .ref z6, .ref z7, .ref z8, .ref z9, .ref z10, .ref z11, .ref z12])), (a1, .inr (5, [.ref a2, .ref z13, .ref z14])), (a2, .inr (4, [.int 0, .ref z15, .ref z16, .ref z17])), (a3, .inr (7, [.ref z18, .ref z19]))] s.heap := hP
  have hD : va_D (fun _ => True) [(a0, .inr (12, [.ref a1, .ref z0, .ref z1, .ref z2, .ref a3, .ref z3, .ref z4, .ref z5, .ref z6, .ref z7, .ref z8, .ref z9, .ref z10, .ref z11, .ref z12])), (a1, .inr (5, [.ref a2, .ref z13, .ref z14])), (a2, .inr (4, [.int 0, .ref z15, .ref z16, .ref z17])), (a3, .inr (7, [.ref z18, .ref z19]))] := hD
  have hl : lv_has ls 4 [(0, .ref a0), (1, .int p0), (2, .ref z20)] := hl
  refine lv_aload_n hx hb dL_blockAt_0 rfl (lv_at hl 2 rfl) ?_
  refine lv_iconst (v := 0) hx hb dL_blockAt_1 (by decide) ?_
  refine lv_aload_n hx hb dL_blockAt_2 rfl (lv_at hl 0 rfl) ?_
  refine lv_iload_n hx hb dL_blockAt_3 rfl (lv_at hl 1 rfl) ?_
  refine hV (wr := [(a0, .inr (12, [.ref a1, .ref z0, .ref z1, .ref z2, .ref a3, .ref z3, .ref z4, .ref z5, .ref z6, .ref z7, .ref z8, .ref z9, .ref z10, .ref z11, .ref z12])), (a1, .inr (5, [.ref a2, .ref z13, .ref z14])), (a2, .inr (4, [.int 0, .ref z15, .ref z16, .ref z17])), (a3, .inr (7, [.ref z18, .ref z19]))]) (name := "java/lang/IndexOutOfBoundsException") (E0 := "java/lang/IndexOutOfBoundsException") (l := l) (yM := yX10_blockAt) (C := RX10) (As := [.int p0]) (rest := [.int 0, .ref z20]) hF (c273_X10_blockAt l hlt a0 a1 a2 a3 z0 z1 z2 z3 z4 z5 z6 z7 z8 z9 z10 z11 z12 z13 z14 z15 z16 z17 z18 z19 p0) gv_RL_92 1 (by decide +kernel) rfl ⟨(Nat.le_of_ble_eq_true rfl), (Nat.le_of_ble_eq_true rfl)⟩ hl.1 rfl (Nat.le_of_ble_eq_true rfl) dL_blockAt_4 ⟨(Nat.le_of_ble_eq_true rfl), (Nat.le_of_ble_eq_true rfl)⟩ hP hD hS (pA hA hS) (fun _ _ => trivial) [0, 1, 2, 3] [] [0, 1, 2, 3] rfl rfl rfl rfl rfl (by decide) 0 (ci := 12) rfl rfl rfl [] ⟨0, 9, 12, 36⟩ [] htab (fun z hz => nomatch hz) (by decide) (by decide) wd_322 (by decide) (fun q9 H locs hP hD hS => ?_)
  have hP : va_P D vwCl [(a0, .inr (12, [.ref a1, .ref z0, .ref z1, .ref z2, .ref a3, .ref z3, .ref z4, .ref z5, .ref z6, .ref z7, .ref z8, .ref z9, .ref z10, .ref z11, .ref z12])), (a1, .inr (5, [.ref a2, .ref z13, .ref z14])), (a2, .inr (4, [.int 0, .ref z15, .ref z16, .ref z17])), (a3, .inr (7, [.ref z18, .ref z19]))] H := hP
  have hD : va_D (fun _ => True) [(a0, .inr (12, [.ref a1, .ref z0, .ref z1, .ref z2, .ref a3, .ref z3, .ref z4, .ref z5, .ref z6, .ref z7, .ref z8, .ref z9, .ref z10, .ref z11, .ref z12])), (a1, .inr (5, [.ref a2, .ref z13, .ref z14])), (a2, .inr (4, [.int 0, .ref z15, .ref z16, .ref z17])), (a3, .inr (7, [.ref z18, .ref z19]))] := hD
  refine W.widen (k := 1) (n := 6) (Nat.le_of_ble_eq_true rfl) (Nat.le_of_ble_eq_true rfl) ?_
  refine W.eq (g2 := F0 m 12 ls [.ref q9]) rfl ?_
  refine lv_astore_n (lv' := [(3, .ref q9), (0, .ref a0), (1, .int p0), (2, .ref z20)]) hx hb dL_blockAt_12 rfl hl (by decide) rfl (fun ls hl => ?_)
  refine lv_iconst (v := 1) hx hb dL_blockAt_13 (by decide) ?_
  exact e_i hF hr (Nat.le_of_ble_eq_true rfl) (Nat.le_of_ble_eq_true rfl) hS (qg_end hS (fun _ => 0) rfl [] hP rfl d_nil) dL_blockAt_14

set_option maxHeartbeats 4000000 in
set_option maxRecDepth 100000 in
theorem c276_X11_blockAt (l : Launch) (a0 : Nat) (a1 : Nat) (z0 : Nat) (z1 : Nat) (z2 : Nat) (z3 : Nat) (z4 : Nat) (z5 : Nat) (z6 : Nat) (z7 : Nat) (z8 : Nat) (z9 : Nat) (z10 : Nat) (z11 : Nat) (z12 : Nat) (p0 : Int32) : CT l (.code yX11_blockAt cX11_blockAt 4 (some .int)) yX11_blockAt { frames := 1, cells := 0, slots := 0, locals := 24 } [.ref a0, .int p0] (fun y => [(a0, .inr (13, [.ref a1, .ref z0, .ref z1, .ref z2, .ref z3, .ref z4, .int 45, .ref z5, .ref z6, .ref z7, .int 0, .ref z8, .ref z9, .int 0, .int 0, .int 0, .int 0, .ref z10, .int 0, .null, .ref z11, .ref z12])), (a1, .inl (y 0, 3, .inl (fun _ => 0)))]) (fun y => [(a0, .inr (13, [.ref a1, .ref z0, .ref z1, .ref z2, .ref z3, .ref z4, .int 45, .ref z5, .ref z6, .ref z7, .int 0, .ref z8, .ref z9, .int 0, .int 0, .int 0, .int 0, .ref z10, .int 0, .null, .ref z11, .ref z12])), (a1, .inl (y 0, 3, .inl (fun _ => 0)))]) (fun u => some (.int 0)) (fun y u => [(a0, .inr (13, [.ref a1, .ref z0, .ref z1, .ref z2, .ref z3, .ref z4, .int 45, .ref z5, .ref z6, .ref z7, .int 0, .ref z8, .ref z9, .int 0, .int 0, .int 1, .int 0, .ref z10, .int 0, .null, .ref z11, .ref z12])), (a1, .inl (y 0, 3, .inl (fun _ => 0)))]) := by
  refine mkM (by decide) (Nat.le_of_ble_eq_true rfl) ?_
  intro p e s m args below meth c D y A ls hF hr hAe hP hD hS hl
  have hF : FX p e s m args meth c cX11_blockAt 4 RX11 "blockAt" D y A := hF
  obtain ⟨⟨hx, hb, hml, hown, hts⟩, hev, heh, hA, hlk, hnm⟩ := id hF
  have hK := hev.1
  have hP : va_P D vwCl [(a0, .inr (13, [.ref a1, .ref z0, .ref z1, .ref z2, .ref z3, .ref z4, .int 45, .ref z5, .ref z6, .ref z7, .int 0, .ref z8, .ref z9, .int 0, .int 0, .int 0, .int 0, .ref z10, .int 0, .null, .ref z11, .ref z12])), (a1, .inl (y 0, 3, .inl (fun _ => 0)))] s.heap := hP
  have hD : va_D A [(a0, .inr (13, [.ref a1, .ref z0, .ref z1, .ref z2, .ref z3, .ref z4, .int 45, .ref z5, .ref z6, .ref z7, .int 0, .ref z8, .ref z9, .int 0, .int 0, .int 0, .int 0, .ref z10, .int 0, .null, .ref z11, .ref z12])), (a1, .inl (y 0, 3, .inl (fun _ => 0)))] := by rw [← hAe]; exact hD.self
  have hl : lv_has ls 4 [(0, .ref a0), (1, .int p0)] := hl
  refine lv_aload_n hx hb dX11_blockAt_0 rfl (lv_at hl 0 rfl) ?_
  refine lv_iload_n hx hb dX11_blockAt_1 rfl (lv_at hl 1 rfl) ?_
  refine lv_iconst (v := 0) hx hb dX11_blockAt_2 (by decide) ?_
  refine lv_aload_n hx hb dX11_blockAt_3 rfl (lv_at hl 0 rfl) ?_
  refine lv_aload_n hx hb dX11_blockAt_4 rfl (lv_at hl 0 rfl) ?_
  refine va_get (D := D) (ci := 13) (v := .ref z4) (C := RX11) (T := TX11) (N := 22) hx hb hts inX11 hown hK hP 0 rfl rfl 5 (by decide) (hts _ wd_125) (fun _ h9 => h9) rfl dX11_blockAt_5 ?_
  refine cV (l := l) (yM := yX11_blocksOf) (C := RX11) (As := [.ref z4]) (rest := [.int 0, .int p0, .ref a0]) (wr := [(a0, .inr (13, [.ref a1, .ref z0, .ref z1, .ref z2, .ref z3, .ref z4, .int 45, .ref z5, .ref z6, .ref z7, .int 0, .ref z8, .ref z9, .int 0, .int 0, .int 0, .int 0, .ref z10, .int 0, .null, .ref z11, .ref z12])), (a1, .inl (y 0, 3, .inl (fun _ => 0)))]) hF (c271_X11_blocksOf l a0 a1 z0 z1 z2 z3 z4 z5 z6 z7 z8 z9 z10 z11 z12) gv_RX11_179 1 (by decide +kernel) rfl ⟨(Nat.le_of_ble_eq_true rfl), (Nat.le_of_ble_eq_true rfl)⟩ hl.1 rfl (Nat.le_of_ble_eq_true rfl) dX11_blockAt_8 ⟨(Nat.le_of_ble_eq_true rfl), (Nat.le_of_ble_eq_true rfl)⟩ hP hD hS (pA hA hS) (fun _ h => h) [0, 1] [] [0, 1] rfl rfl rfl rfl rfl (by decide) 0 (ci := 13) rfl rfl rfl (fun u_1 H locs hP hD hS => ?_)
  have hP : va_P D vwCl [(a0, .inr (13, [.ref a1, .ref z0, .ref z1, .ref z2, .ref z3, .ref z4, .int 45, .ref z5, .ref z6, .ref z7, .int 0, .ref z8, .ref z9, .int 0, .int 0, .int 0, .int 0, .ref z10, .int 0, .null, .ref z11, .ref z12])), (a1, .inl (y 0, 3, .inl (fun _ => 0)))] H := hP
  have hD : va_D A [(a0, .inr (13, [.ref a1, .ref z0, .ref z1, .ref z2, .ref z3, .ref z4, .int 45, .ref z5, .ref z6, .ref z7, .int 0, .ref z8, .ref z9, .int 0, .int 0, .int 0, .int 0, .ref z10, .int 0, .null, .ref z11, .ref z12])), (a1, .inl (y 0, 3, .inl (fun _ => 0)))] := hD
  refine W.widen (k := 0) (n := 0) (Nat.le_of_ble_eq_true rfl) (Nat.le_of_ble_eq_true rfl) ?_
  refine W.eq (g2 := F0 m 11 ls [.int 0, .int 0, .int p0, .ref a0]) rfl ?_
  refine lv_iconst (v := 1) hx hb dX11_blockAt_11 (by decide) ?_
  refine lv_isub hx hb dX11_blockAt_12 ?_
  refine tp_i (v := (-1)) (by decide) ?_
  refine cS (l := l) (yM := yX11_in) (As := [.int p0, .int 0, .int (-1)]) (rest := [.ref a0]) (wr := [(a0, .inr (13, [.ref a1, .ref z0, .ref z1, .ref z2, .ref z3, .ref z4, .int 45, .ref z5, .ref z6, .ref z7, .int 0, .ref z8, .ref z9, .int 0, .int 0, .int 0, .int 0, .ref z10, .int 0, .null, .ref z11, .ref z12])), (a1, .inl (y 0, 3, .inl (fun _ => 0)))]) hF (c86_X11_in l p0) gs_RX11_78 3 (by decide +kernel) rfl ⟨(Nat.le_of_ble_eq_true rfl), (Nat.le_of_ble_eq_true rfl)⟩ hl.1 rfl (Nat.le_of_ble_eq_true rfl) dX11_blockAt_13 ⟨(Nat.le_of_ble_eq_true rfl), (Nat.le_of_ble_eq_true rfl)⟩ hP hD hS (pA hA hS) (fun _ h => h) [] [] [0, 1] rfl rfl rfl rfl rfl (by decide) (fun u_2 H locs hP hD hS => ?_)
  have hP : va_P D vwCl [(a0, .inr (13, [.ref a1, .ref z0, .ref z1, .ref z2, .ref z3, .ref z4, .int 45, .ref z5, .ref z6, .ref z7, .int 0, .ref z8, .ref z9, .int 0, .int 0, .int 0, .int 0, .ref z10, .int 0, .null, .ref z11, .ref z12])), (a1, .inl (y 0, 3, .inl (fun _ => 0)))] H := hP
  have hD : va_D A [(a0, .inr (13, [.ref a1, .ref z0, .ref z1, .ref z2, .ref z3, .ref z4, .int 45, .ref z5, .ref z6, .ref z7, .int 0, .ref z8, .ref z9, .int 0, .int 0, .int 0, .int 0, .ref z10, .int 0, .null, .ref z11, .ref z12])), (a1, .inl (y 0, 3, .inl (fun _ => 0)))] := hD
  refine W.widen (k := 0) (n := 0) (Nat.le_of_ble_eq_true rfl) (Nat.le_of_ble_eq_true rfl) ?_
  refine W.eq (g2 := F0 m 16 ls [.int 0, .ref a0]) rfl ?_
  refine lv_if_ne (tgt := 23) hx hb dX11_blockAt_16 (by decide) (fun c => absurd (by decide) c) (fun _ => ?_)
  refine lv_iconst (v := 1) hx hb dX11_blockAt_19 (by decide) ?_
  refine lv_goto (tgt := 24) hx hb dX11_blockAt_20 (by decide) ?_
  refine lv_iconst (v := 0) hx hb dX11_blockAt_24 (by decide) ?_
  refine lv_iconst (v := 0) hx hb dX11_blockAt_25 (by decide) ?_
  refine cV (l := l) (yM := yX11_fails) (C := RX11) (As := [.int 1, .int 0, .int 0]) (rest := []) (wr := [(a1, .inl (y 0, 3, .inl (fun _ => 0)))]) hF (c67_X11_fails l a0 a1 z0 z1 z2 z3 z4 z5 z6 z7 z8 z9 z10 z11 z12) gv_RX11_128 3 (by decide +kernel) rfl ⟨(Nat.le_of_ble_eq_true rfl), (Nat.le_of_ble_eq_true rfl)⟩ hl.1 rfl (Nat.le_of_ble_eq_true rfl) dX11_blockAt_26 ⟨(Nat.le_of_ble_eq_true rfl), (Nat.le_of_ble_eq_true rfl)⟩ hP hD hS (va_free (wc := [(a0, .inr (13, [.ref a1, .ref z0, .ref z1, .ref z2, .ref z3, .ref z4, .int 45, .ref z5, .ref z6, .ref z7, .int 0, .ref z8, .ref z9, .int 0, .int 0, .int 0, .int 0, .ref z10, .int 0, .null, .ref z11, .ref z12]))]) hD hS hA [0] rfl) (fun _ h => h) [0] [0] [1] rfl rfl rfl rfl rfl (by decide) 0 (ci := 13) rfl rfl rfl (fun u_3 H locs hP hD hS => ?_)
  have hP : va_P D vwCl [(a1, .inl (y 0, 3, .inl (fun _ => 0))), (a0, .inr (13, [.ref a1, .ref z0, .ref z1, .ref z2, .ref z3, .ref z4, .int 45, .ref z5, .ref z6, .ref z7, .int 0, .ref z8, .ref z9, .int 0, .int 0, .int 1, .int 0, .ref z10, .int 0, .null, .ref z11, .ref z12]))] H := hP
  have hD : va_D A [(a1, .inl (y 0, 3, .inl (fun _ => 0))), (a0, .inr (13, [.ref a1, .ref z0, .ref z1, .ref z2, .ref z3, .ref z4, .int 45, .ref z5, .ref z6, .ref z7, .int 0, .ref z8, .ref z9, .int 0, .int 0, .int 1, .int 0, .ref z10, .int 0, .null, .ref z11, .ref z12]))] := hD
  refine W.widen (k := 0) (n := 0) (Nat.le_of_ble_eq_true rfl) (Nat.le_of_ble_eq_true rfl) ?_
  refine W.eq (g2 := F0 m 29 ls [.int 1]) rfl ?_
  refine lv_if_eq (tgt := 34) hx hb dX11_blockAt_29 (by decide) (fun c => absurd c (by decide)) (fun _ => ?_)
  refine lv_iconst (v := 0) hx hb dX11_blockAt_32 (by decide) ?_
  exact e_i hF hr (Nat.le_of_ble_eq_true rfl) (Nat.le_of_ble_eq_true rfl) hS (qg_end hS (fun _ => 0) rfl [1, 0] hP rfl (hD.sub [1, 0] rfl rfl)) dX11_blockAt_33

set_option maxHeartbeats 4000000 in
set_option maxRecDepth 100000 in
theorem c277_X5_isCalm (l : Launch) (a0 : Nat) (a1 : Nat) (a2 : Nat) (z0 : Nat) (z1 : Nat) (z2 : Nat) (z3 : Nat) (z4 : Nat) (z5 : Nat) (z6 : Nat) : CT l (.code yX5_isCalm cX5_isCalm 3 (some .boolean)) yX5_isCalm { frames := 3, cells := 0, slots := 0, locals := 69 } [.ref a2, .ref a0] (fun y => [(a0, .inr (5, [.ref a1, .ref z0, .ref z1])), (a1, .inr (4, [.int 0, .ref z2, .ref z3, .ref z4])), (a2, .inr (7, [.ref z5, .ref z6]))]) (fun _ => []) (fun u => some (.int 1)) (fun y u => []) := by
  refine mkM (by decide) (Nat.le_of_ble_eq_true rfl) ?_
  intro p e s m args below meth c D y A ls hF hr hAe hP hD hS hl
  have hF : FX p e s m args meth c cX5_isCalm 3 RX5 "isCalm" D y A := hF
  obtain ⟨⟨hx, hb, hml, hown, hts⟩, hev, heh, hA, hlk, hnm⟩ := id hF
  have hK := hev.1
  have hP : va_P D vwCl [(a0, .inr (5, [.ref a1, .ref z0, .ref z1])), (a1, .inr (4, [.int 0, .ref z2, .ref z3, .ref z4])), (a2, .inr (7, [.ref z5, .ref z6]))] s.heap := hP
  have hD : va_D (fun _ => True) [(a0, .inr (5, [.ref a1, .ref z0, .ref z1])), (a1, .inr (4, [.int 0, .ref z2, .ref z3, .ref z4])), (a2, .inr (7, [.ref z5, .ref z6]))] := hD
  have hl : lv_has ls 3 [(0, .ref a2), (1, .ref a0)] := hl
  refine lv_iconst (v := 0) hx hb dX5_isCalm_0 (by decide) ?_
  refine lv_istore_n (lv' := [(2, .int 0), (0, .ref a2), (1, .ref a0)]) hx hb dX5_isCalm_1 rfl hl (by decide) rfl (fun ls hl => ?_)
  refine lpF (lo := 0) (N := 100) (by decide) (Wd := fun i => [(a0, .inr (5, [.ref a1, .ref z0, .ref z1])), (a1, .inr (4, [.int 0, .ref z2, .ref z3, .ref z4])), (a2, .inr (7, [.ref z5, .ref z6]))]) (Lv := fun i => [(2, .int (nI i)), (0, .ref a2), (1, .ref a0)]) hP hD hS (lv_sub hl [0, 1, 2] rfl) (fun i hlo_i hi ih_i H locs ls hP hD hS hl => ?_) (fun H locs ls hP hD hS hl => ?_)
  · have hP : va_P D vwCl [(a0, .inr (5, [.ref a1, .ref z0, .ref z1])), (a1, .inr (4, [.int 0, .ref z2, .ref z3, .ref z4])), (a2, .inr (7, [.ref z5, .ref z6]))] H := hP
    have hD : va_D (fun _ => True) [(a0, .inr (5, [.ref a1, .ref z0, .ref z1])), (a1, .inr (4, [.int 0, .ref z2, .ref z3, .ref z4])), (a2, .inr (7, [.ref z5, .ref z6]))] := hD
    have hl : lv_has ls 3 [(2, .int (nI i)), (0, .ref a2), (1, .ref a0)] := hl
    have hi_1 : (nI i) < (100 : Int32) := nI_lt hi (by decide)
    have hi_0 : ¬ (nI i) < (0 : Int32) := nI_pos (by omega)
    refine lv_iload_n hx hb dX5_isCalm_2 rfl (lv_at hl 0 rfl) ?_
    refine lv_bipush (v := 100) hx hb dX5_isCalm_3 (by decide) ?_
    refine lv_icmp_ge (tgt := 32) hx hb dX5_isCalm_5 (by decide) (fun c => absurd c (by have e0 : (0 : Int32).toInt = 0 := (by decide); have e1 : (100 : Int32).toInt = 100 := (by decide); have h9 := And.intro hi_1 hi_0; simp only [Int32.lt_iff_toInt_lt, Int32.le_iff_toInt_le, ← Int32.toInt_inj, e0, e1] at h9 ⊢; omega)) (fun _ => ?_)
    refine lv_aload_n hx hb dX5_isCalm_8 rfl (lv_at hl 1 rfl) ?_
    refine lv_aload_n hx hb dX5_isCalm_9 rfl (lv_at hl 2 rfl) ?_
    refine lv_iload_n hx hb dX5_isCalm_10 rfl (lv_at hl 0 rfl) ?_
    refine lv_bipush (v := 10) hx hb dX5_isCalm_11 (by decide) ?_
    refine lv_idiv hx hb dX5_isCalm_13 (by decide) ?_
    refine lv_topi (fun k1 ek1 => ?_)
    refine lv_iload_n hx hb dX5_isCalm_14 rfl (lv_at hl 0 rfl) ?_
    refine lv_bipush (v := 10) hx hb dX5_isCalm_15 (by decide) ?_
    refine lv_irem hx hb dX5_isCalm_17 (by decide) ?_
    refine lv_topi (fun k2 ek2 => ?_)
    refine cV (l := l) (yM := yX5_isBlock) (C := RX5) (As := [.ref a0, .int k1, .int k2]) (rest := []) (wr := [(a0, .inr (5, [.ref a1, .ref z0, .ref z1])), (a1, .inr (4, [.int 0, .ref z2, .ref z3, .ref z4])), (a2, .inr (7, [.ref z5, .ref z6]))]) hF (c266_X5_isBlock l a0 a1 z0 z1 z2 z3 z4 a2 k1 k2) gv_RX5_77 3 (by decide +kernel) rfl ⟨(Nat.le_of_ble_eq_true rfl), (Nat.le_of_ble_eq_true rfl)⟩ hl.1 rfl (Nat.le_of_ble_eq_true rfl) dX5_isCalm_18 ⟨(Nat.le_of_ble_eq_true rfl), (Nat.le_of_ble_eq_true rfl)⟩ hP hD hS (pA hA hS) (fun _ _ => trivial) [0, 1] [] [0, 1, 2] rfl rfl rfl rfl rfl (by decide) 2 (ci := 7) rfl rfl rfl (fun u_3 H locs hP hD hS => ?_)
    have hP : va_P D vwCl [(a0, .inr (5, [.ref a1, .ref z0, .ref z1])), (a1, .inr (4, [.int 0, .ref z2, .ref z3, .ref z4])), (a2, .inr (7, [.ref z5, .ref z6]))] H := hP
    have hD : va_D (fun _ => True) [(a0, .inr (5, [.ref a1, .ref z0, .ref z1])), (a1, .inr (4, [.int 0, .ref z2, .ref z3, .ref z4])), (a2, .inr (7, [.ref z5, .ref z6]))] := hD
    refine W.widen (k := 0) (n := 0) (Nat.le_of_ble_eq_true rfl) (Nat.le_of_ble_eq_true rfl) ?_
    refine W.eq (g2 := F0 m 21 ls [.int 0]) rfl ?_
    refine lv_if_eq (tgt := 26) hx hb dX5_isCalm_21 (by decide) (fun _ => ?_) (fun c => absurd (by decide) c)
    refine lv_iinc (v := nI (i + 1)) (lv' := [(2, .int (nI (i + 1))), (0, .ref a2), (1, .ref a0)]) hx hb dX5_isCalm_26 hl (k := 0) rfl (nI_inc i) (by decide) rfl (fun ls hl => ?_)
    refine lv_goto (tgt := 2) hx hb dX5_isCalm_29 (by decide) ?_
    exact ih_i _ _ _ hP hD hS (lv_sub hl [0, 1, 2] rfl)
  · have hP : va_P D vwCl [(a0, .inr (5, [.ref a1, .ref z0, .ref z1])), (a1, .inr (4, [.int 0, .ref z2, .ref z3, .ref z4])), (a2, .inr (7, [.ref z5, .ref z6]))] H := hP
    have hD : va_D (fun _ => True) [(a0, .inr (5, [.ref a1, .ref z0, .ref z1])), (a1, .inr (4, [.int 0, .ref z2, .ref z3, .ref z4])), (a2, .inr (7, [.ref z5, .ref z6]))] := hD
    have hl : lv_has ls 3 [(2, .int 100), (0, .ref a2), (1, .ref a0)] := hl
    refine lv_iload_n hx hb dX5_isCalm_2 rfl (lv_at hl 0 rfl) ?_
    refine lv_bipush (v := 100) hx hb dX5_isCalm_3 (by decide) ?_
    refine lv_icmp_ge (tgt := 32) hx hb dX5_isCalm_5 (by decide) (fun _ => ?_) (fun c => absurd (by decide) c)
    refine lv_iconst (v := 1) hx hb dX5_isCalm_32 (by decide) ?_
    exact e_z hF hr (by decide) (Nat.le_of_ble_eq_true rfl) (Nat.le_of_ble_eq_true rfl) hS (qg_end hS (fun _ => 0) rfl [] hP rfl d_nil) dX5_isCalm_33

set_option maxHeartbeats 4000000 in
set_option maxRecDepth 100000 in
theorem c277_X10_isStable (l : Launch) (a0 : Nat) (a1 : Nat) (a2 : Nat) (a3 : Nat) (z0 : Nat) (z1 : Nat) (z2 : Nat) (z3 : Nat) (z4 : Nat) (z5 : Nat) (z6 : Nat) (z7 : Nat) (z8 : Nat) (z9 : Nat) (z10 : Nat) (z11 : Nat) (z12 : Nat) (z13 : Nat) (z14 : Nat) (z15 : Nat) (z16 : Nat) (z17 : Nat) (z18 : Nat) (z19 : Nat) : CT l (.code yX10_isStable cX10_isStable 1 (some .boolean)) yX10_isStable { frames := 4, cells := 0, slots := 0, locals := 91 } [.ref a0] (fun y => [(a0, .inr (12, [.ref a1, .ref z0, .ref z1, .ref z2, .ref a3, .ref z3, .ref z4, .ref z5, .ref z6, .ref z7, .ref z8, .ref z9, .ref z10, .ref z11, .ref z12])), (a1, .inr (5, [.ref a2, .ref z13, .ref z14])), (a2, .inr (4, [.int 0, .ref z15, .ref z16, .ref z17])), (a3, .inr (7, [.ref z18, .ref z19]))]) (fun _ => []) (fun u => some (.int 1)) (fun y u => []) := by
  refine mkM (by decide) (Nat.le_of_ble_eq_true rfl) ?_
  intro p e s m args below meth c D y A ls hF hr hAe hP hD hS hl
  have hF : FX p e s m args meth c cX10_isStable 1 RX10 "isStable" D y A := hF
  obtain ⟨⟨hx, hb, hml, hown, hts⟩, hev, heh, hA, hlk, hnm⟩ := id hF
  have hK := hev.1
  have hP : va_P D vwCl [(a0, .inr (12, [.ref a1, .ref z0, .ref z1, .ref z2, .ref a3, .ref z3, .ref z4, .ref z5, .ref z6, .ref z7, .ref z8, .ref z9, .ref z10, .ref z11, .ref z12])), (a1, .inr (5, [.ref a2, .ref z13, .ref z14])), (a2, .inr (4, [.int 0, .ref z15, .ref z16, .ref z17])), (a3, .inr (7, [.ref z18, .ref z19]))] s.heap := hP
  have hD : va_D (fun _ => True) [(a0, .inr (12, [.ref a1, .ref z0, .ref z1, .ref z2, .ref a3, .ref z3, .ref z4, .ref z5, .ref z6, .ref z7, .ref z8, .ref z9, .ref z10, .ref z11, .ref z12])), (a1, .inr (5, [.ref a2, .ref z13, .ref z14])), (a2, .inr (4, [.int 0, .ref z15, .ref z16, .ref z17])), (a3, .inr (7, [.ref z18, .ref z19]))] := hD
  have hl : lv_has ls 1 [(0, .ref a0)] := hl
  refine lv_aload_n hx hb dX10_isStable_0 rfl (lv_at hl 0 rfl) ?_
  refine va_get (D := D) (ci := 12) (v := .ref a3) (C := RX10) (T := TX10) (N := 15) hx hb hts inX10 hown hK hP 0 rfl rfl 4 (by decide) (hts _ wd_47) (fun _ h9 => h9) rfl dX10_isStable_1 ?_
  refine lv_aload_n hx hb dX10_isStable_4 rfl (lv_at hl 0 rfl) ?_
  refine va_get (D := D) (ci := 12) (v := .ref a1) (C := RX10) (T := TX10) (N := 15) hx hb hts inX10 hown hK hP 0 rfl rfl 0 (by decide) (hts _ wd_24) (fun _ h9 => h9) rfl dX10_isStable_5 ?_
  refine cV (l := l) (yM := yX5_isCalm) (C := RX5) (As := [.ref a1]) (rest := []) (wr := [(a0, .inr (12, [.ref a1, .ref z0, .ref z1, .ref z2, .ref a3, .ref z3, .ref z4, .ref z5, .ref z6, .ref z7, .ref z8, .ref z9, .ref z10, .ref z11, .ref z12])), (a1, .inr (5, [.ref a2, .ref z13, .ref z14])), (a2, .inr (4, [.int 0, .ref z15, .ref z16, .ref z17])), (a3, .inr (7, [.ref z18, .ref z19]))]) hF (c277_X5_isCalm l a1 a2 a3 z13 z14 z15 z16 z17 z18 z19) gv_RX10_300 1 (by decide +kernel) rfl ⟨(Nat.le_of_ble_eq_true rfl), (Nat.le_of_ble_eq_true rfl)⟩ hl.1 rfl (Nat.le_of_ble_eq_true rfl) dX10_isStable_8 ⟨(Nat.le_of_ble_eq_true rfl), (Nat.le_of_ble_eq_true rfl)⟩ hP hD hS (pA hA hS) (fun _ _ => trivial) [1, 2, 3] [] [0, 1, 2, 3] rfl rfl rfl rfl rfl (by decide) 3 (ci := 7) rfl rfl rfl (fun u_1 H locs hP hD hS => ?_)
  have hP : va_P D vwCl [(a0, .inr (12, [.ref a1, .ref z0, .ref z1, .ref z2, .ref a3, .ref z3, .ref z4, .ref z5, .ref z6, .ref z7, .ref z8, .ref z9, .ref z10, .ref z11, .ref z12])), (a1, .inr (5, [.ref a2, .ref z13, .ref z14])), (a2, .inr (4, [.int 0, .ref z15, .ref z16, .ref z17])), (a3, .inr (7, [.ref z18, .ref z19]))] H := hP
  have hD : va_D (fun _ => True) [(a0, .inr (12, [.ref a1, .ref z0, .ref z1, .ref z2, .ref a3, .ref z3, .ref z4, .ref z5, .ref z6, .ref z7, .ref z8, .ref z9, .ref z10, .ref z11, .ref z12])), (a1, .inr (5, [.ref a2, .ref z13, .ref z14])), (a2, .inr (4, [.int 0, .ref z15, .ref z16, .ref z17])), (a3, .inr (7, [.ref z18, .ref z19]))] := hD
  refine W.widen (k := 0) (n := 0) (Nat.le_of_ble_eq_true rfl) (Nat.le_of_ble_eq_true rfl) ?_
  refine W.eq (g2 := F0 m 11 ls [.int 1]) rfl ?_
  exact e_z hF hr (by decide) (Nat.le_of_ble_eq_true rfl) (Nat.le_of_ble_eq_true rfl) hS (qg_end hS (fun _ => 0) rfl [] hP rfl d_nil) dX10_isStable_11

set_option maxHeartbeats 4000000 in
set_option maxRecDepth 100000 in
theorem c279_X11_isStable (l : Launch) (a0 : Nat) (a1 : Nat) (z0 : Nat) (z1 : Nat) (z2 : Nat) (z3 : Nat) (z4 : Nat) (z5 : Nat) (z6 : Nat) (z7 : Nat) (z8 : Nat) (z9 : Nat) (z10 : Nat) (z11 : Nat) (z12 : Nat) : CT l (.code yX11_isStable cX11_isStable 1 (some .boolean)) yX11_isStable { frames := 1, cells := 0, slots := 0, locals := 24 } [.ref a0] (fun y => [(a0, .inr (13, [.ref a1, .ref z0, .ref z1, .ref z2, .ref z3, .ref z4, .int 45, .ref z5, .ref z6, .ref z7, .int 0, .ref z8, .ref z9, .int 0, .int 0, .int 0, .int 0, .ref z10, .int 0, .null, .ref z11, .ref z12])), (a1, .inl (y 0, 3, .inl (fun _ => 0)))]) (fun y => [(a0, .inr (13, [.ref a1, .ref z0, .ref z1, .ref z2, .ref z3, .ref z4, .int 45, .ref z5, .ref z6, .ref z7, .int 0, .ref z8, .ref z9, .int 0, .int 0, .int 0, .int 0, .ref z10, .int 0, .null, .ref z11, .ref z12])), (a1, .inl (y 0, 3, .inl (fun _ => 0)))]) (fun u => some (.int 1)) (fun y u => [(a0, .inr (13, [.ref a1, .ref z0, .ref z1, .ref z2, .ref z3, .ref z4, .int 45, .ref z5, .ref z6, .ref z7, .int 0, .ref z8, .ref z9, .int 0, .int 0, .int 0, .int 0, .ref z10, .int 0, .null, .ref z11, .ref z12])), (a1, .inl (y 0, 3, .inl (fun _ => 0)))]) := by
  refine mkM (by decide) (Nat.le_of_ble_eq_true rfl) ?_
  intro p e s m args below meth c D y A ls hF hr hAe hP hD hS hl
  have hF : FX p e s m args meth c cX11_isStable 1 RX11 "isStable" D y A := hF
  obtain ⟨⟨hx, hb, hml, hown, hts⟩, hev, heh, hA, hlk, hnm⟩ := id hF
  have hK := hev.1
  have hP : va_P D vwCl [(a0, .inr (13, [.ref a1, .ref z0, .ref z1, .ref z2, .ref z3, .ref z4, .int 45, .ref z5, .ref z6, .ref z7, .int 0, .ref z8, .ref z9, .int 0, .int 0, .int 0, .int 0, .ref z10, .int 0, .null, .ref z11, .ref z12])), (a1, .inl (y 0, 3, .inl (fun _ => 0)))] s.heap := hP
  have hD : va_D A [(a0, .inr (13, [.ref a1, .ref z0, .ref z1, .ref z2, .ref z3, .ref z4, .int 45, .ref z5, .ref z6, .ref z7, .int 0, .ref z8, .ref z9, .int 0, .int 0, .int 0, .int 0, .ref z10, .int 0, .null, .ref z11, .ref z12])), (a1, .inl (y 0, 3, .inl (fun _ => 0)))] := by rw [← hAe]; exact hD.self
  have hl : lv_has ls 1 [(0, .ref a0)] := hl
  refine lv_aload_n hx hb dX11_isStable_0 rfl (lv_at hl 0 rfl) ?_
  refine lv_iconst (v := 0) hx hb dX11_isStable_1 (by decide) ?_
  refine va_put (D := D) (ci := 13) (v := .int 0) (ty := .int) (C := RX11) (T := TX11) (N := 22) hx hb hts inX11 tyX11 tyX11_ok nmX11 hown hK hP hD hS 0 rfl rfl 15 (by decide) (hts _ wd_216) (fun _ h9 => h9) rfl (by decide +kernel) rfl rfl (Nat.le_of_ble_eq_true rfl) dX11_isStable_2 (fun H locs hP hD hS => ?_)
  have hP : va_P D vwCl [(a0, .inr (13, [.ref a1, .ref z0, .ref z1, .ref z2, .ref z3, .ref z4, .int 45, .ref z5, .ref z6, .ref z7, .int 0, .ref z8, .ref z9, .int 0, .int 0, .int 0, .int 0, .ref z10, .int 0, .null, .ref z11, .ref z12])), (a1, .inl (y 0, 3, .inl (fun _ => 0)))] H := hP
  have hD : va_D A [(a0, .inr (13, [.ref a1, .ref z0, .ref z1, .ref z2, .ref z3, .ref z4, .int 45, .ref z5, .ref z6, .ref z7, .int 0, .ref z8, .ref z9, .int 0, .int 0, .int 0, .int 0, .ref z10, .int 0, .null, .ref z11, .ref z12])), (a1, .inl (y 0, 3, .inl (fun _ => 0)))] := hD
  refine lv_aload_n hx hb dX11_isStable_5 rfl (lv_at hl 0 rfl) ?_
  refine lv_aload_n hx hb dX11_isStable_6 rfl (lv_at hl 0 rfl) ?_
  refine va_get (D := D) (ci := 13) (v := .ref z4) (C := RX11) (T := TX11) (N := 22) hx hb hts inX11 hown hK hP 0 rfl rfl 5 (by decide) (hts _ wd_125) (fun _ h9 => h9) rfl dX11_isStable_7 ?_
  refine cV (l := l) (yM := yX11_blocksOf) (C := RX11) (As := [.ref z4]) (rest := []) (wr := [(a0, .inr (13, [.ref a1, .ref z0, .ref z1, .ref z2, .ref z3, .ref z4, .int 45, .ref z5, .ref z6, .ref z7, .int 0, .ref z8, .ref z9, .int 0, .int 0, .int 0, .int 0, .ref z10, .int 0, .null, .ref z11, .ref z12])), (a1, .inl (y 0, 3, .inl (fun _ => 0)))]) hF (c271_X11_blocksOf l a0 a1 z0 z1 z2 z3 z4 z5 z6 z7 z8 z9 z10 z11 z12) gv_RX11_179 1 (by decide +kernel) rfl ⟨(Nat.le_of_ble_eq_true rfl), (Nat.le_of_ble_eq_true rfl)⟩ hl.1 rfl (Nat.le_of_ble_eq_true rfl) dX11_isStable_10 ⟨(Nat.le_of_ble_eq_true rfl), (Nat.le_of_ble_eq_true rfl)⟩ hP hD hS (pA hA hS) (fun _ h => h) [0, 1] [] [0, 1] rfl rfl rfl rfl rfl (by decide) 0 (ci := 13) rfl rfl rfl (fun u_1 H locs hP hD hS => ?_)
  have hP : va_P D vwCl [(a0, .inr (13, [.ref a1, .ref z0, .ref z1, .ref z2, .ref z3, .ref z4, .int 45, .ref z5, .ref z6, .ref z7, .int 0, .ref z8, .ref z9, .int 0, .int 0, .int 0, .int 0, .ref z10, .int 0, .null, .ref z11, .ref z12])), (a1, .inl (y 0, 3, .inl (fun _ => 0)))] H := hP
  have hD : va_D A [(a0, .inr (13, [.ref a1, .ref z0, .ref z1, .ref z2, .ref z3, .ref z4, .int 45, .ref z5, .ref z6, .ref z7, .int 0, .ref z8, .ref z9, .int 0, .int 0, .int 0, .int 0, .ref z10, .int 0, .null, .ref z11, .ref z12])), (a1, .inl (y 0, 3, .inl (fun _ => 0)))] := hD
  refine W.widen (k := 0) (n := 0) (Nat.le_of_ble_eq_true rfl) (Nat.le_of_ble_eq_true rfl) ?_
  refine W.eq (g2 := F0 m 13 ls [.int 0]) rfl ?_
  refine lv_if_ne (tgt := 20) hx hb dX11_isStable_13 (by decide) (fun c => absurd (by decide) c) (fun _ => ?_)
  refine lv_iconst (v := 1) hx hb dX11_isStable_16 (by decide) ?_
  refine lv_goto (tgt := 21) hx hb dX11_isStable_17 (by decide) ?_
  exact e_z hF hr (by decide) (Nat.le_of_ble_eq_true rfl) (Nat.le_of_ble_eq_true rfl) hS (qg_end hS (fun _ => 0) rfl [0, 1] hP rfl (hD.sub [0, 1] rfl rfl)) dX11_isStable_21

set_option maxHeartbeats 4000000 in
set_option maxRecDepth 100000 in
theorem c280_X10_filled (l : Launch) (hlt : l.stackTraces = false) (a0 : Nat) (a1 : Nat) (a2 : Nat) (z0 : Nat) (z1 : Nat) (z2 : Nat) (z3 : Nat) (z4 : Nat) (z5 : Nat) (z6 : Nat) (z7 : Nat) (z8 : Nat) (z9 : Nat) (z10 : Nat) (z11 : Nat) (z12 : Nat) (z13 : Nat) (z14 : Nat) (z15 : Nat) (z16 : Nat) (z17 : Nat) (z18 : Nat) (p0 : Int32) : CX l (.code yX10_filled cX10_filled 2 (some .int)) yX10_filled { frames := 7, cells := 1, slots := 6, locals := 111 } [.ref a0, .int p0] (fun y => [(a0, .inr (12, [.ref a1, .ref z0, .ref z1, .ref z2, .ref z3, .ref z4, .ref z5, .ref z6, .ref z7, .ref z8, .ref z9, .ref z10, .ref z11, .ref z12, .ref z13])), (a1, .inr (5, [.ref z14, .ref a2, .ref z15])), (a2, .inr (4, [.int 0, .ref z16, .ref z17, .ref z18]))]) (fun _ => []) "java/util/NoSuchElementException" := by
  refine mkX (by decide) (Nat.le_of_ble_eq_true rfl) ?_
  intro p e s m args below meth c D y A ls hF htb hAe hP hD hS hl
  have hF : FX p e s m args meth c cX10_filled 2 RX10 "filled" D y A := hF
  obtain ⟨⟨hx, hb, hml, hown, hts⟩, hev, heh, hA, hlk, hnm⟩ := id hF
  have hK := hev.1
  have hP : va_P D vwCl [(a0, .inr (12, [.ref a1, .ref z0, .ref z1, .ref z2, .ref z3, .ref z4, .ref z5, .ref z6, .ref z7, .ref z8, .ref z9, .ref z10, .ref z11, .ref z12, .ref z13])), (a1, .inr (5, [.ref z14, .ref a2, .ref z15])), (a2, .inr (4, [.int 0, .ref z16, .ref z17, .ref z18]))] s.heap := hP
  have hD : va_D (fun _ => True) [(a0, .inr (12, [.ref a1, .ref z0, .ref z1, .ref z2, .ref z3, .ref z4, .ref z5, .ref z6, .ref z7, .ref z8, .ref z9, .ref z10, .ref z11, .ref z12, .ref z13])), (a1, .inr (5, [.ref z14, .ref a2, .ref z15])), (a2, .inr (4, [.int 0, .ref z16, .ref z17, .ref z18]))] := hD
  have hl : lv_has ls 2 [(0, .ref a0), (1, .int p0)] := hl
  refine lv_aload_n hx hb dX10_filled_0 rfl (lv_at hl 0 rfl) ?_
  refine lv_iload_n hx hb dX10_filled_1 rfl (lv_at hl 1 rfl) ?_
  exact xV (l := l) (yM := yX10_needHouse) (C := RX10) (As := [.int p0]) (rest := []) hF htb (c82_X10_needHouse l hlt a0 a1 a2 z0 z1 z2 z3 z4 z5 z6 z7 z8 z9 z10 z11 z12 z13 z14 z15 z16 z17 z18 p0) gv_RX10_116 1 (by decide +kernel) rfl ⟨(Nat.le_of_ble_eq_true rfl), (Nat.le_of_ble_eq_true rfl)⟩ hl.1 rfl (Nat.le_of_ble_eq_true rfl) dX10_filled_2 ⟨(Nat.le_of_ble_eq_true rfl), (Nat.le_of_ble_eq_true rfl)⟩ hP hD hS (pA hA hS) [0, 1, 2] rfl rfl 0 (ci := 12) rfl rfl rfl ⟨(Nat.le_of_ble_eq_true rfl), (Nat.le_of_ble_eq_true rfl)⟩

set_option maxHeartbeats 4000000 in
set_option maxRecDepth 100000 in
theorem c280_L_filled (l : Launch) (hlt : l.stackTraces = false) (a0 : Nat) (a1 : Nat) (a2 : Nat) (z0 : Nat) (z1 : Nat) (z2 : Nat) (z3 : Nat) (z4 : Nat) (z5 : Nat) (z6 : Nat) (z7 : Nat) (z8 : Nat) (z9 : Nat) (z10 : Nat) (z11 : Nat) (z12 : Nat) (z13 : Nat) (z14 : Nat) (z15 : Nat) (z16 : Nat) (z17 : Nat) (z18 : Nat) (p0 : Int32) (z19 : Nat) : CT l (.codeWith yL_filled cL_filled 4 (some .int) [(0, 9, 12, 24)]) yL_filled { frames := 8, cells := 1, slots := 6, locals := 132 } [.ref a0, .int p0, .ref z19] (fun y => [(a0, .inr (12, [.ref a1, .ref z0, .ref z1, .ref z2, .ref z3, .ref z4, .ref z5, .ref z6, .ref z7, .ref z8, .ref z9, .ref z10, .ref z11, .ref z12, .ref z13])), (a1, .inr (5, [.ref z14, .ref a2, .ref z15])), (a2, .inr (4, [.int 0, .ref z16, .ref z17, .ref z18]))]) (fun _ => []) (fun u => some (.int 1)) (fun y u => []) := by
  refine mkH (by decide) (Nat.le_of_ble_eq_true rfl) ?_
  intro p e s m args below meth c D y A ls hF htab hr hAe hP hD hS hl
  have hF : FX p e s m args meth c cL_filled 4 RL "filled" D y A := hF
  obtain ⟨⟨hx, hb, hml, hown, hts⟩, hev, heh, hA, hlk, hnm⟩ := id hF
  have hK := hev.1
  have hP : va_P D vwCl [(a0, .inr (12, [.ref a1, .ref z0, .ref z1, .ref z2, .ref z3, .ref z4, .ref z5, .ref z6, .ref z7, .ref z8, .ref z9, .ref z10, .ref z11, .ref z12, .ref z13])), (a1, .inr (5, [.ref z14, .ref a2, .ref z15])), (a2, .inr (4, [.int 0, .ref z16, .ref z17, .ref z18]))] s.heap := hP
  have hD : va_D (fun _ => True) [(a0, .inr (12, [.ref a1, .ref z0, .ref z1, .ref z2, .ref z3, .ref z4, .ref z5, .ref z6, .ref z7, .ref z8, .ref z9, .ref z10, .ref z11, .ref z12, .ref z13])), (a1, .inr (5, [.ref z14, .ref a2, .ref z15])), (a2, .inr (4, [.int 0, .ref z16, .ref z17, .ref z18]))] := hD
  have hl : lv_has ls 4 [(0, .ref a0), (1, .int p0), (2, .ref z19)] := hl
  refine lv_aload_n hx hb dL_filled_0 rfl (lv_at hl 2 rfl) ?_
  refine lv_iconst (v := 0) hx hb dL_filled_1 (by decide) ?_
  refine lv_aload_n hx hb dL_filled_2 rfl (lv_at hl 0 rfl) ?_
  refine lv_iload_n hx hb dL_filled_3 rfl (lv_at hl 1 rfl) ?_
  refine hV (wr := [(a0, .inr (12, [.ref a1, .ref z0, .ref z1, .ref z2, .ref z3, .ref z4, .ref z5, .ref z6, .ref z7, .ref z8, .ref z9, .ref z10, .ref z11, .ref z12, .ref z13])), (a1, .inr (5, [.ref z14, .ref a2, .ref z15])), (a2, .inr (4, [.int 0, .ref z16, .ref z17, .ref z18]))]) (name := "java/util/NoSuchElementException") (E0 := "java/util/NoSuchElementException") (l := l) (yM := yX10_filled) (C := RX10) (As := [.int p0]) (rest := [.int 0, .ref z19]) hF (c280_X10_filled l hlt a0 a1 a2 z0 z1 z2 z3 z4 z5 z6 z7 z8 z9 z10 z11 z12 z13 z14 z15 z16 z17 z18 p0) gv_RL_95 1 (by decide +kernel) rfl ⟨(Nat.le_of_ble_eq_true rfl), (Nat.le_of_ble_eq_true rfl)⟩ hl.1 rfl (Nat.le_of_ble_eq_true rfl) dL_filled_4 ⟨(Nat.le_of_ble_eq_true rfl), (Nat.le_of_ble_eq_true rfl)⟩ hP hD hS (pA hA hS) (fun _ _ => trivial) [0, 1, 2] [] [0, 1, 2] rfl rfl rfl rfl rfl (by decide) 0 (ci := 12) rfl rfl rfl [] ⟨0, 9, 12, 24⟩ [] htab (fun z hz => nomatch hz) (by decide) (by decide) wd_261 (by decide) (fun q9 H locs hP hD hS => ?_)
  have hP : va_P D vwCl [(a0, .inr (12, [.ref a1, .ref z0, .ref z1, .ref z2, .ref z3, .ref z4, .ref z5, .ref z6, .ref z7, .ref z8, .ref z9, .ref z10, .ref z11, .ref z12, .ref z13])), (a1, .inr (5, [.ref z14, .ref a2, .ref z15])), (a2, .inr (4, [.int 0, .ref z16, .ref z17, .ref z18]))] H := hP
  have hD : va_D (fun _ => True) [(a0, .inr (12, [.ref a1, .ref z0, .ref z1, .ref z2, .ref z3, .ref z4, .ref z5, .ref z6, .ref z7, .ref z8, .ref z9, .ref z10, .ref z11, .ref z12, .ref z13])), (a1, .inr (5, [.ref z14, .ref a2, .ref z15])), (a2, .inr (4, [.int 0, .ref z16, .ref z17, .ref z18]))] := hD
  refine W.widen (k := 1) (n := 6) (Nat.le_of_ble_eq_true rfl) (Nat.le_of_ble_eq_true rfl) ?_
  refine W.eq (g2 := F0 m 12 ls [.ref q9]) rfl ?_
  refine lv_astore_n (lv' := [(3, .ref q9), (0, .ref a0), (1, .int p0), (2, .ref z19)]) hx hb dL_filled_12 rfl hl (by decide) rfl (fun ls hl => ?_)
  refine lv_iconst (v := 1) hx hb dL_filled_13 (by decide) ?_
  exact e_i hF hr (Nat.le_of_ble_eq_true rfl) (Nat.le_of_ble_eq_true rfl) hS (qg_end hS (fun _ => 0) rfl [] hP rfl d_nil) dL_filled_14

set_option maxHeartbeats 4000000 in
set_option maxRecDepth 100000 in
theorem c282_X11_filled (l : Launch) (a0 : Nat) (a1 : Nat) (z0 : Nat) (z1 : Nat) (z2 : Nat) (z3 : Nat) (z4 : Nat) (z5 : Nat) (z6 : Nat) (z7 : Nat) (z8 : Nat) (z9 : Nat) (z10 : Nat) (z11 : Nat) (z12 : Nat) (p0 : Int32) : CT l (.code yX11_filled cX11_filled 2 (some .int)) yX11_filled { frames := 2, cells := 0, slots := 0, locals := 43 } [.ref a0, .int p0] (fun y => [(a0, .inr (13, [.ref a1, .ref z0, .ref z1, .ref z2, .ref z3, .ref z4, .int 45, .ref z5, .ref z6, .ref z7, .int 0, .ref z8, .ref z9, .int 0, .int 0, .int 0, .int 0, .ref z10, .int 0, .null, .ref z11, .ref z12])), (a1, .inl (y 0, 3, .inl (fun _ => 0)))]) (fun y => [(a0, .inr (13, [.ref a1, .ref z0, .ref z1, .ref z2, .ref z3, .ref z4, .int 45, .ref z5, .ref z6, .ref z7, .int 0, .ref z8, .ref z9, .int 0, .int 0, .int 0, .int 0, .ref z10, .int 0, .null, .ref z11, .ref z12])), (a1, .inl (y 0, 3, .inl (fun _ => 0)))]) (fun u => some (.int 0)) (fun y u => [(a0, .inr (13, [.ref a1, .ref z0, .ref z1, .ref z2, .ref z3, .ref z4, .int 45, .ref z5, .ref z6, .ref z7, .int 0, .ref z8, .ref z9, .int 0, .int 0, .int 1, .int 0, .ref z10, .int 0, .null, .ref z11, .ref z12])), (a1, .inl (y 0, 3, .inl (fun _ => 0)))]) := by
  refine mkM (by decide) (Nat.le_of_ble_eq_true rfl) ?_
  intro p e s m args below meth c D y A ls hF hr hAe hP hD hS hl
  have hF : FX p e s m args meth c cX11_filled 2 RX11 "filled" D y A := hF
  obtain ⟨⟨hx, hb, hml, hown, hts⟩, hev, heh, hA, hlk, hnm⟩ := id hF
  have hK := hev.1
  have hP : va_P D vwCl [(a0, .inr (13, [.ref a1, .ref z0, .ref z1, .ref z2, .ref z3, .ref z4, .int 45, .ref z5, .ref z6, .ref z7, .int 0, .ref z8, .ref z9, .int 0, .int 0, .int 0, .int 0, .ref z10, .int 0, .null, .ref z11, .ref z12])), (a1, .inl (y 0, 3, .inl (fun _ => 0)))] s.heap := hP
  have hD : va_D A [(a0, .inr (13, [.ref a1, .ref z0, .ref z1, .ref z2, .ref z3, .ref z4, .int 45, .ref z5, .ref z6, .ref z7, .int 0, .ref z8, .ref z9, .int 0, .int 0, .int 0, .int 0, .ref z10, .int 0, .null, .ref z11, .ref z12])), (a1, .inl (y 0, 3, .inl (fun _ => 0)))] := by rw [← hAe]; exact hD.self
  have hl : lv_has ls 2 [(0, .ref a0), (1, .int p0)] := hl
  refine lv_aload_n hx hb dX11_filled_0 rfl (lv_at hl 0 rfl) ?_
  refine lv_aload_n hx hb dX11_filled_1 rfl (lv_at hl 0 rfl) ?_
  refine lv_iload_n hx hb dX11_filled_2 rfl (lv_at hl 1 rfl) ?_
  refine cV (l := l) (yM := yX11_isHouse) (C := RX11) (As := [.int p0]) (rest := [.ref a0]) (wr := [(a0, .inr (13, [.ref a1, .ref z0, .ref z1, .ref z2, .ref z3, .ref z4, .int 45, .ref z5, .ref z6, .ref z7, .int 0, .ref z8, .ref z9, .int 0, .int 0, .int 0, .int 0, .ref z10, .int 0, .null, .ref z11, .ref z12])), (a1, .inl (y 0, 3, .inl (fun _ => 0)))]) hF (c86_X11_isHouse l a0 a1 z0 z1 z2 z3 z4 z5 z6 z7 z8 z9 z10 z11 z12 p0) gv_RX11_135 1 (by decide +kernel) rfl ⟨(Nat.le_of_ble_eq_true rfl), (Nat.le_of_ble_eq_true rfl)⟩ hl.1 rfl (Nat.le_of_ble_eq_true rfl) dX11_filled_3 ⟨(Nat.le_of_ble_eq_true rfl), (Nat.le_of_ble_eq_true rfl)⟩ hP hD hS (pA hA hS) (fun _ h => h) [0, 1] [] [0, 1] rfl rfl rfl rfl rfl (by decide) 0 (ci := 13) rfl rfl rfl (fun u_1 H locs hP hD hS => ?_)
  have hP : va_P D vwCl [(a0, .inr (13, [.ref a1, .ref z0, .ref z1, .ref z2, .ref z3, .ref z4, .int 45, .ref z5, .ref z6, .ref z7, .int 0, .ref z8, .ref z9, .int 0, .int 0, .int 0, .int 0, .ref z10, .int 0, .null, .ref z11, .ref z12])), (a1, .inl (y 0, 3, .inl (fun _ => 0)))] H := hP
  have hD : va_D A [(a0, .inr (13, [.ref a1, .ref z0, .ref z1, .ref z2, .ref z3, .ref z4, .int 45, .ref z5, .ref z6, .ref z7, .int 0, .ref z8, .ref z9, .int 0, .int 0, .int 0, .int 0, .ref z10, .int 0, .null, .ref z11, .ref z12])), (a1, .inl (y 0, 3, .inl (fun _ => 0)))] := hD
  refine W.widen (k := 0) (n := 0) (Nat.le_of_ble_eq_true rfl) (Nat.le_of_ble_eq_true rfl) ?_
  refine W.eq (g2 := F0 m 6 ls [.int 0, .ref a0]) rfl ?_
  refine lv_if_ne (tgt := 13) hx hb dX11_filled_6 (by decide) (fun c => absurd (by decide) c) (fun _ => ?_)
  refine lv_iconst (v := 1) hx hb dX11_filled_9 (by decide) ?_
  refine lv_goto (tgt := 14) hx hb dX11_filled_10 (by decide) ?_
  refine lv_iconst (v := 0) hx hb dX11_filled_14 (by decide) ?_
  refine lv_iconst (v := 0) hx hb dX11_filled_15 (by decide) ?_
  refine cV (l := l) (yM := yX11_fails) (C := RX11) (As := [.int 1, .int 0, .int 0]) (rest := []) (wr := [(a1, .inl (y 0, 3, .inl (fun _ => 0)))]) hF (c67_X11_fails l a0 a1 z0 z1 z2 z3 z4 z5 z6 z7 z8 z9 z10 z11 z12) gv_RX11_128 3 (by decide +kernel) rfl ⟨(Nat.le_of_ble_eq_true rfl), (Nat.le_of_ble_eq_true rfl)⟩ hl.1 rfl (Nat.le_of_ble_eq_true rfl) dX11_filled_16 ⟨(Nat.le_of_ble_eq_true rfl), (Nat.le_of_ble_eq_true rfl)⟩ hP hD hS (va_free (wc := [(a0, .inr (13, [.ref a1, .ref z0, .ref z1, .ref z2, .ref z3, .ref z4, .int 45, .ref z5, .ref z6, .ref z7, .int 0, .ref z8, .ref z9, .int 0, .int 0, .int 0, .int 0, .ref z10, .int 0, .null, .ref z11, .ref z12]))]) hD hS hA [0] rfl) (fun _ h => h) [0] [0] [1] rfl rfl rfl rfl rfl (by decide) 0 (ci := 13) rfl rfl rfl (fun u_2 H locs hP hD hS => ?_)
  have hP : va_P D vwCl [(a1, .inl (y 0, 3, .inl (fun _ => 0))), (a0, .inr (13, [.ref a1, .ref z0, .ref z1, .ref z2, .ref z3, .ref z4, .int 45, .ref z5, .ref z6, .ref z7, .int 0, .ref z8, .ref z9, .int 0, .int 0, .int 1, .int 0, .ref z10, .int 0, .null, .ref z11, .ref z12]))] H := hP
  have hD : va_D A [(a1, .inl (y 0, 3, .inl (fun _ => 0))), (a0, .inr (13, [.ref a1, .ref z0, .ref z1, .ref z2, .ref z3, .ref z4, .int 45, .ref z5, .ref z6, .ref z7, .int 0, .ref z8, .ref z9, .int 0, .int 0, .int 1, .int 0, .ref z10, .int 0, .null, .ref z11, .ref z12]))] := hD
  refine W.widen (k := 0) (n := 0) (Nat.le_of_ble_eq_true rfl) (Nat.le_of_ble_eq_true rfl) ?_
  refine W.eq (g2 := F0 m 19 ls [.int 1]) rfl ?_
  refine lv_if_eq (tgt := 26) hx hb dX11_filled_19 (by decide) (fun c => absurd c (by decide)) (fun _ => ?_)
  refine lv_iconst (v := 0) hx hb dX11_filled_22 (by decide) ?_
  refine lv_goto (tgt := 35) hx hb dX11_filled_23 (by decide) ?_
  exact e_i hF hr (Nat.le_of_ble_eq_true rfl) (Nat.le_of_ble_eq_true rfl) hS (qg_end hS (fun _ => 0) rfl [1, 0] hP rfl (hD.sub [1, 0] rfl rfl)) dX11_filled_35

set_option maxHeartbeats 4000000 in
set_option maxRecDepth 100000 in
theorem c283_X10_lacks (l : Launch) (hlt : l.stackTraces = false) (a0 : Nat) (a1 : Nat) (a2 : Nat) (z0 : Nat) (z1 : Nat) (z2 : Nat) (z3 : Nat) (z4 : Nat) (z5 : Nat) (z6 : Nat) (z7 : Nat) (z8 : Nat) (z9 : Nat) (z10 : Nat) (z11 : Nat) (z12 : Nat) (z13 : Nat) (z14 : Nat) (z15 : Nat) (z16 : Nat) (z17 : Nat) (z18 : Nat) (p0 : Int32) : CX l (.code yX10_lacks cX10_lacks 2 (some .int)) yX10_lacks { frames := 7, cells := 1, slots := 6, locals := 111 } [.ref a0, .int p0] (fun y => [(a0, .inr (12, [.ref a1, .ref z0, .ref z1, .ref z2, .ref z3, .ref z4, .ref z5, .ref z6, .ref z7, .ref z8, .ref z9, .ref z10, .ref z11, .ref z12, .ref z13])), (a1, .inr (5, [.ref z14, .ref a2, .ref z15])), (a2, .inr (4, [.int 0, .ref z16, .ref z17, .ref z18]))]) (fun _ => []) "java/util/NoSuchElementException" := by
  refine mkX (by decide) (Nat.le_of_ble_eq_true rfl) ?_
  intro p e s m args below meth c D y A ls hF htb hAe hP hD hS hl
  have hF : FX p e s m args meth c cX10_lacks 2 RX10 "lacks" D y A := hF
  obtain ⟨⟨hx, hb, hml, hown, hts⟩, hev, heh, hA, hlk, hnm⟩ := id hF
  have hK := hev.1
  have hP : va_P D vwCl [(a0, .inr (12, [.ref a1, .ref z0, .ref z1, .ref z2, .ref z3, .ref z4, .ref z5, .ref z6, .ref z7, .ref z8, .ref z9, .ref z10, .ref z11, .ref z12, .ref z13])), (a1, .inr (5, [.ref z14, .ref a2, .ref z15])), (a2, .inr (4, [.int 0, .ref z16, .ref z17, .ref z18]))] s.heap := hP
  have hD : va_D (fun _ => True) [(a0, .inr (12, [.ref a1, .ref z0, .ref z1, .ref z2, .ref z3, .ref z4, .ref z5, .ref z6, .ref z7, .ref z8, .ref z9, .ref z10, .ref z11, .ref z12, .ref z13])), (a1, .inr (5, [.ref z14, .ref a2, .ref z15])), (a2, .inr (4, [.int 0, .ref z16, .ref z17, .ref z18]))] := hD
  have hl : lv_has ls 2 [(0, .ref a0), (1, .int p0)] := hl
  refine lv_aload_n hx hb dX10_lacks_0 rfl (lv_at hl 0 rfl) ?_
  refine lv_iload_n hx hb dX10_lacks_1 rfl (lv_at hl 1 rfl) ?_
  exact xV (l := l) (yM := yX10_needHouse) (C := RX10) (As := [.int p0]) (rest := []) hF htb (c82_X10_needHouse l hlt a0 a1 a2 z0 z1 z2 z3 z4 z5 z6 z7 z8 z9 z10 z11 z12 z13 z14 z15 z16 z17 z18 p0) gv_RX10_116 1 (by decide +kernel) rfl ⟨(Nat.le_of_ble_eq_true rfl), (Nat.le_of_ble_eq_true rfl)⟩ hl.1 rfl (Nat.le_of_ble_eq_true rfl) dX10_lacks_2 ⟨(Nat.le_of_ble_eq_true rfl), (Nat.le_of_ble_eq_true rfl)⟩ hP hD hS (pA hA hS) [0, 1, 2] rfl rfl 0 (ci := 12) rfl rfl rfl ⟨(Nat.le_of_ble_eq_true rfl), (Nat.le_of_ble_eq_true rfl)⟩

set_option maxHeartbeats 4000000 in
set_option maxRecDepth 100000 in
theorem c283_L_lacks (l : Launch) (hlt : l.stackTraces = false) (a0 : Nat) (a1 : Nat) (a2 : Nat) (z0 : Nat) (z1 : Nat) (z2 : Nat) (z3 : Nat) (z4 : Nat) (z5 : Nat) (z6 : Nat) (z7 : Nat) (z8 : Nat) (z9 : Nat) (z10 : Nat) (z11 : Nat) (z12 : Nat) (z13 : Nat) (z14 : Nat) (z15 : Nat) (z16 : Nat) (z17 : Nat) (z18 : Nat) (p0 : Int32) (z19 : Nat) : CT l (.codeWith yL_lacks cL_lacks 4 (some .int) [(0, 9, 12, 24)]) yL_lacks { frames := 8, cells := 1, slots := 6, locals := 132 } [.ref a0, .int p0, .ref z19] (fun y => [(a0, .inr (12, [.ref a1, .ref z0, .ref z1, .ref z2, .ref z3, .ref z4, .ref z5, .ref z6, .ref z7, .ref z8, .ref z9, .ref z10, .ref z11, .ref z12, .ref z13])), (a1, .inr (5, [.ref z14, .ref a2, .ref z15])), (a2, .inr (4, [.int 0, .ref z16, .ref z17, .ref z18]))]) (fun _ => []) (fun u => some (.int 1)) (fun y u => []) := by
  refine mkH (by decide) (Nat.le_of_ble_eq_true rfl) ?_
  intro p e s m args below meth c D y A ls hF htab hr hAe hP hD hS hl
  have hF : FX p e s m args meth c cL_lacks 4 RL "lacks" D y A := hF
  obtain ⟨⟨hx, hb, hml, hown, hts⟩, hev, heh, hA, hlk, hnm⟩ := id hF
  have hK := hev.1
  have hP : va_P D vwCl [(a0, .inr (12, [.ref a1, .ref z0, .ref z1, .ref z2, .ref z3, .ref z4, .ref z5, .ref z6, .ref z7, .ref z8, .ref z9, .ref z10, .ref z11, .ref z12, .ref z13])), (a1, .inr (5, [.ref z14, .ref a2, .ref z15])), (a2, .inr (4, [.int 0, .ref z16, .ref z17, .ref z18]))] s.heap := hP
  have hD : va_D (fun _ => True) [(a0, .inr (12, [.ref a1, .ref z0, .ref z1, .ref z2, .ref z3, .ref z4, .ref z5, .ref z6, .ref z7, .ref z8, .ref z9, .ref z10, .ref z11, .ref z12, .ref z13])), (a1, .inr (5, [.ref z14, .ref a2, .ref z15])), (a2, .inr (4, [.int 0, .ref z16, .ref z17, .ref z18]))] := hD
  have hl : lv_has ls 4 [(0, .ref a0), (1, .int p0), (2, .ref z19)] := hl
  refine lv_aload_n hx hb dL_lacks_0 rfl (lv_at hl 2 rfl) ?_
  refine lv_iconst (v := 0) hx hb dL_lacks_1 (by decide) ?_
  refine lv_aload_n hx hb dL_lacks_2 rfl (lv_at hl 0 rfl) ?_
  refine lv_iload_n hx hb dL_lacks_3 rfl (lv_at hl 1 rfl) ?_
  refine hV (wr := [(a0, .inr (12, [.ref a1, .ref z0, .ref z1, .ref z2, .ref z3, .ref z4, .ref z5, .ref z6, .ref z7, .ref z8, .ref z9, .ref z10, .ref z11, .ref z12, .ref z13])), (a1, .inr (5, [.ref z14, .ref a2, .ref z15])), (a2, .inr (4, [.int 0, .ref z16, .ref z17, .ref z18]))]) (name := "java/util/NoSuchElementException") (E0 := "java/util/NoSuchElementException") (l := l) (yM := yX10_lacks) (C := RX10) (As := [.int p0]) (rest := [.int 0, .ref z19]) hF (c283_X10_lacks l hlt a0 a1 a2 z0 z1 z2 z3 z4 z5 z6 z7 z8 z9 z10 z11 z12 z13 z14 z15 z16 z17 z18 p0) gv_RL_98 1 (by decide +kernel) rfl ⟨(Nat.le_of_ble_eq_true rfl), (Nat.le_of_ble_eq_true rfl)⟩ hl.1 rfl (Nat.le_of_ble_eq_true rfl) dL_lacks_4 ⟨(Nat.le_of_ble_eq_true rfl), (Nat.le_of_ble_eq_true rfl)⟩ hP hD hS (pA hA hS) (fun _ _ => trivial) [0, 1, 2] [] [0, 1, 2] rfl rfl rfl rfl rfl (by decide) 0 (ci := 12) rfl rfl rfl [] ⟨0, 9, 12, 24⟩ [] htab (fun z hz => nomatch hz) (by decide) (by decide) wd_261 (by decide) (fun q9 H locs hP hD hS => ?_)
  have hP : va_P D vwCl [(a0, .inr (12, [.ref a1, .ref z0, .ref z1, .ref z2, .ref z3, .ref z4, .ref z5, .ref z6, .ref z7, .ref z8, .ref z9, .ref z10, .ref z11, .ref z12, .ref z13])), (a1, .inr (5, [.ref z14, .ref a2, .ref z15])), (a2, .inr (4, [.int 0, .ref z16, .ref z17, .ref z18]))] H := hP
  have hD : va_D (fun _ => True) [(a0, .inr (12, [.ref a1, .ref z0, .ref z1, .ref z2, .ref z3, .ref z4, .ref z5, .ref z6, .ref z7, .ref z8, .ref z9, .ref z10, .ref z11, .ref z12, .ref z13])), (a1, .inr (5, [.ref z14, .ref a2, .ref z15])), (a2, .inr (4, [.int 0, .ref z16, .ref z17, .ref z18]))] := hD
  refine W.widen (k := 1) (n := 6) (Nat.le_of_ble_eq_true rfl) (Nat.le_of_ble_eq_true rfl) ?_
  refine W.eq (g2 := F0 m 12 ls [.ref q9]) rfl ?_
  refine lv_astore_n (lv' := [(3, .ref q9), (0, .ref a0), (1, .int p0), (2, .ref z19)]) hx hb dL_lacks_12 rfl hl (by decide) rfl (fun ls hl => ?_)
  refine lv_iconst (v := 1) hx hb dL_lacks_13 (by decide) ?_
  exact e_i hF hr (Nat.le_of_ble_eq_true rfl) (Nat.le_of_ble_eq_true rfl) hS (qg_end hS (fun _ => 0) rfl [] hP rfl d_nil) dL_lacks_14

set_option maxHeartbeats 4000000 in
set_option maxRecDepth 100000 in
theorem c285_X11_lacks (l : Launch) (a0 : Nat) (a1 : Nat) (z0 : Nat) (z1 : Nat) (z2 : Nat) (z3 : Nat) (z4 : Nat) (z5 : Nat) (z6 : Nat) (z7 : Nat) (z8 : Nat) (z9 : Nat) (z10 : Nat) (z11 : Nat) (z12 : Nat) (p0 : Int32) : CT l (.code yX11_lacks cX11_lacks 2 (some .int)) yX11_lacks { frames := 2, cells := 0, slots := 0, locals := 43 } [.ref a0, .int p0] (fun y => [(a0, .inr (13, [.ref a1, .ref z0, .ref z1, .ref z2, .ref z3, .ref z4, .int 45, .ref z5, .ref z6, .ref z7, .int 0, .ref z8, .ref z9, .int 0, .int 0, .int 0, .int 0, .ref z10, .int 0, .null, .ref z11, .ref z12])), (a1, .inl (y 0, 3, .inl (fun _ => 0)))]) (fun y => [(a0, .inr (13, [.ref a1, .ref z0, .ref z1, .ref z2, .ref z3, .ref z4, .int 45, .ref z5, .ref z6, .ref z7, .int 0, .ref z8, .ref z9, .int 0, .int 0, .int 0, .int 0, .ref z10, .int 0, .null, .ref z11, .ref z12])), (a1, .inl (y 0, 3, .inl (fun _ => 0)))]) (fun u => some (.int 0)) (fun y u => [(a0, .inr (13, [.ref a1, .ref z0, .ref z1, .ref z2, .ref z3, .ref z4, .int 45, .ref z5, .ref z6, .ref z7, .int 0, .ref z8, .ref z9, .int 0, .int 0, .int 1, .int 0, .ref z10, .int 0, .null, .ref z11, .ref z12])), (a1, .inl (y 0, 3, .inl (fun _ => 0)))]) := by
  refine mkM (by decide) (Nat.le_of_ble_eq_true rfl) ?_
  intro p e s m args below meth c D y A ls hF hr hAe hP hD hS hl
  have hF : FX p e s m args meth c cX11_lacks 2 RX11 "lacks" D y A := hF
  obtain ⟨⟨hx, hb, hml, hown, hts⟩, hev, heh, hA, hlk, hnm⟩ := id hF
  have hK := hev.1
  have hP : va_P D vwCl [(a0, .inr (13, [.ref a1, .ref z0, .ref z1, .ref z2, .ref z3, .ref z4, .int 45, .ref z5, .ref z6, .ref z7, .int 0, .ref z8, .ref z9, .int 0, .int 0, .int 0, .int 0, .ref z10, .int 0, .null, .ref z11, .ref z12])), (a1, .inl (y 0, 3, .inl (fun _ => 0)))] s.heap := hP
  have hD : va_D A [(a0, .inr (13, [.ref a1, .ref z0, .ref z1, .ref z2, .ref z3, .ref z4, .int 45, .ref z5, .ref z6, .ref z7, .int 0, .ref z8, .ref z9, .int 0, .int 0, .int 0, .int 0, .ref z10, .int 0, .null, .ref z11, .ref z12])), (a1, .inl (y 0, 3, .inl (fun _ => 0)))] := by rw [← hAe]; exact hD.self
  have hl : lv_has ls 2 [(0, .ref a0), (1, .int p0)] := hl
  refine lv_aload_n hx hb dX11_lacks_0 rfl (lv_at hl 0 rfl) ?_
  refine lv_aload_n hx hb dX11_lacks_1 rfl (lv_at hl 0 rfl) ?_
  refine lv_iload_n hx hb dX11_lacks_2 rfl (lv_at hl 1 rfl) ?_
  refine cV (l := l) (yM := yX11_isHouse) (C := RX11) (As := [.int p0]) (rest := [.ref a0]) (wr := [(a0, .inr (13, [.ref a1, .ref z0, .ref z1, .ref z2, .ref z3, .ref z4, .int 45, .ref z5, .ref z6, .ref z7, .int 0, .ref z8, .ref z9, .int 0, .int 0, .int 0, .int 0, .ref z10, .int 0, .null, .ref z11, .ref z12])), (a1, .inl (y 0, 3, .inl (fun _ => 0)))]) hF (c86_X11_isHouse l a0 a1 z0 z1 z2 z3 z4 z5 z6 z7 z8 z9 z10 z11 z12 p0) gv_RX11_135 1 (by decide +kernel) rfl ⟨(Nat.le_of_ble_eq_true rfl), (Nat.le_of_ble_eq_true rfl)⟩ hl.1 rfl (Nat.le_of_ble_eq_true rfl) dX11_lacks_3 ⟨(Nat.le_of_ble_eq_true rfl), (Nat.le_of_ble_eq_true rfl)⟩ hP hD hS (pA hA hS) (fun _ h => h) [0, 1] [] [0, 1] rfl rfl rfl rfl rfl (by decide) 0 (ci := 13) rfl rfl rfl (fun u_1 H locs hP hD hS => ?_)
  have hP : va_P D vwCl [(a0, .inr (13, [.ref a1, .ref z0, .ref z1, .ref z2, .ref z3, .ref z4, .int 45, .ref z5, .ref z6, .ref z7, .int 0, .ref z8, .ref z9, .int 0, .int 0, .int 0, .int 0, .ref z10, .int 0, .null, .ref z11, .ref z12])), (a1, .inl (y 0, 3, .inl (fun _ => 0)))] H := hP
  have hD : va_D A [(a0, .inr (13, [.ref a1, .ref z0, .ref z1, .ref z2, .ref z3, .ref z4, .int 45, .ref z5, .ref z6, .ref z7, .int 0, .ref z8, .ref z9, .int 0, .int 0, .int 0, .int 0, .ref z10, .int 0, .null, .ref z11, .ref z12])), (a1, .inl (y 0, 3, .inl (fun _ => 0)))] := hD
  refine W.widen (k := 0) (n := 0) (Nat.le_of_ble_eq_true rfl) (Nat.le_of_ble_eq_true rfl) ?_
  refine W.eq (g2 := F0 m 6 ls [.int 0, .ref a0]) rfl ?_
  refine lv_if_ne (tgt := 13) hx hb dX11_lacks_6 (by decide) (fun c => absurd (by decide) c) (fun _ => ?_)
  refine lv_iconst (v := 1) hx hb dX11_lacks_9 (by decide) ?_
  refine lv_goto (tgt := 14) hx hb dX11_lacks_10 (by decide) ?_
  refine lv_iconst (v := 0) hx hb dX11_lacks_14 (by decide) ?_
  refine lv_iconst (v := 0) hx hb dX11_lacks_15 (by decide) ?_
  refine cV (l := l) (yM := yX11_fails) (C := RX11) (As := [.int 1, .int 0, .int 0]) (rest := []) (wr := [(a1, .inl (y 0, 3, .inl (fun _ => 0)))]) hF (c67_X11_fails l a0 a1 z0 z1 z2 z3 z4 z5 z6 z7 z8 z9 z10 z11 z12) gv_RX11_128 3 (by decide +kernel) rfl ⟨(Nat.le_of_ble_eq_true rfl), (Nat.le_of_ble_eq_true rfl)⟩ hl.1 rfl (Nat.le_of_ble_eq_true rfl) dX11_lacks_16 ⟨(Nat.le_of_ble_eq_true rfl), (Nat.le_of_ble_eq_true rfl)⟩ hP hD hS (va_free (wc := [(a0, .inr (13, [.ref a1, .ref z0, .ref z1, .ref z2, .ref z3, .ref z4, .int 45, .ref z5, .ref z6, .ref z7, .int 0, .ref z8, .ref z9, .int 0, .int 0, .int 0, .int 0, .ref z10, .int 0, .null, .ref z11, .ref z12]))]) hD hS hA [0] rfl) (fun _ h => h) [0] [0] [1] rfl rfl rfl rfl rfl (by decide) 0 (ci := 13) rfl rfl rfl (fun u_2 H locs hP hD hS => ?_)
  have hP : va_P D vwCl [(a1, .inl (y 0, 3, .inl (fun _ => 0))), (a0, .inr (13, [.ref a1, .ref z0, .ref z1, .ref z2, .ref z3, .ref z4, .int 45, .ref z5, .ref z6, .ref z7, .int 0, .ref z8, .ref z9, .int 0, .int 0, .int 1, .int 0, .ref z10, .int 0, .null, .ref z11, .ref z12]))] H := hP
  have hD : va_D A [(a1, .inl (y 0, 3, .inl (fun _ => 0))), (a0, .inr (13, [.ref a1, .ref z0, .ref z1, .ref z2, .ref z3, .ref z4, .int 45, .ref z5, .ref z6, .ref z7, .int 0, .ref z8, .ref z9, .int 0, .int 0, .int 1, .int 0, .ref z10, .int 0, .null, .ref z11, .ref z12]))] := hD
  refine W.widen (k := 0) (n := 0) (Nat.le_of_ble_eq_true rfl) (Nat.le_of_ble_eq_true rfl) ?_
  refine W.eq (g2 := F0 m 19 ls [.int 1]) rfl ?_
  refine lv_if_eq (tgt := 26) hx hb dX11_lacks_19 (by decide) (fun c => absurd c (by decide)) (fun _ => ?_)
  refine lv_iconst (v := 0) hx hb dX11_lacks_22 (by decide) ?_
  refine lv_goto (tgt := 46) hx hb dX11_lacks_23 (by decide) ?_
  exact e_i hF hr (Nat.le_of_ble_eq_true rfl) (Nat.le_of_ble_eq_true rfl) hS (qg_end hS (fun _ => 0) rfl [1, 0] hP rfl (hD.sub [1, 0] rfl rfl)) dX11_lacks_46

set_option maxHeartbeats 4000000 in
set_option maxRecDepth 100000 in
theorem c286_X5_loadOf (l : Launch) (a0 : Nat) (a1 : Nat) (z0 : Nat) (p0 : Int32) : CT l (.code yX5_loadOf cX5_loadOf 2 (some .int)) yX5_loadOf { frames := 0, cells := 0, slots := 0, locals := 0 } [.ref a0, .int p0] (fun y => [(a0, .inr (7, [.ref z0, .ref a1])), (a1, .inl (y 0, 10, .inl (fun _ => 0)))]) (fun _ => []) (fun u => some (.int 0)) (fun y u => []) := by
  refine mkM (by decide) (Nat.le_of_ble_eq_true rfl) ?_
  intro p e s m args below meth c D y A ls hF hr hAe hP hD hS hl
  have hF : FX p e s m args meth c cX5_loadOf 2 RX5 "loadOf" D y A := hF
  obtain ⟨⟨hx, hb, hml, hown, hts⟩, hev, heh, hA, hlk, hnm⟩ := id hF
  have hK := hev.1
  have hP : va_P D vwCl [(a0, .inr (7, [.ref z0, .ref a1])), (a1, .inl (y 0, 10, .inl (fun _ => 0)))] s.heap := hP
  have hD : va_D (fun _ => True) [(a0, .inr (7, [.ref z0, .ref a1])), (a1, .inl (y 0, 10, .inl (fun _ => 0)))] := hD
  have hl : lv_has ls 2 [(0, .ref a0), (1, .int p0)] := hl
  refine lv_iload_n hx hb dX5_loadOf_0 rfl (lv_at hl 1 rfl) ?_
  refine lv_if_lt (tgt := 19) hx hb dX5_loadOf_1 (by decide) (fun c_1 => ?_) (fun c_1 => ?_)
  · refine lv_iconst (v := 0) hx hb dX5_loadOf_19 (by decide) ?_
    exact e_i hF hr (Nat.le_of_ble_eq_true rfl) (Nat.le_of_ble_eq_true rfl) hS (qg_end hS (fun _ => 0) rfl [] hP rfl d_nil) dX5_loadOf_20
  · refine lv_iload_n hx hb dX5_loadOf_4 rfl (lv_at hl 1 rfl) ?_
    refine lv_bipush (v := 10) hx hb dX5_loadOf_5 (by decide) ?_
    refine lv_icmp_ge (tgt := 19) hx hb dX5_loadOf_7 (by decide) (fun c_2 => ?_) (fun c_2 => ?_)
    · refine lv_iconst (v := 0) hx hb dX5_loadOf_19 (by decide) ?_
      exact e_i hF hr (Nat.le_of_ble_eq_true rfl) (Nat.le_of_ble_eq_true rfl) hS (qg_end hS (fun _ => 0) rfl [] hP rfl d_nil) dX5_loadOf_20
    · refine lv_aload_n hx hb dX5_loadOf_10 rfl (lv_at hl 0 rfl) ?_
      refine va_get (D := D) (ci := 7) (v := .ref a1) (C := RX5) (T := TX5) (N := 2) hx hb hts inX5 hown hK hP 0 rfl rfl 1 (by decide) (hts _ wd_43) (fun _ h9 => h9) rfl dX5_loadOf_11 ?_
      refine lv_iload_n hx hb dX5_loadOf_14 rfl (lv_at hl 1 rfl) ?_
      refine va_iald hx hb hK hP 1 0 rfl rfl (vin2 (n := 10) c_1 c_2 (by decide)) dX5_loadOf_15 ?_
      refine tp_i (v := 0) rfl ?_
      refine lv_goto (tgt := 20) hx hb dX5_loadOf_16 (by decide) ?_
      exact e_i hF hr (Nat.le_of_ble_eq_true rfl) (Nat.le_of_ble_eq_true rfl) hS (qg_end hS (fun _ => 0) rfl [] hP rfl d_nil) dX5_loadOf_20

set_option maxHeartbeats 4000000 in
set_option maxRecDepth 100000 in
theorem c287_X3_placesOf (l : Launch) (a0 : Nat) (a1 : Nat) (z0 : Nat) (z1 : Nat) (p0 : Int32) : CT l (.code yX3_placesOf cX3_placesOf 2 (some .int)) yX3_placesOf { frames := 0, cells := 0, slots := 0, locals := 0 } [.ref a0, .int p0] (fun y => [(a0, .inr (5, [.ref z0, .ref z1, .ref a1])), (a1, .inl (y 0, 10, .inl (fun _ => 1)))]) (fun _ => []) (fun u => some (.int 1)) (fun y u => []) := by
  refine mkM (by decide) (Nat.le_of_ble_eq_true rfl) ?_
  intro p e s m args below meth c D y A ls hF hr hAe hP hD hS hl
  have hF : FX p e s m args meth c cX3_placesOf 2 RX3 "placesOf" D y A := hF
  obtain ⟨⟨hx, hb, hml, hown, hts⟩, hev, heh, hA, hlk, hnm⟩ := id hF
  have hK := hev.1
  have hP : va_P D vwCl [(a0, .inr (5, [.ref z0, .ref z1, .ref a1])), (a1, .inl (y 0, 10, .inl (fun _ => 1)))] s.heap := hP
  have hD : va_D (fun _ => True) [(a0, .inr (5, [.ref z0, .ref z1, .ref a1])), (a1, .inl (y 0, 10, .inl (fun _ => 1)))] := hD
  have hl : lv_has ls 2 [(0, .ref a0), (1, .int p0)] := hl
  refine lv_iload_n hx hb dX3_placesOf_0 rfl (lv_at hl 1 rfl) ?_
  refine lv_if_lt (tgt := 19) hx hb dX3_placesOf_1 (by decide) (fun c_1 => ?_) (fun c_1 => ?_)
  · refine lv_iconst (v := 1) hx hb dX3_placesOf_19 (by decide) ?_
    exact e_i hF hr (Nat.le_of_ble_eq_true rfl) (Nat.le_of_ble_eq_true rfl) hS (qg_end hS (fun _ => 0) rfl [] hP rfl d_nil) dX3_placesOf_20
  · refine lv_iload_n hx hb dX3_placesOf_4 rfl (lv_at hl 1 rfl) ?_
    refine lv_bipush (v := 10) hx hb dX3_placesOf_5 (by decide) ?_
    refine lv_icmp_ge (tgt := 19) hx hb dX3_placesOf_7 (by decide) (fun c_2 => ?_) (fun c_2 => ?_)
    · refine lv_iconst (v := 1) hx hb dX3_placesOf_19 (by decide) ?_
      exact e_i hF hr (Nat.le_of_ble_eq_true rfl) (Nat.le_of_ble_eq_true rfl) hS (qg_end hS (fun _ => 0) rfl [] hP rfl d_nil) dX3_placesOf_20
    · refine lv_aload_n hx hb dX3_placesOf_10 rfl (lv_at hl 0 rfl) ?_
      refine va_get (D := D) (ci := 5) (v := .ref a1) (C := RX3) (T := TX3) (N := 3) hx hb hts inX3 hown hK hP 0 rfl rfl 2 (by decide) (hts _ wd_20) (fun _ h9 => h9) rfl dX3_placesOf_11 ?_
      refine lv_iload_n hx hb dX3_placesOf_14 rfl (lv_at hl 1 rfl) ?_
      refine va_iald hx hb hK hP 1 0 rfl rfl (vin2 (n := 10) c_1 c_2 (by decide)) dX3_placesOf_15 ?_
      refine tp_i (v := 1) rfl ?_
      refine lv_goto (tgt := 20) hx hb dX3_placesOf_16 (by decide) ?_
      exact e_i hF hr (Nat.le_of_ble_eq_true rfl) (Nat.le_of_ble_eq_true rfl) hS (qg_end hS (fun _ => 0) rfl [] hP rfl d_nil) dX3_placesOf_20

set_option maxHeartbeats 4000000 in
set_option maxRecDepth 100000 in
theorem c286_X5_barOf (l : Launch) (a0 : Nat) (a1 : Nat) (a2 : Nat) (a3 : Nat) (z0 : Nat) (z1 : Nat) (z2 : Nat) (p0 : Int32) : CT l (.code yX5_barOf cX5_barOf 5 (some .int)) yX5_barOf { frames := 1, cells := 0, slots := 0, locals := 21 } [.ref a2, .ref a0, .int p0] (fun y => [(a0, .inr (5, [.ref z0, .ref z1, .ref a1])), (a1, .inl (y 0, 10, .inl (fun _ => 1))), (a2, .inr (7, [.ref z2, .ref a3])), (a3, .inl (y 0, 10, .inl (fun _ => 0)))]) (fun _ => []) (fun u => some (.int 10)) (fun y u => []) := by
  refine mkM (by decide) (Nat.le_of_ble_eq_true rfl) ?_
  intro p e s m args below meth c D y A ls hF hr hAe hP hD hS hl
  have hF : FX p e s m args meth c cX5_barOf 5 RX5 "barOf" D y A := hF
  obtain ⟨⟨hx, hb, hml, hown, hts⟩, hev, heh, hA, hlk, hnm⟩ := id hF
  have hK := hev.1
  have hP : va_P D vwCl [(a0, .inr (5, [.ref z0, .ref z1, .ref a1])), (a1, .inl (y 0, 10, .inl (fun _ => 1))), (a2, .inr (7, [.ref z2, .ref a3])), (a3, .inl (y 0, 10, .inl (fun _ => 0)))] s.heap := hP
  have hD : va_D (fun _ => True) [(a0, .inr (5, [.ref z0, .ref z1, .ref a1])), (a1, .inl (y 0, 10, .inl (fun _ => 1))), (a2, .inr (7, [.ref z2, .ref a3])), (a3, .inl (y 0, 10, .inl (fun _ => 0)))] := hD
  have hl : lv_has ls 5 [(0, .ref a2), (1, .ref a0), (2, .int p0)] := hl
  refine lv_aload_n hx hb dX5_barOf_0 rfl (lv_at hl 0 rfl) ?_
  refine lv_iload_n hx hb dX5_barOf_1 rfl (lv_at hl 2 rfl) ?_
  refine cV (l := l) (yM := yX5_loadOf) (C := RX5) (As := [.int p0]) (rest := []) (wr := [(a0, .inr (5, [.ref z0, .ref z1, .ref a1])), (a1, .inl (y 0, 10, .inl (fun _ => 1))), (a2, .inr (7, [.ref z2, .ref a3])), (a3, .inl (y 0, 10, .inl (fun _ => 0)))]) hF (c286_X5_loadOf l a2 a3 z2 p0) gv_RX5_30 1 (by decide +kernel) rfl ⟨(Nat.le_of_ble_eq_true rfl), (Nat.le_of_ble_eq_true rfl)⟩ hl.1 rfl (Nat.le_of_ble_eq_true rfl) dX5_barOf_2 ⟨(Nat.le_of_ble_eq_true rfl), (Nat.le_of_ble_eq_true rfl)⟩ hP hD hS (pA hA hS) (fun _ _ => trivial) [2, 3] [] [0, 1, 2, 3] rfl rfl rfl rfl rfl (by decide) 2 (ci := 7) rfl rfl rfl (fun u_1 H locs hP hD hS => ?_)
  have hP : va_P D vwCl [(a0, .inr (5, [.ref z0, .ref z1, .ref a1])), (a1, .inl (y 0, 10, .inl (fun _ => 1))), (a2, .inr (7, [.ref z2, .ref a3])), (a3, .inl (y 0, 10, .inl (fun _ => 0)))] H := hP
  have hD : va_D (fun _ => True) [(a0, .inr (5, [.ref z0, .ref z1, .ref a1])), (a1, .inl (y 0, 10, .inl (fun _ => 1))), (a2, .inr (7, [.ref z2, .ref a3])), (a3, .inl (y 0, 10, .inl (fun _ => 0)))] := hD
  refine W.widen (k := 0) (n := 0) (Nat.le_of_ble_eq_true rfl) (Nat.le_of_ble_eq_true rfl) ?_
  refine W.eq (g2 := F0 m 5 ls [.int 0]) rfl ?_
  refine lv_aload_n hx hb dX5_barOf_5 rfl (lv_at hl 1 rfl) ?_
  refine lv_iload_n hx hb dX5_barOf_6 rfl (lv_at hl 2 rfl) ?_
  refine cV (l := l) (yM := yX3_placesOf) (C := RX3) (As := [.int p0]) (rest := [.int 0]) (wr := [(a0, .inr (5, [.ref z0, .ref z1, .ref a1])), (a1, .inl (y 0, 10, .inl (fun _ => 1))), (a2, .inr (7, [.ref z2, .ref a3])), (a3, .inl (y 0, 10, .inl (fun _ => 0)))]) hF (c287_X3_placesOf l a0 a1 z0 z1 p0) gv_RX5_34 1 (by decide +kernel) rfl ⟨(Nat.le_of_ble_eq_true rfl), (Nat.le_of_ble_eq_true rfl)⟩ hl.1 rfl (Nat.le_of_ble_eq_true rfl) dX5_barOf_7 ⟨(Nat.le_of_ble_eq_true rfl), (Nat.le_of_ble_eq_true rfl)⟩ hP hD hS (pA hA hS) (fun _ _ => trivial) [0, 1] [] [0, 1, 2, 3] rfl rfl rfl rfl rfl (by decide) 0 (ci := 5) rfl rfl rfl (fun u_2 H locs hP hD hS => ?_)
  have hP : va_P D vwCl [(a0, .inr (5, [.ref z0, .ref z1, .ref a1])), (a1, .inl (y 0, 10, .inl (fun _ => 1))), (a2, .inr (7, [.ref z2, .ref a3])), (a3, .inl (y 0, 10, .inl (fun _ => 0)))] H := hP
  have hD : va_D (fun _ => True) [(a0, .inr (5, [.ref z0, .ref z1, .ref a1])), (a1, .inl (y 0, 10, .inl (fun _ => 1))), (a2, .inr (7, [.ref z2, .ref a3])), (a3, .inl (y 0, 10, .inl (fun _ => 0)))] := hD
  refine W.widen (k := 0) (n := 0) (Nat.le_of_ble_eq_true rfl) (Nat.le_of_ble_eq_true rfl) ?_
  refine W.eq (g2 := F0 m 10 ls [.int 1, .int 0]) rfl ?_
  refine lv_icmp_ge (tgt := 16) hx hb dX5_barOf_10 (by decide) (fun c => absurd c (by decide)) (fun _ => ?_)
  refine lv_bipush (v := 10) hx hb dX5_barOf_13 (by decide) ?_
  exact e_i hF hr (Nat.le_of_ble_eq_true rfl) (Nat.le_of_ble_eq_true rfl) hS (qg_end hS (fun _ => 0) rfl [] hP rfl d_nil) dX5_barOf_15

