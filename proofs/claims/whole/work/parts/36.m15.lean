set_option maxHeartbeats 4000000 in
set_option maxRecDepth 100000 in
theorem c_M_drop (l : Launch) (D : va_G) (cI : ClassId) (cZ : ClassId) (g0 : Nat) (a1 : Nat) (a2 : Nat) (a3 : Nat) (a4 : Nat) (a5 : Nat) (a6 : Nat) (a7 : Nat) (a8 : Nat) (nu : lc_A) (sl : Nat → Nat) (co : lc_A) (nt : Nat → Bool) (ho : lc_A) (md : Nat) (ht : Nat) (fp : lc_A) (en : Nat) (wh : lc_A) (he : lc_A) (rn : Int32) (hht : ht ≤ 8) : zz_MI l y_M_drop b_M_drop 1 .int ({ frames := 0, cells := 0, slots := 0, locals := 0 } : Room) D [(cI, .int), (cZ, .boolean)] [.ref g0] [(g0, .inr (4, [.ref a1, .ref a2, .ref a3, .ref a4, .ref a5, .int (nI md), .int (nI ht), .ref a6, .int (nI en), .ref a7, .ref a8, .int rn])), (a1, .inl (cI, 48, .inl nu)), (a2, .inl (cI, 48, .inl (fun uu => nI (sl uu)))), (a3, .inl (cI, 48, .inl co)), (a4, .inl (cZ, 48, .inl (fun uu => lc_bI (nt uu)))), (a5, .inl (cI, 48, .inl ho)), (a6, .inl (cI, 8, .inl fp)), (a7, .inl (cI, 5, .inl wh)), (a8, .inl (cI, 20, .inl he))] ((lx_drop fp ht).1) [(g0, .inr (4, [.ref a1, .ref a2, .ref a3, .ref a4, .ref a5, .int (nI md), .int (nI ((lx_drop fp ht).2)), .ref a6, .int (nI en), .ref a7, .ref a8, .int rn])), (a1, .inl (cI, 48, .inl nu)), (a2, .inl (cI, 48, .inl (fun uu => nI (sl uu)))), (a3, .inl (cI, 48, .inl co)), (a4, .inl (cZ, 48, .inl (fun uu => lc_bI (nt uu)))), (a5, .inl (cI, 48, .inl ho)), (a6, .inl (cI, 8, .inl fp)), (a7, .inl (cI, 5, .inl wh)), (a8, .inl (cI, 20, .inl he))] := by
  refine zz_MI_of (by decide) (Nat.le_of_ble_eq_true rfl) (vp_nar_int _) ?_
  intro p e s m args below meth c A ls Q hx hb hml hown hts hK hP hD hS hA hl hret
  have hown : s.vm.findClass R_M = some m.cls := hown
  have hl : lv_has ls 1 [(0, .ref g0)] := hl
  refine lv_aload_n hx hb d_M_drop_0 rfl (lv_at hl 0 rfl) ?_
  refine va_get (D := D) (ci := 4) (v := .int (nI ht)) (C := R_M) (T := F_M) (N := 12) hx hb hts i_M hown hK hP 0 rfl rfl 6 (by decide) (hts _ kw_176) (fun _ h9 => h9) rfl d_M_drop_1 ?_
  refine zz_if_ne (tgt := 9) hx hb (by omega) d_M_drop_4 (by decide) (fun c4 => ?_) (fun c4 => ?_)
  · skip
    refine lv_aload_n hx hb d_M_drop_9 rfl (lv_at hl 0 rfl) ?_
    refine lv_dup hx hb d_M_drop_10 rfl ?_
    refine va_get (D := D) (ci := 4) (v := .int (nI ht)) (C := R_M) (T := F_M) (N := 12) hx hb hts i_M hown hK hP 0 rfl rfl 6 (by decide) (hts _ kw_176) (fun _ h9 => h9) rfl d_M_drop_11 ?_
    refine lv_iconst (v := nI 1) hx hb d_M_drop_14 (by decide +kernel) ?_
    refine zz_isub hx hb (by omega) d_M_drop_15 ?_
    refine va_put (D := D) (ci := 4) (v := .int (nI (ht - 1))) (ty := .int) (C := R_M) (T := F_M) (N := 12) hx hb hts i_M t_M t_M_ok n_M hown hK hP hD hS 0 rfl rfl 6 (by decide) (hts _ kw_176) (fun _ h9 => h9) rfl (by decide +kernel) rfl rfl (Nat.le_of_ble_eq_true rfl) d_M_drop_16 (fun H locs hP hD hS => ?_)
    have hP : va_P D classes [(g0, .inr (4, [.ref a1, .ref a2, .ref a3, .ref a4, .ref a5, .int (nI md), .int (nI (ht - 1)), .ref a6, .int (nI en), .ref a7, .ref a8, .int rn])), (a1, .inl (cI, 48, .inl nu)), (a2, .inl (cI, 48, .inl (fun uu => nI (sl uu)))), (a3, .inl (cI, 48, .inl co)), (a4, .inl (cZ, 48, .inl (fun uu => lc_bI (nt uu)))), (a5, .inl (cI, 48, .inl ho)), (a6, .inl (cI, 8, .inl fp)), (a7, .inl (cI, 5, .inl wh)), (a8, .inl (cI, 20, .inl he))] H := hP
    have hD : va_D A [(g0, .inr (4, [.ref a1, .ref a2, .ref a3, .ref a4, .ref a5, .int (nI md), .int (nI (ht - 1)), .ref a6, .int (nI en), .ref a7, .ref a8, .int rn])), (a1, .inl (cI, 48, .inl nu)), (a2, .inl (cI, 48, .inl (fun uu => nI (sl uu)))), (a3, .inl (cI, 48, .inl co)), (a4, .inl (cZ, 48, .inl (fun uu => lc_bI (nt uu)))), (a5, .inl (cI, 48, .inl ho)), (a6, .inl (cI, 8, .inl fp)), (a7, .inl (cI, 5, .inl wh)), (a8, .inl (cI, 20, .inl he))] := hD
    refine lv_aload_n hx hb d_M_drop_19 rfl (lv_at hl 0 rfl) ?_
    refine va_get (D := D) (ci := 4) (v := .ref a6) (C := R_M) (T := F_M) (N := 12) hx hb hts i_M hown hK hP 0 rfl rfl 7 (by decide) (hts _ kw_177) (fun _ h9 => h9) rfl d_M_drop_20 ?_
    refine lv_aload_n hx hb d_M_drop_23 rfl (lv_at hl 0 rfl) ?_
    refine va_get (D := D) (ci := 4) (v := .int (nI (ht - 1))) (C := R_M) (T := F_M) (N := 12) hx hb hts i_M hown hK hP 0 rfl rfl 6 (by decide) (hts _ kw_176) (fun _ h9 => h9) rfl d_M_drop_24 ?_
    refine zz_iald hx hb hK hP 6 0 (f := fp) rfl rfl (i := ht - 1) (by omega) (by omega) d_M_drop_27 ?_
    refine zz_top (z := (lx_drop fp ht).1) (by first | (simp only [lx_drop, if_pos c4]; done) | (simp only [lx_drop, if_neg (Nat.pos_iff_ne_zero.mp c4)]; done)) ?_
    have eW : ([(g0, .inr (4, [.ref a1, .ref a2, .ref a3, .ref a4, .ref a5, .int (nI md), .int (nI (ht - 1)), .ref a6, .int (nI en), .ref a7, .ref a8, .int rn])), (a1, .inl (cI, 48, .inl nu)), (a2, .inl (cI, 48, .inl (fun uu => nI (sl uu)))), (a3, .inl (cI, 48, .inl co)), (a4, .inl (cZ, 48, .inl (fun uu => lc_bI (nt uu)))), (a5, .inl (cI, 48, .inl ho)), (a6, .inl (cI, 8, .inl fp)), (a7, .inl (cI, 5, .inl wh)), (a8, .inl (cI, 20, .inl he))] : va_W) = [(g0, .inr (4, [.ref a1, .ref a2, .ref a3, .ref a4, .ref a5, .int (nI md), .int (nI ((lx_drop fp ht).2)), .ref a6, .int (nI en), .ref a7, .ref a8, .int rn])), (a1, .inl (cI, 48, .inl nu)), (a2, .inl (cI, 48, .inl (fun uu => nI (sl uu)))), (a3, .inl (cI, 48, .inl co)), (a4, .inl (cZ, 48, .inl (fun uu => lc_bI (nt uu)))), (a5, .inl (cI, 48, .inl ho)), (a6, .inl (cI, 8, .inl fp)), (a7, .inl (cI, 5, .inl wh)), (a8, .inl (cI, 20, .inl he))] := by first | (simp only [lx_drop, if_pos c4]; done) | (simp only [lx_drop, if_neg (Nat.pos_iff_ne_zero.mp c4)]; done)
    exact hret _ _ _ _ d_M_drop_28 (zz_toP eW hP) (zz_toD eW hD) hS
  · skip
    refine lv_iconst (v := (-1)) hx hb d_M_drop_7 (by decide +kernel) ?_
    refine zz_top (z := (lx_drop fp ht).1) (by first | (simp only [lx_drop, if_pos c4]; done) | (simp only [lx_drop, if_neg (Nat.pos_iff_ne_zero.mp c4)]; done)) ?_
    have eW : ([(g0, .inr (4, [.ref a1, .ref a2, .ref a3, .ref a4, .ref a5, .int (nI md), .int (nI ht), .ref a6, .int (nI en), .ref a7, .ref a8, .int rn])), (a1, .inl (cI, 48, .inl nu)), (a2, .inl (cI, 48, .inl (fun uu => nI (sl uu)))), (a3, .inl (cI, 48, .inl co)), (a4, .inl (cZ, 48, .inl (fun uu => lc_bI (nt uu)))), (a5, .inl (cI, 48, .inl ho)), (a6, .inl (cI, 8, .inl fp)), (a7, .inl (cI, 5, .inl wh)), (a8, .inl (cI, 20, .inl he))] : va_W) = [(g0, .inr (4, [.ref a1, .ref a2, .ref a3, .ref a4, .ref a5, .int (nI md), .int (nI ((lx_drop fp ht).2)), .ref a6, .int (nI en), .ref a7, .ref a8, .int rn])), (a1, .inl (cI, 48, .inl nu)), (a2, .inl (cI, 48, .inl (fun uu => nI (sl uu)))), (a3, .inl (cI, 48, .inl co)), (a4, .inl (cZ, 48, .inl (fun uu => lc_bI (nt uu)))), (a5, .inl (cI, 48, .inl ho)), (a6, .inl (cI, 8, .inl fp)), (a7, .inl (cI, 5, .inl wh)), (a8, .inl (cI, 20, .inl he))] := by first | (simp only [lx_drop, if_pos c4]; done) | (simp only [lx_drop, if_neg (Nat.pos_iff_ne_zero.mp c4)]; done)
    exact hret _ _ _ _ d_M_drop_8 (zz_toP eW hP) (zz_toD eW hD) hS
set_option maxHeartbeats 4000000 in
set_option maxRecDepth 100000 in
theorem c_M_stack (l : Launch) (D : va_G) (cI : ClassId) (cZ : ClassId) (g0 : Nat) (a1 : Nat) (a2 : Nat) (a3 : Nat) (a4 : Nat) (a5 : Nat) (a6 : Nat) (a7 : Nat) (a8 : Nat) (nu : lc_A) (sl : Nat → Nat) (co : lc_A) (nt : Nat → Bool) (ho : lc_A) (md : Nat) (ht : Nat) (fp : lc_A) (en : Nat) (wh : lc_A) (he : lc_A) (rn : Int32)  : zz_MI l y_M_stack b_M_stack 1 .int ({ frames := 0, cells := 0, slots := 0, locals := 0 } : Room) D [(cI, .int), (cZ, .boolean)] [.ref g0] [(g0, .inr (4, [.ref a1, .ref a2, .ref a3, .ref a4, .ref a5, .int (nI md), .int (nI ht), .ref a6, .int (nI en), .ref a7, .ref a8, .int rn])), (a1, .inl (cI, 48, .inl nu)), (a2, .inl (cI, 48, .inl (fun uu => nI (sl uu)))), (a3, .inl (cI, 48, .inl co)), (a4, .inl (cZ, 48, .inl (fun uu => lc_bI (nt uu)))), (a5, .inl (cI, 48, .inl ho)), (a6, .inl (cI, 8, .inl fp)), (a7, .inl (cI, 5, .inl wh)), (a8, .inl (cI, 20, .inl he))] (nI ht) [(g0, .inr (4, [.ref a1, .ref a2, .ref a3, .ref a4, .ref a5, .int (nI md), .int (nI ht), .ref a6, .int (nI en), .ref a7, .ref a8, .int rn])), (a1, .inl (cI, 48, .inl nu)), (a2, .inl (cI, 48, .inl (fun uu => nI (sl uu)))), (a3, .inl (cI, 48, .inl co)), (a4, .inl (cZ, 48, .inl (fun uu => lc_bI (nt uu)))), (a5, .inl (cI, 48, .inl ho)), (a6, .inl (cI, 8, .inl fp)), (a7, .inl (cI, 5, .inl wh)), (a8, .inl (cI, 20, .inl he))] := by
  refine zz_MI_of (by decide) (Nat.le_of_ble_eq_true rfl) (vp_nar_int _) ?_
  intro p e s m args below meth c A ls Q hx hb hml hown hts hK hP hD hS hA hl hret
  have hown : s.vm.findClass R_M = some m.cls := hown
  have hl : lv_has ls 1 [(0, .ref g0)] := hl
  refine lv_aload_n hx hb d_M_stack_0 rfl (lv_at hl 0 rfl) ?_
  refine va_get (D := D) (ci := 4) (v := .int (nI ht)) (C := R_M) (T := F_M) (N := 12) hx hb hts i_M hown hK hP 0 rfl rfl 6 (by decide) (hts _ kw_176) (fun _ h9 => h9) rfl d_M_stack_1 ?_
  exact hret _ _ _ _ d_M_stack_4 hP hD hS
set_option maxHeartbeats 4000000 in
set_option maxRecDepth 100000 in
theorem c_M_held (l : Launch) (D : va_G) (cI : ClassId) (cZ : ClassId) (g0 : Nat) (a1 : Nat) (a2 : Nat) (a3 : Nat) (a4 : Nat) (a5 : Nat) (a6 : Nat) (a7 : Nat) (a8 : Nat) (nu : lc_A) (sl : Nat → Nat) (co : lc_A) (nt : Nat → Bool) (ho : lc_A) (md : Nat) (ht : Nat) (fp : lc_A) (en : Nat) (wh : lc_A) (he : lc_A) (rn : Int32) (x : Int32) (hht : ht ≤ 8) : zz_MI l y_M_held b_M_held 2 .int ({ frames := 2, cells := 0, slots := 0, locals := 43 } : Room) D [(cI, .int), (cZ, .boolean)] [.ref g0, .int x] [(g0, .inr (4, [.ref a1, .ref a2, .ref a3, .ref a4, .ref a5, .int (nI md), .int (nI ht), .ref a6, .int (nI en), .ref a7, .ref a8, .int rn])), (a1, .inl (cI, 48, .inl nu)), (a2, .inl (cI, 48, .inl (fun uu => nI (sl uu)))), (a3, .inl (cI, 48, .inl co)), (a4, .inl (cZ, 48, .inl (fun uu => lc_bI (nt uu)))), (a5, .inl (cI, 48, .inl ho)), (a6, .inl (cI, 8, .inl fp)), (a7, .inl (cI, 5, .inl wh)), (a8, .inl (cI, 20, .inl he))] (ax_held fp ht x) [(g0, .inr (4, [.ref a1, .ref a2, .ref a3, .ref a4, .ref a5, .int (nI md), .int (nI ht), .ref a6, .int (nI en), .ref a7, .ref a8, .int rn])), (a1, .inl (cI, 48, .inl nu)), (a2, .inl (cI, 48, .inl (fun uu => nI (sl uu)))), (a3, .inl (cI, 48, .inl co)), (a4, .inl (cZ, 48, .inl (fun uu => lc_bI (nt uu)))), (a5, .inl (cI, 48, .inl ho)), (a6, .inl (cI, 8, .inl fp)), (a7, .inl (cI, 5, .inl wh)), (a8, .inl (cI, 20, .inl he))] := by
  refine zz_MI_of (by decide) (Nat.le_of_ble_eq_true rfl) (vp_nar_int _) ?_
  intro p e s m args below meth c A ls Q hx hb hml hown hts hK hP hD hS hA hl hret
  have hown : s.vm.findClass R_M = some m.cls := hown
  have hl : lv_has ls 2 [(0, .ref g0), (1, .int x)] := hl
  refine lv_aload_n hx hb d_M_held_0 rfl (lv_at hl 0 rfl) ?_
  refine lv_iload_n hx hb d_M_held_1 rfl (lv_at hl 1 rfl) ?_
  refine zz_callI (np := 1) hx hb hml hown hts hK hP hD hS hA (c_M_isPlace l D cI cZ g0 a1 a2 a3 a4 a5 a6 a7 a8 nu sl co nt ho md ht fp en wh he rn x (by omega)) (zz_gv kw_220 kw_221 kw_222 kw_184 kc_219) (by decide +kernel) rfl rfl ⟨Nat.le_of_ble_eq_true rfl, Nat.le_of_ble_eq_true rfl⟩ ⟨Nat.zero_le _, Nat.zero_le _⟩ [0, 1] rfl 0 4 rfl rfl rfl [0, 1, 2, 3, 4, 5, 6, 7, 8] [] [0, 1, 2, 3, 4, 5, 6, 7, 8] rfl (by decide) (wr := []) rfl (by decide) (by decide) (ws' := [(g0, .inr (4, [.ref a1, .ref a2, .ref a3, .ref a4, .ref a5, .int (nI md), .int (nI ht), .ref a6, .int (nI en), .ref a7, .ref a8, .int rn])), (a1, .inl (cI, 48, .inl nu)), (a2, .inl (cI, 48, .inl (fun uu => nI (sl uu)))), (a3, .inl (cI, 48, .inl co)), (a4, .inl (cZ, 48, .inl (fun uu => lc_bI (nt uu)))), (a5, .inl (cI, 48, .inl ho)), (a6, .inl (cI, 8, .inl fp)), (a7, .inl (cI, 5, .inl wh)), (a8, .inl (cI, 20, .inl he))]) rfl (by decide) rfl hl.1 rfl (Nat.le_of_ble_eq_true rfl) d_M_held_2 (fun H locs hP hD hS => ?_)
  refine zz_pl (x := x) (n := ht) (by omega) (fun h2 => ?_) (fun j2 hj2 ex2 h2 => ?_)
  · skip
    refine zz_if_eq (tgt := 17) hx hb (by omega) d_M_held_5 (by decide) (fun c5 => ?_) (fun c5 => ?_)
    · skip
      refine lv_iconst (v := (-1)) hx hb d_M_held_17 (by decide +kernel) ?_
      refine zz_top (z := ax_held fp ht x) (by simp only [ax_held, *]) ?_
      exact hret _ _ _ _ d_M_held_18 hP hD hS
    · skip
      exact absurd c5 (by omega)
  · skip
    subst ex2
    refine zz_if_eq (tgt := 17) hx hb (by omega) d_M_held_5 (by decide) (fun c5 => ?_) (fun c5 => ?_)
    · skip
      exact absurd c5 (by omega)
    · skip
      refine lv_aload_n hx hb d_M_held_8 rfl (lv_at hl 0 rfl) ?_
      refine va_get (D := D) (ci := 4) (v := .ref a6) (C := R_M) (T := F_M) (N := 12) hx hb hts i_M hown hK hP 0 rfl rfl 7 (by decide) (hts _ kw_177) (fun _ h9 => h9) rfl d_M_held_9 ?_
      refine lv_iload_n hx hb d_M_held_12 rfl (lv_at hl 1 rfl) ?_
      refine zz_iald hx hb hK hP 6 0 (f := fp) rfl rfl (i := j2) (by omega) (by omega) d_M_held_13 ?_
      refine lv_goto (tgt := 18) hx hb d_M_held_14 (by decide) ?_
      refine zz_top (z := ax_held fp ht (nI j2)) (by simp only [ax_held, *]) ?_
      exact hret _ _ _ _ d_M_held_18 hP hD hS
set_option maxHeartbeats 4000000 in
set_option maxRecDepth 100000 in
theorem c_M_count (l : Launch) (D : va_G) (cI : ClassId) (cZ : ClassId) (g0 : Nat) (a1 : Nat) (a2 : Nat) (a3 : Nat) (a4 : Nat) (a5 : Nat) (a6 : Nat) (a7 : Nat) (a8 : Nat) (nu : lc_A) (sl : Nat → Nat) (co : lc_A) (nt : Nat → Bool) (ho : lc_A) (md : Nat) (ht : Nat) (fp : lc_A) (en : Nat) (wh : lc_A) (he : lc_A) (rn : Int32) (x : Int32) (hs : ∀ i, i < 48 → i + sl i < 48) : zz_MI l y_M_count b_M_count 3 .int ({ frames := 1, cells := 0, slots := 0, locals := 23 } : Room) D [(cI, .int), (cZ, .boolean)] [.ref g0, .int x] [(g0, .inr (4, [.ref a1, .ref a2, .ref a3, .ref a4, .ref a5, .int (nI md), .int (nI ht), .ref a6, .int (nI en), .ref a7, .ref a8, .int rn])), (a1, .inl (cI, 48, .inl nu)), (a2, .inl (cI, 48, .inl (fun uu => nI (sl uu)))), (a3, .inl (cI, 48, .inl co)), (a4, .inl (cZ, 48, .inl (fun uu => lc_bI (nt uu)))), (a5, .inl (cI, 48, .inl ho)), (a6, .inl (cI, 8, .inl fp)), (a7, .inl (cI, 5, .inl wh)), (a8, .inl (cI, 20, .inl he))] (am_count nu sl co x) [(g0, .inr (4, [.ref a1, .ref a2, .ref a3, .ref a4, .ref a5, .int (nI md), .int (nI ht), .ref a6, .int (nI en), .ref a7, .ref a8, .int rn])), (a1, .inl (cI, 48, .inl nu)), (a2, .inl (cI, 48, .inl (fun uu => nI (sl uu)))), (a3, .inl (cI, 48, .inl co)), (a4, .inl (cZ, 48, .inl (fun uu => lc_bI (nt uu)))), (a5, .inl (cI, 48, .inl ho)), (a6, .inl (cI, 8, .inl fp)), (a7, .inl (cI, 5, .inl wh)), (a8, .inl (cI, 20, .inl he))] := by
  refine zz_MI_of (by decide) (Nat.le_of_ble_eq_true rfl) (vp_nar_int _) ?_
  intro p e s m args below meth c A ls Q hx hb hml hown hts hK hP hD hS hA hl hret
  have hown : s.vm.findClass R_M = some m.cls := hown
  have hl : lv_has ls 3 [(0, .ref g0), (1, .int x)] := hl
  refine lv_aload_n hx hb d_M_count_0 rfl (lv_at hl 0 rfl) ?_
  refine lv_iload_n hx hb d_M_count_1 rfl (lv_at hl 1 rfl) ?_
  refine zz_callI (np := 1) hx hb hml hown hts hK hP hD hS hA (c_M_find l D cI cZ g0 a1 a2 a3 a4 a5 a6 a7 a8 nu sl co nt ho md ht fp en wh he rn x hs) (zz_gv kw_224 kw_225 kw_226 kw_184 kc_223) (by decide +kernel) rfl rfl ⟨Nat.le_of_ble_eq_true rfl, Nat.le_of_ble_eq_true rfl⟩ ⟨Nat.zero_le _, Nat.zero_le _⟩ [0, 1] rfl 0 4 rfl rfl rfl [0, 1, 2, 3, 4, 5, 6, 7, 8] [] [0, 1, 2, 3, 4, 5, 6, 7, 8] rfl (by decide) (wr := []) rfl (by decide) (by decide) (ws' := [(g0, .inr (4, [.ref a1, .ref a2, .ref a3, .ref a4, .ref a5, .int (nI md), .int (nI ht), .ref a6, .int (nI en), .ref a7, .ref a8, .int rn])), (a1, .inl (cI, 48, .inl nu)), (a2, .inl (cI, 48, .inl (fun uu => nI (sl uu)))), (a3, .inl (cI, 48, .inl co)), (a4, .inl (cZ, 48, .inl (fun uu => lc_bI (nt uu)))), (a5, .inl (cI, 48, .inl ho)), (a6, .inl (cI, 8, .inl fp)), (a7, .inl (cI, 5, .inl wh)), (a8, .inl (cI, 20, .inl he))]) rfl (by decide) rfl hl.1 rfl (Nat.le_of_ble_eq_true rfl) d_M_count_2 (fun H locs hP hD hS => ?_)
  refine zz_oI (fun h2 => ?_) (fun a h2 => ?_)
  · skip
    refine lv_istore_n (lv' := [(2, .int (-1)), (0, .ref g0), (1, .int x)]) hx hb d_M_count_5 rfl hl (by decide) rfl (fun ls hl => ?_)
    refine lv_iload_n hx hb d_M_count_6 rfl (lv_at hl 0 rfl) ?_
    refine lv_if_ge (tgt := 15) hx hb d_M_count_7 (by decide) (fun c7 => ?_) (fun c7 => ?_)
    · skip
      exact absurd c7 (by decide)
    · skip
      refine lv_bipush (v := (-3)) hx hb d_M_count_10 (by decide +kernel) ?_
      refine lv_goto (tgt := 21) hx hb d_M_count_12 (by decide) ?_
      refine zz_top (z := am_count nu sl co x) (by simp only [am_count, *]) ?_
      exact hret _ _ _ _ d_M_count_21 hP hD hS
  · skip
    have ha := lm_find_lt h2
    have hsa := hs a ha.1
    refine lv_istore_n (lv' := [(2, .int (nI a)), (0, .ref g0), (1, .int x)]) hx hb d_M_count_5 rfl hl (by decide) rfl (fun ls hl => ?_)
    refine lv_iload_n hx hb d_M_count_6 rfl (lv_at hl 0 rfl) ?_
    refine lv_if_ge (tgt := 15) hx hb d_M_count_7 (by decide) (fun c7 => ?_) (fun c7 => ?_)
    · skip
      refine lv_aload_n hx hb d_M_count_15 rfl (lv_at hl 1 rfl) ?_
      refine va_get (D := D) (ci := 4) (v := .ref a3) (C := R_M) (T := F_M) (N := 12) hx hb hts i_M hown hK hP 0 rfl rfl 2 (by decide) (hts _ kw_178) (fun _ h9 => h9) rfl d_M_count_16 ?_
      refine lv_iload_n hx hb d_M_count_19 rfl (lv_at hl 0 rfl) ?_
      refine zz_iald hx hb hK hP 3 0 (f := co) rfl rfl (i := a) (by omega) (by omega) d_M_count_20 ?_
      refine zz_top (z := am_count nu sl co x) (by simp only [am_count, *]) ?_
      exact hret _ _ _ _ d_M_count_21 hP hD hS
    · skip
      exact absurd (nI_pos' (by omega)) c7
set_option maxHeartbeats 4000000 in
set_option maxRecDepth 100000 in
theorem c_M_cell (l : Launch) (D : va_G) (cI : ClassId) (cZ : ClassId) (g0 : Nat) (a1 : Nat) (a2 : Nat) (a3 : Nat) (a4 : Nat) (a5 : Nat) (a6 : Nat) (a7 : Nat) (a8 : Nat) (nu : lc_A) (sl : Nat → Nat) (co : lc_A) (nt : Nat → Bool) (ho : lc_A) (md : Nat) (ht : Nat) (fp : lc_A) (en : Nat) (wh : lc_A) (he : lc_A) (rn : Int32) (x : Int32) (hs : ∀ i, i < 48 → i + sl i < 48) : zz_MI l y_M_cell b_M_cell 3 .int ({ frames := 1, cells := 0, slots := 0, locals := 23 } : Room) D [(cI, .int), (cZ, .boolean)] [.ref g0, .int x] [(g0, .inr (4, [.ref a1, .ref a2, .ref a3, .ref a4, .ref a5, .int (nI md), .int (nI ht), .ref a6, .int (nI en), .ref a7, .ref a8, .int rn])), (a1, .inl (cI, 48, .inl nu)), (a2, .inl (cI, 48, .inl (fun uu => nI (sl uu)))), (a3, .inl (cI, 48, .inl co)), (a4, .inl (cZ, 48, .inl (fun uu => lc_bI (nt uu)))), (a5, .inl (cI, 48, .inl ho)), (a6, .inl (cI, 8, .inl fp)), (a7, .inl (cI, 5, .inl wh)), (a8, .inl (cI, 20, .inl he))] (am_cell nu sl x) [(g0, .inr (4, [.ref a1, .ref a2, .ref a3, .ref a4, .ref a5, .int (nI md), .int (nI ht), .ref a6, .int (nI en), .ref a7, .ref a8, .int rn])), (a1, .inl (cI, 48, .inl nu)), (a2, .inl (cI, 48, .inl (fun uu => nI (sl uu)))), (a3, .inl (cI, 48, .inl co)), (a4, .inl (cZ, 48, .inl (fun uu => lc_bI (nt uu)))), (a5, .inl (cI, 48, .inl ho)), (a6, .inl (cI, 8, .inl fp)), (a7, .inl (cI, 5, .inl wh)), (a8, .inl (cI, 20, .inl he))] := by
  refine zz_MI_of (by decide) (Nat.le_of_ble_eq_true rfl) (vp_nar_int _) ?_
  intro p e s m args below meth c A ls Q hx hb hml hown hts hK hP hD hS hA hl hret
  have hown : s.vm.findClass R_M = some m.cls := hown
  have hl : lv_has ls 3 [(0, .ref g0), (1, .int x)] := hl
  refine lv_aload_n hx hb d_M_cell_0 rfl (lv_at hl 0 rfl) ?_
  refine lv_iload_n hx hb d_M_cell_1 rfl (lv_at hl 1 rfl) ?_
  refine zz_callI (np := 1) hx hb hml hown hts hK hP hD hS hA (c_M_find l D cI cZ g0 a1 a2 a3 a4 a5 a6 a7 a8 nu sl co nt ho md ht fp en wh he rn x hs) (zz_gv kw_224 kw_225 kw_226 kw_184 kc_223) (by decide +kernel) rfl rfl ⟨Nat.le_of_ble_eq_true rfl, Nat.le_of_ble_eq_true rfl⟩ ⟨Nat.zero_le _, Nat.zero_le _⟩ [0, 1] rfl 0 4 rfl rfl rfl [0, 1, 2, 3, 4, 5, 6, 7, 8] [] [0, 1, 2, 3, 4, 5, 6, 7, 8] rfl (by decide) (wr := []) rfl (by decide) (by decide) (ws' := [(g0, .inr (4, [.ref a1, .ref a2, .ref a3, .ref a4, .ref a5, .int (nI md), .int (nI ht), .ref a6, .int (nI en), .ref a7, .ref a8, .int rn])), (a1, .inl (cI, 48, .inl nu)), (a2, .inl (cI, 48, .inl (fun uu => nI (sl uu)))), (a3, .inl (cI, 48, .inl co)), (a4, .inl (cZ, 48, .inl (fun uu => lc_bI (nt uu)))), (a5, .inl (cI, 48, .inl ho)), (a6, .inl (cI, 8, .inl fp)), (a7, .inl (cI, 5, .inl wh)), (a8, .inl (cI, 20, .inl he))]) rfl (by decide) rfl hl.1 rfl (Nat.le_of_ble_eq_true rfl) d_M_cell_2 (fun H locs hP hD hS => ?_)
  refine zz_oI (fun h2 => ?_) (fun a h2 => ?_)
  · skip
    refine lv_istore_n (lv' := [(2, .int (-1)), (0, .ref g0), (1, .int x)]) hx hb d_M_cell_5 rfl hl (by decide) rfl (fun ls hl => ?_)
    refine lv_iload_n hx hb d_M_cell_6 rfl (lv_at hl 0 rfl) ?_
    refine lv_if_ge (tgt := 15) hx hb d_M_cell_7 (by decide) (fun c7 => ?_) (fun c7 => ?_)
    · skip
      exact absurd c7 (by decide)
    · skip
      refine lv_bipush (v := (-3)) hx hb d_M_cell_10 (by decide +kernel) ?_
      refine lv_goto (tgt := 16) hx hb d_M_cell_12 (by decide) ?_
      refine zz_top (z := am_cell nu sl x) (by simp only [am_cell, *]) ?_
      exact hret _ _ _ _ d_M_cell_16 hP hD hS
  · skip
    have ha := lm_find_lt h2
    have hsa := hs a ha.1
    refine lv_istore_n (lv' := [(2, .int (nI a)), (0, .ref g0), (1, .int x)]) hx hb d_M_cell_5 rfl hl (by decide) rfl (fun ls hl => ?_)
    refine lv_iload_n hx hb d_M_cell_6 rfl (lv_at hl 0 rfl) ?_
    refine lv_if_ge (tgt := 15) hx hb d_M_cell_7 (by decide) (fun c7 => ?_) (fun c7 => ?_)
    · skip
      refine lv_iload_n hx hb d_M_cell_15 rfl (lv_at hl 0 rfl) ?_
      refine zz_top (z := am_cell nu sl x) (by simp only [am_cell, *]) ?_
      exact hret _ _ _ _ d_M_cell_16 hP hD hS
    · skip
      exact absurd (nI_pos' (by omega)) c7
