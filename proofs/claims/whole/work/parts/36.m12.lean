set_option maxHeartbeats 4000000 in
set_option maxRecDepth 100000 in
theorem c_M_load (l : Launch) (D : va_G) (cI : ClassId) (cZ : ClassId) (g0 : Nat) (a1 : Nat) (a2 : Nat) (a3 : Nat) (a4 : Nat) (a5 : Nat) (a6 : Nat) (a7 : Nat) (a8 : Nat) (nu : lc_A) (sl : Nat → Nat) (co : lc_A) (nt : Nat → Bool) (ho : lc_A) (md : Nat) (ht : Nat) (fp : lc_A) (en : Nat) (wh : lc_A) (he : lc_A) (rn : Int32) (x : Int32) (z : Int32) (hs : ∀ i, i < 48 → i + sl i < 48) (hht : ht ≤ 8) : zz_MI l y_M_load b_M_load 4 .int ({ frames := 3, cells := 0, slots := 0, locals := 66 } : Room) D [(cI, .int), (cZ, .boolean)] [.ref g0, .int x, .int z] [(g0, .inr (4, [.ref a1, .ref a2, .ref a3, .ref a4, .ref a5, .int (nI md), .int (nI ht), .ref a6, .int (nI en), .ref a7, .ref a8, .int rn])), (a1, .inl (cI, 48, .inl nu)), (a2, .inl (cI, 48, .inl (fun uu => nI (sl uu)))), (a3, .inl (cI, 48, .inl co)), (a4, .inl (cZ, 48, .inl (fun uu => lc_bI (nt uu)))), (a5, .inl (cI, 48, .inl ho)), (a6, .inl (cI, 8, .inl fp)), (a7, .inl (cI, 5, .inl wh)), (a8, .inl (cI, 20, .inl he))] ((lm_load nu sl ho fp ht x z).1) [(g0, .inr (4, [.ref a1, .ref a2, .ref a3, .ref a4, .ref a5, .int (nI md), .int (nI ((lm_load nu sl ho fp ht x z).2.2)), .ref a6, .int (nI en), .ref a7, .ref a8, .int rn])), (a1, .inl (cI, 48, .inl nu)), (a2, .inl (cI, 48, .inl (fun uu => nI (sl uu)))), (a3, .inl (cI, 48, .inl co)), (a4, .inl (cZ, 48, .inl (fun uu => lc_bI (nt uu)))), (a5, .inl (cI, 48, .inl ho)), (a6, .inl (cI, 8, .inl ((lm_load nu sl ho fp ht x z).2.1))), (a7, .inl (cI, 5, .inl wh)), (a8, .inl (cI, 20, .inl he))] := by
  refine zz_MI_of (by decide) (Nat.le_of_ble_eq_true rfl) (vp_nar_int _) ?_
  intro p e s m args below meth c A ls Q hx hb hml hown hts hK hP hD hS hA hl hret
  have hown : s.vm.findClass R_M = some m.cls := hown
  have hl : lv_has ls 4 [(0, .ref g0), (1, .int x), (2, .int z)] := hl
  refine lv_aload_n hx hb d_M_load_0 rfl (lv_at hl 0 rfl) ?_
  refine lv_iload_n hx hb d_M_load_1 rfl (lv_at hl 1 rfl) ?_
  refine lv_iload_n hx hb d_M_load_2 rfl (lv_at hl 2 rfl) ?_
  refine zz_callI (np := 2) hx hb hml hown hts hK hP hD hS hA (c_M_slotCell l D cI cZ g0 a1 a2 a3 a4 a5 a6 a7 a8 nu sl co nt ho md ht fp en wh he rn x z hs hht) (zz_gv kw_228 kw_229 kw_230 kw_184 kc_227) (by decide +kernel) rfl rfl ⟨Nat.le_of_ble_eq_true rfl, Nat.le_of_ble_eq_true rfl⟩ ⟨Nat.zero_le _, Nat.zero_le _⟩ [0, 1] rfl 0 4 rfl rfl rfl [0, 1, 2, 3, 4, 5, 6, 7, 8] [] [0, 1, 2, 3, 4, 5, 6, 7, 8] rfl (by decide) (wr := []) rfl (by decide) (by decide) (ws' := [(g0, .inr (4, [.ref a1, .ref a2, .ref a3, .ref a4, .ref a5, .int (nI md), .int (nI ht), .ref a6, .int (nI en), .ref a7, .ref a8, .int rn])), (a1, .inl (cI, 48, .inl nu)), (a2, .inl (cI, 48, .inl (fun uu => nI (sl uu)))), (a3, .inl (cI, 48, .inl co)), (a4, .inl (cZ, 48, .inl (fun uu => lc_bI (nt uu)))), (a5, .inl (cI, 48, .inl ho)), (a6, .inl (cI, 8, .inl fp)), (a7, .inl (cI, 5, .inl wh)), (a8, .inl (cI, 20, .inl he))]) rfl (by decide) rfl hl.1 rfl (Nat.le_of_ble_eq_true rfl) d_M_load_3 (fun H locs hP hD hS => ?_)
  refine zz_sc (fun h3 => ?_) (fun a j h3 => ?_)
  · skip
    refine lv_istore_n (lv' := [(3, .int (-1)), (0, .ref g0), (1, .int x), (2, .int z)]) hx hb d_M_load_6 rfl hl (by decide) rfl (fun ls hl => ?_)
    refine lv_iload_n hx hb d_M_load_7 rfl (lv_at hl 0 rfl) ?_
    refine lv_if_ge (tgt := 13) hx hb d_M_load_8 (by decide) (fun c8 => ?_) (fun c8 => ?_)
    · skip
      exact absurd c8 (by decide)
    · skip
      refine lv_iconst (v := (-1)) hx hb d_M_load_11 (by decide +kernel) ?_
      refine zz_top (z := (lm_load nu sl ho fp ht x z).1) (by first | (simp only [lm_load, h3]; done) | (simp only [lm_load, h3, if_pos c19]; done) | (simp only [lm_load, h3, if_neg c19]; done)) ?_
      have eW : ([(g0, .inr (4, [.ref a1, .ref a2, .ref a3, .ref a4, .ref a5, .int (nI md), .int (nI ht), .ref a6, .int (nI en), .ref a7, .ref a8, .int rn])), (a1, .inl (cI, 48, .inl nu)), (a2, .inl (cI, 48, .inl (fun uu => nI (sl uu)))), (a3, .inl (cI, 48, .inl co)), (a4, .inl (cZ, 48, .inl (fun uu => lc_bI (nt uu)))), (a5, .inl (cI, 48, .inl ho)), (a6, .inl (cI, 8, .inl fp)), (a7, .inl (cI, 5, .inl wh)), (a8, .inl (cI, 20, .inl he))] : va_W) = [(g0, .inr (4, [.ref a1, .ref a2, .ref a3, .ref a4, .ref a5, .int (nI md), .int (nI ((lm_load nu sl ho fp ht x z).2.2)), .ref a6, .int (nI en), .ref a7, .ref a8, .int rn])), (a1, .inl (cI, 48, .inl nu)), (a2, .inl (cI, 48, .inl (fun uu => nI (sl uu)))), (a3, .inl (cI, 48, .inl co)), (a4, .inl (cZ, 48, .inl (fun uu => lc_bI (nt uu)))), (a5, .inl (cI, 48, .inl ho)), (a6, .inl (cI, 8, .inl ((lm_load nu sl ho fp ht x z).2.1))), (a7, .inl (cI, 5, .inl wh)), (a8, .inl (cI, 20, .inl he))] := by first | (simp only [lm_load, h3]; done) | (simp only [lm_load, h3, if_pos c19]; done) | (simp only [lm_load, h3, if_neg c19]; done)
      exact hret _ _ _ _ d_M_load_12 (zz_toP eW hP) (zz_toD eW hD) hS
  · skip
    obtain ⟨ha, hsa, hj, ez⟩ := lm_slotc_spec hs hht h3
    subst ez
    have hsi := hs a ha
    refine lv_istore_n (lv' := [(3, .int (nI (a + 1 + j))), (0, .ref g0), (1, .int x), (2, .int (nI j))]) hx hb d_M_load_6 rfl hl (by decide) rfl (fun ls hl => ?_)
    refine lv_iload_n hx hb d_M_load_7 rfl (lv_at hl 0 rfl) ?_
    refine lv_if_ge (tgt := 13) hx hb d_M_load_8 (by decide) (fun c8 => ?_) (fun c8 => ?_)
    · skip
      refine lv_aload_n hx hb d_M_load_13 rfl (lv_at hl 1 rfl) ?_
      refine va_get (D := D) (ci := 4) (v := .int (nI ht)) (C := R_M) (T := F_M) (N := 12) hx hb hts i_M hown hK hP 0 rfl rfl 6 (by decide) (hts _ kw_176) (fun _ h9 => h9) rfl d_M_load_14 ?_
      refine lv_bipush (v := nI 8) hx hb d_M_load_17 (by decide +kernel) ?_
      refine zz_icmp_ne (tgt := 25) hx hb (by omega) (by omega) d_M_load_19 (by decide) (fun c19 => ?_) (fun c19 => ?_)
      · skip
        refine lv_aload_n hx hb d_M_load_25 rfl (lv_at hl 1 rfl) ?_
        refine lv_aload_n hx hb d_M_load_26 rfl (lv_at hl 1 rfl) ?_
        refine va_get (D := D) (ci := 4) (v := .ref a5) (C := R_M) (T := F_M) (N := 12) hx hb hts i_M hown hK hP 0 rfl rfl 4 (by decide) (hts _ kw_175) (fun _ h9 => h9) rfl d_M_load_27 ?_
        refine lv_iload_n hx hb d_M_load_30 rfl (lv_at hl 0 rfl) ?_
        refine zz_iald hx hb hK hP 5 0 (f := ho) rfl rfl (i := a + 1 + j) (by omega) (by omega) d_M_load_31 ?_
        refine zz_callV (np := 1) hx hb hml hown hts hK hP hD hS hA (c_M_push l D cI cZ g0 a1 a2 a3 a4 a5 a6 a7 a8 nu sl co nt ho md ht fp en wh he rn (ho (a + 1 + j)) (by omega)) (zz_gv kw_216 kw_217 kw_218 kw_184 kc_215) (by decide +kernel) rfl rfl ⟨Nat.le_of_ble_eq_true rfl, Nat.le_of_ble_eq_true rfl⟩ ⟨Nat.zero_le _, Nat.zero_le _⟩ [0, 1] rfl 0 4 rfl rfl rfl [0, 1, 2, 3, 4, 5, 6, 7, 8] [] [0, 1, 2, 3, 4, 5, 6, 7, 8] rfl (by decide) (wr := []) rfl (by decide) (by decide) (ws' := [(g0, .inr (4, [.ref a1, .ref a2, .ref a3, .ref a4, .ref a5, .int (nI md), .int (nI (ht + 1)), .ref a6, .int (nI en), .ref a7, .ref a8, .int rn])), (a1, .inl (cI, 48, .inl nu)), (a2, .inl (cI, 48, .inl (fun uu => nI (sl uu)))), (a3, .inl (cI, 48, .inl co)), (a4, .inl (cZ, 48, .inl (fun uu => lc_bI (nt uu)))), (a5, .inl (cI, 48, .inl ho)), (a6, .inl (cI, 8, .inl (upd fp ht (ho (a + 1 + j))))), (a7, .inl (cI, 5, .inl wh)), (a8, .inl (cI, 20, .inl he))]) rfl (by decide) rfl hl.1 rfl (Nat.le_of_ble_eq_true rfl) d_M_load_32 (fun H locs hP hD hS => ?_)
        refine lv_aload_n hx hb d_M_load_35 rfl (lv_at hl 1 rfl) ?_
        refine va_get (D := D) (ci := 4) (v := .ref a5) (C := R_M) (T := F_M) (N := 12) hx hb hts i_M hown hK hP 0 rfl rfl 4 (by decide) (hts _ kw_175) (fun _ h9 => h9) rfl d_M_load_36 ?_
        refine lv_iload_n hx hb d_M_load_39 rfl (lv_at hl 0 rfl) ?_
        refine zz_iald hx hb hK hP 5 0 (f := ho) rfl rfl (i := a + 1 + j) (by omega) (by omega) d_M_load_40 ?_
        refine zz_top (z := (lm_load nu sl ho fp ht x (nI j)).1) (by first | (simp only [lm_load, h3]; done) | (simp only [lm_load, h3, if_pos c19]; done) | (simp only [lm_load, h3, if_neg c19]; done)) ?_
        have eW : ([(g0, .inr (4, [.ref a1, .ref a2, .ref a3, .ref a4, .ref a5, .int (nI md), .int (nI (ht + 1)), .ref a6, .int (nI en), .ref a7, .ref a8, .int rn])), (a1, .inl (cI, 48, .inl nu)), (a2, .inl (cI, 48, .inl (fun uu => nI (sl uu)))), (a3, .inl (cI, 48, .inl co)), (a4, .inl (cZ, 48, .inl (fun uu => lc_bI (nt uu)))), (a5, .inl (cI, 48, .inl ho)), (a6, .inl (cI, 8, .inl (upd fp ht (ho (a + 1 + j))))), (a7, .inl (cI, 5, .inl wh)), (a8, .inl (cI, 20, .inl he))] : va_W) = [(g0, .inr (4, [.ref a1, .ref a2, .ref a3, .ref a4, .ref a5, .int (nI md), .int (nI ((lm_load nu sl ho fp ht x (nI j)).2.2)), .ref a6, .int (nI en), .ref a7, .ref a8, .int rn])), (a1, .inl (cI, 48, .inl nu)), (a2, .inl (cI, 48, .inl (fun uu => nI (sl uu)))), (a3, .inl (cI, 48, .inl co)), (a4, .inl (cZ, 48, .inl (fun uu => lc_bI (nt uu)))), (a5, .inl (cI, 48, .inl ho)), (a6, .inl (cI, 8, .inl ((lm_load nu sl ho fp ht x (nI j)).2.1))), (a7, .inl (cI, 5, .inl wh)), (a8, .inl (cI, 20, .inl he))] := by first | (simp only [lm_load, h3]; done) | (simp only [lm_load, h3, if_pos c19]; done) | (simp only [lm_load, h3, if_neg c19]; done)
        exact hret _ _ _ _ d_M_load_41 (zz_toP eW hP) (zz_toD eW hD) hS
      · skip
        refine lv_bipush (v := (-2)) hx hb d_M_load_22 (by decide +kernel) ?_
        refine zz_top (z := (lm_load nu sl ho fp ht x (nI j)).1) (by first | (simp only [lm_load, h3]; done) | (simp only [lm_load, h3, if_pos c19]; done) | (simp only [lm_load, h3, if_neg c19]; done)) ?_
        have eW : ([(g0, .inr (4, [.ref a1, .ref a2, .ref a3, .ref a4, .ref a5, .int (nI md), .int (nI ht), .ref a6, .int (nI en), .ref a7, .ref a8, .int rn])), (a1, .inl (cI, 48, .inl nu)), (a2, .inl (cI, 48, .inl (fun uu => nI (sl uu)))), (a3, .inl (cI, 48, .inl co)), (a4, .inl (cZ, 48, .inl (fun uu => lc_bI (nt uu)))), (a5, .inl (cI, 48, .inl ho)), (a6, .inl (cI, 8, .inl fp)), (a7, .inl (cI, 5, .inl wh)), (a8, .inl (cI, 20, .inl he))] : va_W) = [(g0, .inr (4, [.ref a1, .ref a2, .ref a3, .ref a4, .ref a5, .int (nI md), .int (nI ((lm_load nu sl ho fp ht x (nI j)).2.2)), .ref a6, .int (nI en), .ref a7, .ref a8, .int rn])), (a1, .inl (cI, 48, .inl nu)), (a2, .inl (cI, 48, .inl (fun uu => nI (sl uu)))), (a3, .inl (cI, 48, .inl co)), (a4, .inl (cZ, 48, .inl (fun uu => lc_bI (nt uu)))), (a5, .inl (cI, 48, .inl ho)), (a6, .inl (cI, 8, .inl ((lm_load nu sl ho fp ht x (nI j)).2.1))), (a7, .inl (cI, 5, .inl wh)), (a8, .inl (cI, 20, .inl he))] := by first | (simp only [lm_load, h3]; done) | (simp only [lm_load, h3, if_pos c19]; done) | (simp only [lm_load, h3, if_neg c19]; done)
        exact hret _ _ _ _ d_M_load_24 (zz_toP eW hP) (zz_toD eW hD) hS
    · skip
      exact absurd (nI_pos' (by omega)) c8
set_option maxHeartbeats 4000000 in
set_option maxRecDepth 100000 in
theorem c_M_makeRoom_f (l : Launch) (D : va_G) (cI : ClassId) (cZ : ClassId) (g0 : Nat) (a1 : Nat) (a2 : Nat) (a3 : Nat) (a4 : Nat) (a5 : Nat) (a6 : Nat) (a7 : Nat) (a8 : Nat) (nu : lc_A) (sl : Nat → Nat) (co : lc_A) (nt : Nat → Bool) (ho : lc_A) (md : Nat) (ht : Nat) (fp : lc_A) (en : Nat) (wh : lc_A) (he : lc_A) (rn : Int32) (hs : ∀ i, i < 48 → i + sl i < 48) (hht : ht ≤ 8) (e5 : en = 5) : zz_MV l y_M_makeRoom b_M_makeRoom 1 ({ frames := 3, cells := 0, slots := 0, locals := 66 } : Room) D [(cI, .int), (cZ, .boolean)] [.ref g0] [(g0, .inr (4, [.ref a1, .ref a2, .ref a3, .ref a4, .ref a5, .int (nI md), .int (nI ht), .ref a6, .int (nI en), .ref a7, .ref a8, .int rn])), (a1, .inl (cI, 48, .inl nu)), (a2, .inl (cI, 48, .inl (fun uu => nI (sl uu)))), (a3, .inl (cI, 48, .inl co)), (a4, .inl (cZ, 48, .inl (fun uu => lc_bI (nt uu)))), (a5, .inl (cI, 48, .inl ho)), (a6, .inl (cI, 8, .inl fp)), (a7, .inl (cI, 5, .inl wh)), (a8, .inl (cI, 20, .inl he))] [(g0, .inr (4, [.ref a1, .ref a2, .ref a3, .ref a4, .ref a5, .int (nI md), .int (nI ht), .ref a6, .int (nI 0), .ref a7, .ref a8, .int (rn + nI 1)])), (a1, .inl (cI, 48, .inl nu)), (a2, .inl (cI, 48, .inl (fun uu => nI (((lm_st nu ho fp ht 50 sl co nt).1) uu)))), (a3, .inl (cI, 48, .inl ((lm_st nu ho fp ht 50 sl co nt).2.1))), (a4, .inl (cZ, 48, .inl (fun uu => lc_bI (((lm_st nu ho fp ht 50 sl co nt).2.2) uu)))), (a5, .inl (cI, 48, .inl ho)), (a6, .inl (cI, 8, .inl fp)), (a7, .inl (cI, 5, .inl wh)), (a8, .inl (cI, 20, .inl he))] := by
  refine zz_MV_of (by decide) (Nat.le_of_ble_eq_true rfl) ?_
  intro p e s m args below meth c A ls Q hx hb hml hown hts hK hP hD hS hA hl hret
  have hown : s.vm.findClass R_M = some m.cls := hown
  have hl : lv_has ls 1 [(0, .ref g0)] := hl
  refine lv_aload_n hx hb d_M_makeRoom_0 rfl (lv_at hl 0 rfl) ?_
  refine va_get (D := D) (ci := 4) (v := .int (nI en)) (C := R_M) (T := F_M) (N := 12) hx hb hts i_M hown hK hP 0 rfl rfl 8 (by decide) (hts _ kw_190) (fun _ h9 => h9) rfl d_M_makeRoom_1 ?_
  refine lv_iconst (v := nI 5) hx hb d_M_makeRoom_4 (by decide +kernel) ?_
  refine zz_icmp_ne (tgt := 12) hx hb (by omega) (by omega) d_M_makeRoom_5 (by decide) (fun c5 => ?_) (fun c5 => ?_)
  · skip
    exact absurd e5 c5
  · skip
    refine lv_aload_n hx hb d_M_makeRoom_8 rfl (lv_at hl 0 rfl) ?_
    refine zz_callV (np := 0) hx hb hml hown hts hK hP hD hS hA (c_M_settle l D cI cZ g0 a1 a2 a3 a4 a5 a6 a7 a8 nu sl co nt ho md ht fp en wh he rn hs hht) (zz_gv kw_204 kw_205 kw_206 kw_184 kc_203) (by decide +kernel) rfl rfl ⟨Nat.le_of_ble_eq_true rfl, Nat.le_of_ble_eq_true rfl⟩ ⟨Nat.zero_le _, Nat.zero_le _⟩ [0, 1] rfl 0 4 rfl rfl rfl [0, 1, 2, 3, 4, 5, 6, 7, 8] [] [0, 1, 2, 3, 4, 5, 6, 7, 8] rfl (by decide) (wr := []) rfl (by decide) (by decide) (ws' := [(g0, .inr (4, [.ref a1, .ref a2, .ref a3, .ref a4, .ref a5, .int (nI md), .int (nI ht), .ref a6, .int (nI 0), .ref a7, .ref a8, .int (rn + nI 1)])), (a1, .inl (cI, 48, .inl nu)), (a2, .inl (cI, 48, .inl (fun uu => nI (((lm_st nu ho fp ht 50 sl co nt).1) uu)))), (a3, .inl (cI, 48, .inl ((lm_st nu ho fp ht 50 sl co nt).2.1))), (a4, .inl (cZ, 48, .inl (fun uu => lc_bI (((lm_st nu ho fp ht 50 sl co nt).2.2) uu)))), (a5, .inl (cI, 48, .inl ho)), (a6, .inl (cI, 8, .inl fp)), (a7, .inl (cI, 5, .inl wh)), (a8, .inl (cI, 20, .inl he))]) rfl (by decide) rfl hl.1 rfl (Nat.le_of_ble_eq_true rfl) d_M_makeRoom_9 (fun H locs hP hD hS => ?_)
    exact hret _ _ _ _ d_M_makeRoom_12 hP hD hS
set_option maxHeartbeats 4000000 in
set_option maxRecDepth 100000 in
theorem c_M_makeRoom_n (l : Launch) (D : va_G) (cI : ClassId) (cZ : ClassId) (g0 : Nat) (a1 : Nat) (a2 : Nat) (a3 : Nat) (a4 : Nat) (a5 : Nat) (a6 : Nat) (a7 : Nat) (a8 : Nat) (nu : lc_A) (sl : Nat → Nat) (co : lc_A) (nt : Nat → Bool) (ho : lc_A) (md : Nat) (ht : Nat) (fp : lc_A) (en : Nat) (wh : lc_A) (he : lc_A) (rn : Int32) (e5 : en ≠ 5) (hen : en ≤ 5) : zz_MV l y_M_makeRoom b_M_makeRoom 1 ({ frames := 3, cells := 0, slots := 0, locals := 66 } : Room) D [(cI, .int), (cZ, .boolean)] [.ref g0] [(g0, .inr (4, [.ref a1, .ref a2, .ref a3, .ref a4, .ref a5, .int (nI md), .int (nI ht), .ref a6, .int (nI en), .ref a7, .ref a8, .int rn])), (a1, .inl (cI, 48, .inl nu)), (a2, .inl (cI, 48, .inl (fun uu => nI (sl uu)))), (a3, .inl (cI, 48, .inl co)), (a4, .inl (cZ, 48, .inl (fun uu => lc_bI (nt uu)))), (a5, .inl (cI, 48, .inl ho)), (a6, .inl (cI, 8, .inl fp)), (a7, .inl (cI, 5, .inl wh)), (a8, .inl (cI, 20, .inl he))] [(g0, .inr (4, [.ref a1, .ref a2, .ref a3, .ref a4, .ref a5, .int (nI md), .int (nI ht), .ref a6, .int (nI en), .ref a7, .ref a8, .int rn])), (a1, .inl (cI, 48, .inl nu)), (a2, .inl (cI, 48, .inl (fun uu => nI (sl uu)))), (a3, .inl (cI, 48, .inl co)), (a4, .inl (cZ, 48, .inl (fun uu => lc_bI (nt uu)))), (a5, .inl (cI, 48, .inl ho)), (a6, .inl (cI, 8, .inl fp)), (a7, .inl (cI, 5, .inl wh)), (a8, .inl (cI, 20, .inl he))] := by
  refine zz_MV_of (by decide) (Nat.le_of_ble_eq_true rfl) ?_
  intro p e s m args below meth c A ls Q hx hb hml hown hts hK hP hD hS hA hl hret
  have hown : s.vm.findClass R_M = some m.cls := hown
  have hl : lv_has ls 1 [(0, .ref g0)] := hl
  refine lv_aload_n hx hb d_M_makeRoom_0 rfl (lv_at hl 0 rfl) ?_
  refine va_get (D := D) (ci := 4) (v := .int (nI en)) (C := R_M) (T := F_M) (N := 12) hx hb hts i_M hown hK hP 0 rfl rfl 8 (by decide) (hts _ kw_190) (fun _ h9 => h9) rfl d_M_makeRoom_1 ?_
  refine lv_iconst (v := nI 5) hx hb d_M_makeRoom_4 (by decide +kernel) ?_
  refine zz_icmp_ne (tgt := 12) hx hb (by omega) (by omega) d_M_makeRoom_5 (by decide) (fun c5 => ?_) (fun c5 => ?_)
  · skip
    exact hret _ _ _ _ d_M_makeRoom_12 hP hD hS
  · skip
    exact absurd c5 e5
