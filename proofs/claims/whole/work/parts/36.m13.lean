set_option maxHeartbeats 4000000 in
set_option maxRecDepth 100000 in
theorem c_M_note (l : Launch) (D : va_G) (cI : ClassId) (cZ : ClassId) (g0 : Nat) (a1 : Nat) (a2 : Nat) (a3 : Nat) (a4 : Nat) (a5 : Nat) (a6 : Nat) (a7 : Nat) (a8 : Nat) (nu : lc_A) (sl : Nat → Nat) (co : lc_A) (nt : Nat → Bool) (ho : lc_A) (md : Nat) (ht : Nat) (fp : lc_A) (en : Nat) (wh : lc_A) (he : lc_A) (rn : Int32) (a : Nat) (hs : ∀ i, i < 48 → i + sl i < 48) (ha : a < 48) (hen : en < 5) : zz_MV l y_M_note b_M_note 3 ({ frames := 0, cells := 0, slots := 0, locals := 0 } : Room) D [(cI, .int), (cZ, .boolean)] [.ref g0, .int (nI a)] [(g0, .inr (4, [.ref a1, .ref a2, .ref a3, .ref a4, .ref a5, .int (nI md), .int (nI ht), .ref a6, .int (nI en), .ref a7, .ref a8, .int rn])), (a1, .inl (cI, 48, .inl nu)), (a2, .inl (cI, 48, .inl (fun uu => nI (sl uu)))), (a3, .inl (cI, 48, .inl co)), (a4, .inl (cZ, 48, .inl (fun uu => lc_bI (nt uu)))), (a5, .inl (cI, 48, .inl ho)), (a6, .inl (cI, 8, .inl fp)), (a7, .inl (cI, 5, .inl wh)), (a8, .inl (cI, 20, .inl he))] [(g0, .inr (4, [.ref a1, .ref a2, .ref a3, .ref a4, .ref a5, .int (nI md), .int (nI ht), .ref a6, .int (nI (en + 1)), .ref a7, .ref a8, .int rn])), (a1, .inl (cI, 48, .inl nu)), (a2, .inl (cI, 48, .inl (fun uu => nI (sl uu)))), (a3, .inl (cI, 48, .inl co)), (a4, .inl (cZ, 48, .inl (fun uu => lc_bI ((va_up nt a true) uu)))), (a5, .inl (cI, 48, .inl ho)), (a6, .inl (cI, 8, .inl fp)), (a7, .inl (cI, 5, .inl (upd wh en (nu a)))), (a8, .inl (cI, 20, .inl (lm_nr sl ho a en he 4)))] := by
  refine zz_MV_of (by decide) (Nat.le_of_ble_eq_true rfl) ?_
  intro p e s m args below meth c A ls Q hx hb hml hown hts hK hP hD hS hA hl hret
  have hown : s.vm.findClass R_M = some m.cls := hown
  have hl : lv_has ls 3 [(0, .ref g0), (1, .int (nI a))] := hl
  have hsa := hs a ha
  refine lv_aload_n hx hb d_M_note_0 rfl (lv_at hl 0 rfl) ?_
  refine va_get (D := D) (ci := 4) (v := .ref a7) (C := R_M) (T := F_M) (N := 12) hx hb hts i_M hown hK hP 0 rfl rfl 9 (by decide) (hts _ kw_231) (fun _ h9 => h9) rfl d_M_note_1 ?_
  refine lv_aload_n hx hb d_M_note_4 rfl (lv_at hl 0 rfl) ?_
  refine va_get (D := D) (ci := 4) (v := .int (nI en)) (C := R_M) (T := F_M) (N := 12) hx hb hts i_M hown hK hP 0 rfl rfl 8 (by decide) (hts _ kw_190) (fun _ h9 => h9) rfl d_M_note_5 ?_
  refine lv_aload_n hx hb d_M_note_8 rfl (lv_at hl 0 rfl) ?_
  refine va_get (D := D) (ci := 4) (v := .ref a1) (C := R_M) (T := F_M) (N := 12) hx hb hts i_M hown hK hP 0 rfl rfl 0 (by decide) (hts _ kw_174) (fun _ h9 => h9) rfl d_M_note_9 ?_
  refine lv_iload_n hx hb d_M_note_12 rfl (lv_at hl 1 rfl) ?_
  refine zz_iald hx hb hK hP 1 0 (f := nu) rfl rfl (i := a) (by omega) (by omega) d_M_note_13 ?_
  refine zz_iast hx hb hK hP hD hS 7 0 (f := wh) rfl rfl (i := en) (by omega) (by omega) d_M_note_14 (g := upd wh en (nu a)) rfl (ws' := [(g0, .inr (4, [.ref a1, .ref a2, .ref a3, .ref a4, .ref a5, .int (nI md), .int (nI ht), .ref a6, .int (nI en), .ref a7, .ref a8, .int rn])), (a1, .inl (cI, 48, .inl nu)), (a2, .inl (cI, 48, .inl (fun uu => nI (sl uu)))), (a3, .inl (cI, 48, .inl co)), (a4, .inl (cZ, 48, .inl (fun uu => lc_bI (nt uu)))), (a5, .inl (cI, 48, .inl ho)), (a6, .inl (cI, 8, .inl fp)), (a7, .inl (cI, 5, .inl (upd wh en (nu a)))), (a8, .inl (cI, 20, .inl he))]) rfl (fun H locs hP hD hS => ?_)
  refine lv_iconst (v := nI 0) hx hb d_M_note_15 (by decide +kernel) ?_
  refine lv_istore_n (lv' := [(2, .int (nI 0)), (0, .ref g0), (1, .int (nI a))]) hx hb d_M_note_16 rfl hl (by decide) rfl (fun ls hl => ?_)
  have loop17 : ∀ (fu : Nat) (j : Nat), 48 - j < fu → (hj : j ≤ 4) → ∀ (H : Heap) (locs : List Loc), va_P D classes [(g0, .inr (4, [.ref a1, .ref a2, .ref a3, .ref a4, .ref a5, .int (nI md), .int (nI ht), .ref a6, .int (nI en), .ref a7, .ref a8, .int rn])), (a1, .inl (cI, 48, .inl nu)), (a2, .inl (cI, 48, .inl (fun uu => nI (sl uu)))), (a3, .inl (cI, 48, .inl co)), (a4, .inl (cZ, 48, .inl (fun uu => lc_bI (nt uu)))), (a5, .inl (cI, 48, .inl ho)), (a6, .inl (cI, 8, .inl fp)), (a7, .inl (cI, 5, .inl (upd wh en (nu a)))), (a8, .inl (cI, 20, .inl (lm_nr sl ho a en he j)))] H → va_D A [(g0, .inr (4, [.ref a1, .ref a2, .ref a3, .ref a4, .ref a5, .int (nI md), .int (nI ht), .ref a6, .int (nI en), .ref a7, .ref a8, .int rn])), (a1, .inl (cI, 48, .inl nu)), (a2, .inl (cI, 48, .inl (fun uu => nI (sl uu)))), (a3, .inl (cI, 48, .inl co)), (a4, .inl (cZ, 48, .inl (fun uu => lc_bI (nt uu)))), (a5, .inl (cI, 48, .inl ho)), (a6, .inl (cI, 8, .inl fp)), (a7, .inl (cI, 5, .inl (upd wh en (nu a)))), (a8, .inl (cI, 20, .inl (lm_nr sl ho a en he j)))] → va_S A s.heap H locs → ∀ (ls : Array Slot), lv_has ls 3 [(0, .ref g0), (1, .int (nI a)), (2, .int (nI j))] → W p l e ({ frames := 0, cells := 0, slots := 0, locals := 0 } : Room) s m args below meth c H locs 0 0 Q (F0 m 17 ls []) := by
    intro fu
    induction fu with
    | zero => intro j hf; omega
    | succ fu ih17 =>
      intro j hf hj H locs hP hD hS ls hl
      refine lv_iload_n hx hb d_M_note_17 rfl (lv_at hl 2 rfl) ?_
      refine lv_iconst (v := nI 4) hx hb d_M_note_18 (by decide +kernel) ?_
      refine zz_icmp_ge (tgt := 65) hx hb (by omega) (by omega) d_M_note_19 (by decide) (fun c19 => ?_) (fun c19 => ?_)
      · skip
        refine lv_aload_n hx hb d_M_note_65 rfl (lv_at hl 0 rfl) ?_
        refine lv_dup hx hb d_M_note_66 rfl ?_
        refine va_get (D := D) (ci := 4) (v := .int (nI en)) (C := R_M) (T := F_M) (N := 12) hx hb hts i_M hown hK hP 0 rfl rfl 8 (by decide) (hts _ kw_190) (fun _ h9 => h9) rfl d_M_note_67 ?_
        refine lv_iconst (v := nI 1) hx hb d_M_note_70 (by decide +kernel) ?_
        refine zz_iadd hx hb d_M_note_71 ?_
        refine va_put (D := D) (ci := 4) (v := .int (nI (en + 1))) (ty := .int) (C := R_M) (T := F_M) (N := 12) hx hb hts i_M t_M t_M_ok n_M hown hK hP hD hS 0 rfl rfl 8 (by decide) (hts _ kw_190) (fun _ h9 => h9) rfl (by decide +kernel) rfl rfl (Nat.le_of_ble_eq_true rfl) d_M_note_72 (fun H locs hP hD hS => ?_)
        have hP : va_P D classes [(g0, .inr (4, [.ref a1, .ref a2, .ref a3, .ref a4, .ref a5, .int (nI md), .int (nI ht), .ref a6, .int (nI (en + 1)), .ref a7, .ref a8, .int rn])), (a1, .inl (cI, 48, .inl nu)), (a2, .inl (cI, 48, .inl (fun uu => nI (sl uu)))), (a3, .inl (cI, 48, .inl co)), (a4, .inl (cZ, 48, .inl (fun uu => lc_bI (nt uu)))), (a5, .inl (cI, 48, .inl ho)), (a6, .inl (cI, 8, .inl fp)), (a7, .inl (cI, 5, .inl (upd wh en (nu a)))), (a8, .inl (cI, 20, .inl (lm_nr sl ho a en he j)))] H := hP
        have hD : va_D A [(g0, .inr (4, [.ref a1, .ref a2, .ref a3, .ref a4, .ref a5, .int (nI md), .int (nI ht), .ref a6, .int (nI (en + 1)), .ref a7, .ref a8, .int rn])), (a1, .inl (cI, 48, .inl nu)), (a2, .inl (cI, 48, .inl (fun uu => nI (sl uu)))), (a3, .inl (cI, 48, .inl co)), (a4, .inl (cZ, 48, .inl (fun uu => lc_bI (nt uu)))), (a5, .inl (cI, 48, .inl ho)), (a6, .inl (cI, 8, .inl fp)), (a7, .inl (cI, 5, .inl (upd wh en (nu a)))), (a8, .inl (cI, 20, .inl (lm_nr sl ho a en he j)))] := hD
        refine lv_aload_n hx hb d_M_note_75 rfl (lv_at hl 0 rfl) ?_
        refine va_get (D := D) (ci := 4) (v := .ref a4) (C := R_M) (T := F_M) (N := 12) hx hb hts i_M hown hK hP 0 rfl rfl 3 (by decide) (hts _ kw_179) (fun _ h9 => h9) rfl d_M_note_76 ?_
        refine lv_iload_n hx hb d_M_note_79 rfl (lv_at hl 1 rfl) ?_
        refine lv_iconst (v := nI 1) hx hb d_M_note_80 (by decide +kernel) ?_
        refine zz_zast hx hb hK hP hD hS 4 1 (f := (fun uu => lc_bI (nt uu))) rfl rfl (i := a) (by omega) (by omega) d_M_note_81 (by decide +kernel) (g := (fun uu => lc_bI ((va_up nt a true) uu))) (zz_upB nt a true) (ws' := [(g0, .inr (4, [.ref a1, .ref a2, .ref a3, .ref a4, .ref a5, .int (nI md), .int (nI ht), .ref a6, .int (nI (en + 1)), .ref a7, .ref a8, .int rn])), (a1, .inl (cI, 48, .inl nu)), (a2, .inl (cI, 48, .inl (fun uu => nI (sl uu)))), (a3, .inl (cI, 48, .inl co)), (a4, .inl (cZ, 48, .inl (fun uu => lc_bI ((va_up nt a true) uu)))), (a5, .inl (cI, 48, .inl ho)), (a6, .inl (cI, 8, .inl fp)), (a7, .inl (cI, 5, .inl (upd wh en (nu a)))), (a8, .inl (cI, 20, .inl (lm_nr sl ho a en he j)))]) rfl (fun H locs hP hD hS => ?_)
        have eW : ([(g0, .inr (4, [.ref a1, .ref a2, .ref a3, .ref a4, .ref a5, .int (nI md), .int (nI ht), .ref a6, .int (nI (en + 1)), .ref a7, .ref a8, .int rn])), (a1, .inl (cI, 48, .inl nu)), (a2, .inl (cI, 48, .inl (fun uu => nI (sl uu)))), (a3, .inl (cI, 48, .inl co)), (a4, .inl (cZ, 48, .inl (fun uu => lc_bI ((va_up nt a true) uu)))), (a5, .inl (cI, 48, .inl ho)), (a6, .inl (cI, 8, .inl fp)), (a7, .inl (cI, 5, .inl (upd wh en (nu a)))), (a8, .inl (cI, 20, .inl (lm_nr sl ho a en he j)))] : va_W) = [(g0, .inr (4, [.ref a1, .ref a2, .ref a3, .ref a4, .ref a5, .int (nI md), .int (nI ht), .ref a6, .int (nI (en + 1)), .ref a7, .ref a8, .int rn])), (a1, .inl (cI, 48, .inl nu)), (a2, .inl (cI, 48, .inl (fun uu => nI (sl uu)))), (a3, .inl (cI, 48, .inl co)), (a4, .inl (cZ, 48, .inl (fun uu => lc_bI ((va_up nt a true) uu)))), (a5, .inl (cI, 48, .inl ho)), (a6, .inl (cI, 8, .inl fp)), (a7, .inl (cI, 5, .inl (upd wh en (nu a)))), (a8, .inl (cI, 20, .inl (lm_nr sl ho a en he 4)))] := by rw [show j = 4 by omega]
        exact hret _ _ _ _ d_M_note_82 (zz_toP eW hP) (zz_toD eW hD) hS
      · skip
        refine lv_aload_n hx hb d_M_note_22 rfl (lv_at hl 0 rfl) ?_
        refine va_get (D := D) (ci := 4) (v := .ref a8) (C := R_M) (T := F_M) (N := 12) hx hb hts i_M hown hK hP 0 rfl rfl 10 (by decide) (hts _ kw_232) (fun _ h9 => h9) rfl d_M_note_23 ?_
        refine lv_iconst (v := nI 4) hx hb d_M_note_26 (by decide +kernel) ?_
        refine lv_aload_n hx hb d_M_note_27 rfl (lv_at hl 0 rfl) ?_
        refine va_get (D := D) (ci := 4) (v := .int (nI en)) (C := R_M) (T := F_M) (N := 12) hx hb hts i_M hown hK hP 0 rfl rfl 8 (by decide) (hts _ kw_190) (fun _ h9 => h9) rfl d_M_note_28 ?_
        refine zz_imul hx hb d_M_note_31 ?_
        refine lv_iload_n hx hb d_M_note_32 rfl (lv_at hl 2 rfl) ?_
        refine zz_iadd hx hb d_M_note_33 ?_
        refine lv_iload_n hx hb d_M_note_34 rfl (lv_at hl 2 rfl) ?_
        refine lv_aload_n hx hb d_M_note_35 rfl (lv_at hl 0 rfl) ?_
        refine va_get (D := D) (ci := 4) (v := .ref a2) (C := R_M) (T := F_M) (N := 12) hx hb hts i_M hown hK hP 0 rfl rfl 1 (by decide) (hts _ kw_173) (fun _ h9 => h9) rfl d_M_note_36 ?_
        refine lv_iload_n hx hb d_M_note_39 rfl (lv_at hl 1 rfl) ?_
        refine zz_iald hx hb hK hP 2 0 (f := (fun uu => nI (sl uu))) rfl rfl (i := a) (by omega) (by omega) d_M_note_40 ?_
        refine zz_top (z := nI (sl a)) rfl ?_
        refine zz_icmp_ge (tgt := 57) hx hb (by omega) (by omega) d_M_note_41 (by decide) (fun c41 => ?_) (fun c41 => ?_)
        · skip
          refine lv_iconst (v := nI 0) hx hb d_M_note_57 (by decide +kernel) ?_
          refine zz_iast hx hb hK hP hD hS 8 0 (f := lm_nr sl ho a en he j) rfl rfl (i := (4 * en) + j) (by omega) (by omega) d_M_note_58 (g := lm_nr sl ho a en he (j + 1)) (by first | (refine lm_nr_s ?_; rw [if_pos (by omega)]; done) | (refine lm_nr_s ?_; rw [if_neg (by omega), nI_0]; done)) (ws' := [(g0, .inr (4, [.ref a1, .ref a2, .ref a3, .ref a4, .ref a5, .int (nI md), .int (nI ht), .ref a6, .int (nI en), .ref a7, .ref a8, .int rn])), (a1, .inl (cI, 48, .inl nu)), (a2, .inl (cI, 48, .inl (fun uu => nI (sl uu)))), (a3, .inl (cI, 48, .inl co)), (a4, .inl (cZ, 48, .inl (fun uu => lc_bI (nt uu)))), (a5, .inl (cI, 48, .inl ho)), (a6, .inl (cI, 8, .inl fp)), (a7, .inl (cI, 5, .inl (upd wh en (nu a)))), (a8, .inl (cI, 20, .inl (lm_nr sl ho a en he (j + 1))))]) rfl (fun H locs hP hD hS => ?_)
          refine lv_iinc (v := nI (j + 1)) (lv' := [(2, .int (nI (j + 1))), (0, .ref g0), (1, .int (nI a))]) hx hb d_M_note_59 hl (k := 2) rfl (nI_1 _) (by decide) rfl (fun ls hl => ?_)
          refine lv_goto (tgt := 17) hx hb d_M_note_62 (by decide) ?_
          exact ih17 (j + 1) (by omega) (by omega) _ _ hP hD hS _ (lv_sub hl [1, 2, 0] rfl)
        · skip
          refine lv_aload_n hx hb d_M_note_44 rfl (lv_at hl 0 rfl) ?_
          refine va_get (D := D) (ci := 4) (v := .ref a5) (C := R_M) (T := F_M) (N := 12) hx hb hts i_M hown hK hP 0 rfl rfl 4 (by decide) (hts _ kw_175) (fun _ h9 => h9) rfl d_M_note_45 ?_
          refine lv_iload_n hx hb d_M_note_48 rfl (lv_at hl 1 rfl) ?_
          refine lv_iconst (v := nI 1) hx hb d_M_note_49 (by decide +kernel) ?_
          refine zz_iadd hx hb d_M_note_50 ?_
          refine lv_iload_n hx hb d_M_note_51 rfl (lv_at hl 2 rfl) ?_
          refine zz_iadd hx hb d_M_note_52 ?_
          refine zz_iald hx hb hK hP 5 0 (f := ho) rfl rfl (i := (a + 1) + j) (by omega) (by omega) d_M_note_53 ?_
          refine lv_goto (tgt := 58) hx hb d_M_note_54 (by decide) ?_
          refine zz_iast hx hb hK hP hD hS 8 0 (f := lm_nr sl ho a en he j) rfl rfl (i := (4 * en) + j) (by omega) (by omega) d_M_note_58 (g := lm_nr sl ho a en he (j + 1)) (by first | (refine lm_nr_s ?_; rw [if_pos (by omega)]; done) | (refine lm_nr_s ?_; rw [if_neg (by omega), nI_0]; done)) (ws' := [(g0, .inr (4, [.ref a1, .ref a2, .ref a3, .ref a4, .ref a5, .int (nI md), .int (nI ht), .ref a6, .int (nI en), .ref a7, .ref a8, .int rn])), (a1, .inl (cI, 48, .inl nu)), (a2, .inl (cI, 48, .inl (fun uu => nI (sl uu)))), (a3, .inl (cI, 48, .inl co)), (a4, .inl (cZ, 48, .inl (fun uu => lc_bI (nt uu)))), (a5, .inl (cI, 48, .inl ho)), (a6, .inl (cI, 8, .inl fp)), (a7, .inl (cI, 5, .inl (upd wh en (nu a)))), (a8, .inl (cI, 20, .inl (lm_nr sl ho a en he (j + 1))))]) rfl (fun H locs hP hD hS => ?_)
          refine lv_iinc (v := nI (j + 1)) (lv' := [(2, .int (nI (j + 1))), (0, .ref g0), (1, .int (nI a))]) hx hb d_M_note_59 hl (k := 2) rfl (nI_1 _) (by decide) rfl (fun ls hl => ?_)
          refine lv_goto (tgt := 17) hx hb d_M_note_62 (by decide) ?_
          exact ih17 (j + 1) (by omega) (by omega) _ _ hP hD hS _ (lv_sub hl [1, 2, 0] rfl)
  have eW1 : ([(g0, .inr (4, [.ref a1, .ref a2, .ref a3, .ref a4, .ref a5, .int (nI md), .int (nI ht), .ref a6, .int (nI en), .ref a7, .ref a8, .int rn])), (a1, .inl (cI, 48, .inl nu)), (a2, .inl (cI, 48, .inl (fun uu => nI (sl uu)))), (a3, .inl (cI, 48, .inl co)), (a4, .inl (cZ, 48, .inl (fun uu => lc_bI (nt uu)))), (a5, .inl (cI, 48, .inl ho)), (a6, .inl (cI, 8, .inl fp)), (a7, .inl (cI, 5, .inl (upd wh en (nu a)))), (a8, .inl (cI, 20, .inl he))] : va_W) = [(g0, .inr (4, [.ref a1, .ref a2, .ref a3, .ref a4, .ref a5, .int (nI md), .int (nI ht), .ref a6, .int (nI en), .ref a7, .ref a8, .int rn])), (a1, .inl (cI, 48, .inl nu)), (a2, .inl (cI, 48, .inl (fun uu => nI (sl uu)))), (a3, .inl (cI, 48, .inl co)), (a4, .inl (cZ, 48, .inl (fun uu => lc_bI (nt uu)))), (a5, .inl (cI, 48, .inl ho)), (a6, .inl (cI, 8, .inl fp)), (a7, .inl (cI, 5, .inl (upd wh en (nu a)))), (a8, .inl (cI, 20, .inl (lm_nr sl ho a en he 0)))] := by simp only [lm_nr_0]
  have hP := zz_toP eW1 hP
  have hD := zz_toD eW1 hD
  exact loop17 49 0 (by omega) (by omega) _ _ hP hD hS _ (lv_sub hl [1, 2, 0] rfl)
