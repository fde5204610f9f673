set_option maxHeartbeats 4000000 in
set_option maxRecDepth 100000 in
theorem c_M_round (l : Launch) (D : va_G) (cI : ClassId) (cZ : ClassId) (g0 : Nat) (a1 : Nat) (a2 : Nat) (a3 : Nat) (a4 : Nat) (a5 : Nat) (a6 : Nat) (a7 : Nat) (a8 : Nat) (nu : lc_A) (sl : Nat → Nat) (co : lc_A) (nt : Nat → Bool) (ho : lc_A) (md : Nat) (ht : Nat) (fp : lc_A) (en : Nat) (wh : lc_A) (he : lc_A) (rn : Int32) (hs : ∀ i, i < 48 → i + sl i < 48) (hht : ht ≤ 8) : zz_MI l y_M_round b_M_round 3 .int ({ frames := 1, cells := 0, slots := 0, locals := 23 } : Room) D [(cI, .int), (cZ, .boolean)] [.ref g0] [(g0, .inr (4, [.ref a1, .ref a2, .ref a3, .ref a4, .ref a5, .int (nI md), .int (nI ht), .ref a6, .int (nI en), .ref a7, .ref a8, .int rn])), (a1, .inl (cI, 48, .inl nu)), (a2, .inl (cI, 48, .inl (fun uu => nI (sl uu)))), (a3, .inl (cI, 48, .inl co)), (a4, .inl (cZ, 48, .inl (fun uu => lc_bI (nt uu)))), (a5, .inl (cI, 48, .inl ho)), (a6, .inl (cI, 8, .inl fp)), (a7, .inl (cI, 5, .inl wh)), (a8, .inl (cI, 20, .inl he))] (nI (lc_ct (lm_fr sl co nu fp ht) 48)) [(g0, .inr (4, [.ref a1, .ref a2, .ref a3, .ref a4, .ref a5, .int (nI md), .int (nI ht), .ref a6, .int (nI en), .ref a7, .ref a8, .int rn])), (a1, .inl (cI, 48, .inl nu)), (a2, .inl (cI, 48, .inl (fun uu => nI ((lm_cut (lm_fr sl co nu fp ht) sl 48) uu)))), (a3, .inl (cI, 48, .inl co)), (a4, .inl (cZ, 48, .inl (fun uu => lc_bI (nt uu)))), (a5, .inl (cI, 48, .inl ho)), (a6, .inl (cI, 8, .inl fp)), (a7, .inl (cI, 5, .inl wh)), (a8, .inl (cI, 20, .inl he))] := by
  refine zz_MI_of (by decide) (Nat.le_of_ble_eq_true rfl) (vp_nar_int _) ?_
  intro p e s m args below meth c A ls Q hx hb hml hown hts hK hP hD hS hA hl hret
  have hown : s.vm.findClass R_M = some m.cls := hown
  have hl : lv_has ls 3 [(0, .ref g0)] := hl
  refine lv_iconst (v := nI 0) hx hb d_M_round_0 (by decide +kernel) ?_
  refine lv_istore_n (lv' := [(1, .int (nI 0)), (0, .ref g0)]) hx hb d_M_round_1 rfl hl (by decide) rfl (fun ls hl => ?_)
  refine lv_iconst (v := nI 0) hx hb d_M_round_2 (by decide +kernel) ?_
  refine lv_istore_n (lv' := [(2, .int (nI 0)), (1, .int (nI 0)), (0, .ref g0)]) hx hb d_M_round_3 rfl hl (by decide) rfl (fun ls hl => ?_)
  have loop4 : ∀ (fu : Nat) (i : Nat), 48 - i < fu → (hi : i ≤ 48) → ∀ (H : Heap) (locs : List Loc), va_P D classes [(g0, .inr (4, [.ref a1, .ref a2, .ref a3, .ref a4, .ref a5, .int (nI md), .int (nI ht), .ref a6, .int (nI en), .ref a7, .ref a8, .int rn])), (a1, .inl (cI, 48, .inl nu)), (a2, .inl (cI, 48, .inl (fun uu => nI ((lm_cut (lm_fr sl co nu fp ht) sl i) uu)))), (a3, .inl (cI, 48, .inl co)), (a4, .inl (cZ, 48, .inl (fun uu => lc_bI (nt uu)))), (a5, .inl (cI, 48, .inl ho)), (a6, .inl (cI, 8, .inl fp)), (a7, .inl (cI, 5, .inl wh)), (a8, .inl (cI, 20, .inl he))] H → va_D A [(g0, .inr (4, [.ref a1, .ref a2, .ref a3, .ref a4, .ref a5, .int (nI md), .int (nI ht), .ref a6, .int (nI en), .ref a7, .ref a8, .int rn])), (a1, .inl (cI, 48, .inl nu)), (a2, .inl (cI, 48, .inl (fun uu => nI ((lm_cut (lm_fr sl co nu fp ht) sl i) uu)))), (a3, .inl (cI, 48, .inl co)), (a4, .inl (cZ, 48, .inl (fun uu => lc_bI (nt uu)))), (a5, .inl (cI, 48, .inl ho)), (a6, .inl (cI, 8, .inl fp)), (a7, .inl (cI, 5, .inl wh)), (a8, .inl (cI, 20, .inl he))] → va_S A s.heap H locs → ∀ (ls : Array Slot), lv_has ls 3 [(0, .ref g0), (1, .int (nI (lc_ct (lm_fr sl co nu fp ht) i))), (2, .int (nI i))] → W p l e ({ frames := 1, cells := 0, slots := 0, locals := 23 } : Room) s m args below meth c H locs 0 0 Q (F0 m 4 ls []) := by
    intro fu
    induction fu with
    | zero => intro i hf; omega
    | succ fu ih4 =>
      intro i hf hi H locs hP hD hS ls hl
      refine lv_iload_n hx hb d_M_round_4 rfl (lv_at hl 2 rfl) ?_
      refine lv_bipush (v := nI 48) hx hb d_M_round_5 (by decide +kernel) ?_
      refine zz_icmp_ge (tgt := 57) hx hb (by omega) (by omega) d_M_round_7 (by decide) (fun c7 => ?_) (fun c7 => ?_)
      · skip
        refine lv_iload_n hx hb d_M_round_57 rfl (lv_at hl 1 rfl) ?_
        refine zz_top (z := nI (lc_ct (lm_fr sl co nu fp ht) 48)) (by rw [show i = 48 by omega]) ?_
        have eW : ([(g0, .inr (4, [.ref a1, .ref a2, .ref a3, .ref a4, .ref a5, .int (nI md), .int (nI ht), .ref a6, .int (nI en), .ref a7, .ref a8, .int rn])), (a1, .inl (cI, 48, .inl nu)), (a2, .inl (cI, 48, .inl (fun uu => nI ((lm_cut (lm_fr sl co nu fp ht) sl i) uu)))), (a3, .inl (cI, 48, .inl co)), (a4, .inl (cZ, 48, .inl (fun uu => lc_bI (nt uu)))), (a5, .inl (cI, 48, .inl ho)), (a6, .inl (cI, 8, .inl fp)), (a7, .inl (cI, 5, .inl wh)), (a8, .inl (cI, 20, .inl he))] : va_W) = [(g0, .inr (4, [.ref a1, .ref a2, .ref a3, .ref a4, .ref a5, .int (nI md), .int (nI ht), .ref a6, .int (nI en), .ref a7, .ref a8, .int rn])), (a1, .inl (cI, 48, .inl nu)), (a2, .inl (cI, 48, .inl (fun uu => nI ((lm_cut (lm_fr sl co nu fp ht) sl 48) uu)))), (a3, .inl (cI, 48, .inl co)), (a4, .inl (cZ, 48, .inl (fun uu => lc_bI (nt uu)))), (a5, .inl (cI, 48, .inl ho)), (a6, .inl (cI, 8, .inl fp)), (a7, .inl (cI, 5, .inl wh)), (a8, .inl (cI, 20, .inl he))] := by rw [show i = 48 by omega]
        exact hret _ _ _ _ d_M_round_58 (zz_toP eW hP) (zz_toD eW hD) hS
      · skip
        refine lv_aload_n hx hb d_M_round_10 rfl (lv_at hl 0 rfl) ?_
        refine va_get (D := D) (ci := 4) (v := .ref a2) (C := R_M) (T := F_M) (N := 12) hx hb hts i_M hown hK hP 0 rfl rfl 1 (by decide) (hts _ kw_173) (fun _ h9 => h9) rfl d_M_round_11 ?_
        refine lv_iload_n hx hb d_M_round_14 rfl (lv_at hl 2 rfl) ?_
        refine zz_iald hx hb hK hP 2 0 (f := (fun uu => nI ((lm_cut (lm_fr sl co nu fp ht) sl i) uu))) rfl rfl (i := i) (by omega) (by omega) d_M_round_15 ?_
        refine zz_top (z := nI ((lm_cut (lm_fr sl co nu fp ht) sl i) i)) rfl ?_
        refine zz_top (z := nI (sl i)) (by rw [lm_cut_i]) ?_
        have hsi := hs i (by omega)
        refine zz_if_le (tgt := 51) hx hb (by omega) d_M_round_16 (by decide) (fun c16 => ?_) (fun c16 => ?_)
        · skip
          refine lv_iinc (v := nI (i + 1)) (lv' := [(2, .int (nI (i + 1))), (0, .ref g0), (1, .int (nI (lc_ct (lm_fr sl co nu fp ht) i)))]) hx hb d_M_round_51 hl (k := 2) rfl (nI_1 _) (by decide) rfl (fun ls hl => ?_)
          refine lv_goto (tgt := 4) hx hb d_M_round_54 (by decide) ?_
          have eL1 : lc_ct (lm_fr sl co nu fp ht) i = lc_ct (lm_fr sl co nu fp ht) (i + 1) := by first | rfl | simp [lc_ct, lm_fr, *]
          have eW2 : ([(g0, .inr (4, [.ref a1, .ref a2, .ref a3, .ref a4, .ref a5, .int (nI md), .int (nI ht), .ref a6, .int (nI en), .ref a7, .ref a8, .int rn])), (a1, .inl (cI, 48, .inl nu)), (a2, .inl (cI, 48, .inl (fun uu => nI ((lm_cut (lm_fr sl co nu fp ht) sl i) uu)))), (a3, .inl (cI, 48, .inl co)), (a4, .inl (cZ, 48, .inl (fun uu => lc_bI (nt uu)))), (a5, .inl (cI, 48, .inl ho)), (a6, .inl (cI, 8, .inl fp)), (a7, .inl (cI, 5, .inl wh)), (a8, .inl (cI, 20, .inl he))] : va_W) = [(g0, .inr (4, [.ref a1, .ref a2, .ref a3, .ref a4, .ref a5, .int (nI md), .int (nI ht), .ref a6, .int (nI en), .ref a7, .ref a8, .int rn])), (a1, .inl (cI, 48, .inl nu)), (a2, .inl (cI, 48, .inl (fun uu => nI ((lm_cut (lm_fr sl co nu fp ht) sl (i + 1)) uu)))), (a3, .inl (cI, 48, .inl co)), (a4, .inl (cZ, 48, .inl (fun uu => lc_bI (nt uu)))), (a5, .inl (cI, 48, .inl ho)), (a6, .inl (cI, 8, .inl fp)), (a7, .inl (cI, 5, .inl wh)), (a8, .inl (cI, 20, .inl he))] := by first | simp only [lm_cut_0] | rw [lm_cut_n (by simp [lm_fr, *])]
          have hP := zz_toP eW2 hP
          have hD := zz_toD eW2 hD
          exact ih4 (i + 1) (by omega) (by omega) _ _ hP hD hS _ (zz_hlc (lv_sub (l' := [(0, .ref g0), (1, .int (nI (lc_ct (lm_fr sl co nu fp ht) i))), (2, .int (nI (i + 1)))]) hl [1, 2, 0] rfl) (zz_c1 rfl (zz_c1 (congrArg (fun v => ((1 : Nat), Value.int (nI v))) eL1) (zz_c1 rfl rfl))))
        · skip
          refine lv_aload_n hx hb d_M_round_19 rfl (lv_at hl 0 rfl) ?_
          refine va_get (D := D) (ci := 4) (v := .ref a3) (C := R_M) (T := F_M) (N := 12) hx hb hts i_M hown hK hP 0 rfl rfl 2 (by decide) (hts _ kw_178) (fun _ h9 => h9) rfl d_M_round_20 ?_
          refine lv_iload_n hx hb d_M_round_23 rfl (lv_at hl 2 rfl) ?_
          refine zz_iald hx hb hK hP 3 0 (f := co) rfl rfl (i := i) (by omega) (by omega) d_M_round_24 ?_
          refine lv_if_ne (tgt := 51) hx hb d_M_round_25 (by decide) (fun c25 => ?_) (fun c25 => ?_)
          · skip
            refine lv_iinc (v := nI (i + 1)) (lv' := [(2, .int (nI (i + 1))), (0, .ref g0), (1, .int (nI (lc_ct (lm_fr sl co nu fp ht) i)))]) hx hb d_M_round_51 hl (k := 2) rfl (nI_1 _) (by decide) rfl (fun ls hl => ?_)
            refine lv_goto (tgt := 4) hx hb d_M_round_54 (by decide) ?_
            have eL3 : lc_ct (lm_fr sl co nu fp ht) i = lc_ct (lm_fr sl co nu fp ht) (i + 1) := by first | rfl | simp [lc_ct, lm_fr, *]
            have eW4 : ([(g0, .inr (4, [.ref a1, .ref a2, .ref a3, .ref a4, .ref a5, .int (nI md), .int (nI ht), .ref a6, .int (nI en), .ref a7, .ref a8, .int rn])), (a1, .inl (cI, 48, .inl nu)), (a2, .inl (cI, 48, .inl (fun uu => nI ((lm_cut (lm_fr sl co nu fp ht) sl i) uu)))), (a3, .inl (cI, 48, .inl co)), (a4, .inl (cZ, 48, .inl (fun uu => lc_bI (nt uu)))), (a5, .inl (cI, 48, .inl ho)), (a6, .inl (cI, 8, .inl fp)), (a7, .inl (cI, 5, .inl wh)), (a8, .inl (cI, 20, .inl he))] : va_W) = [(g0, .inr (4, [.ref a1, .ref a2, .ref a3, .ref a4, .ref a5, .int (nI md), .int (nI ht), .ref a6, .int (nI en), .ref a7, .ref a8, .int rn])), (a1, .inl (cI, 48, .inl nu)), (a2, .inl (cI, 48, .inl (fun uu => nI ((lm_cut (lm_fr sl co nu fp ht) sl (i + 1)) uu)))), (a3, .inl (cI, 48, .inl co)), (a4, .inl (cZ, 48, .inl (fun uu => lc_bI (nt uu)))), (a5, .inl (cI, 48, .inl ho)), (a6, .inl (cI, 8, .inl fp)), (a7, .inl (cI, 5, .inl wh)), (a8, .inl (cI, 20, .inl he))] := by first | simp only [lm_cut_0] | rw [lm_cut_n (by simp [lm_fr, *])]
            have hP := zz_toP eW4 hP
            have hD := zz_toD eW4 hD
            exact ih4 (i + 1) (by omega) (by omega) _ _ hP hD hS _ (zz_hlc (lv_sub (l' := [(0, .ref g0), (1, .int (nI (lc_ct (lm_fr sl co nu fp ht) i))), (2, .int (nI (i + 1)))]) hl [1, 2, 0] rfl) (zz_c1 rfl (zz_c1 (congrArg (fun v => ((1 : Nat), Value.int (nI v))) eL3) (zz_c1 rfl rfl))))
          · skip
            refine lv_aload_n hx hb d_M_round_28 rfl (lv_at hl 0 rfl) ?_
            refine lv_aload_n hx hb d_M_round_29 rfl (lv_at hl 0 rfl) ?_
            refine va_get (D := D) (ci := 4) (v := .ref a1) (C := R_M) (T := F_M) (N := 12) hx hb hts i_M hown hK hP 0 rfl rfl 0 (by decide) (hts _ kw_174) (fun _ h9 => h9) rfl d_M_round_30 ?_
            refine lv_iload_n hx hb d_M_round_33 rfl (lv_at hl 2 rfl) ?_
            refine zz_iald hx hb hK hP 1 0 (f := nu) rfl rfl (i := i) (by omega) (by omega) d_M_round_34 ?_
            refine zz_callI (np := 1) hx hb hml hown hts hK hP hD hS hA (c_M_onStack l D cI cZ g0 a1 a2 a3 a4 a5 a6 a7 a8 nu (lm_cut (lm_fr sl co nu fp ht) sl i) co nt ho md ht fp en wh he rn (nu i) (by omega)) (zz_gv kw_186 kw_187 kw_188 kw_184 kc_185) (by decide +kernel) rfl rfl ⟨Nat.le_of_ble_eq_true rfl, Nat.le_of_ble_eq_true rfl⟩ ⟨Nat.zero_le _, Nat.zero_le _⟩ [0, 1] rfl 0 4 rfl rfl rfl [0, 1, 2, 3, 4, 5, 6, 7, 8] [] [0, 1, 2, 3, 4, 5, 6, 7, 8] rfl (by decide) (wr := []) rfl (by decide) (by decide) (ws' := [(g0, .inr (4, [.ref a1, .ref a2, .ref a3, .ref a4, .ref a5, .int (nI md), .int (nI ht), .ref a6, .int (nI en), .ref a7, .ref a8, .int rn])), (a1, .inl (cI, 48, .inl nu)), (a2, .inl (cI, 48, .inl (fun uu => nI ((lm_cut (lm_fr sl co nu fp ht) sl i) uu)))), (a3, .inl (cI, 48, .inl co)), (a4, .inl (cZ, 48, .inl (fun uu => lc_bI (nt uu)))), (a5, .inl (cI, 48, .inl ho)), (a6, .inl (cI, 8, .inl fp)), (a7, .inl (cI, 5, .inl wh)), (a8, .inl (cI, 20, .inl he))]) rfl (by decide) rfl hl.1 rfl (Nat.le_of_ble_eq_true rfl) d_M_round_35 (fun H locs hP hD hS => ?_)
            refine zz_bI (fun h35 => ?_) (fun h35 => ?_)
            · skip
              refine zz_if_ne (tgt := 51) hx hb (by omega) d_M_round_38 (by decide) (fun c38 => ?_) (fun c38 => ?_)
              · skip
                refine lv_iinc (v := nI (i + 1)) (lv' := [(2, .int (nI (i + 1))), (0, .ref g0), (1, .int (nI (lc_ct (lm_fr sl co nu fp ht) i)))]) hx hb d_M_round_51 hl (k := 2) rfl (nI_1 _) (by decide) rfl (fun ls hl => ?_)
                refine lv_goto (tgt := 4) hx hb d_M_round_54 (by decide) ?_
                have eL5 : lc_ct (lm_fr sl co nu fp ht) i = lc_ct (lm_fr sl co nu fp ht) (i + 1) := by first | rfl | simp [lc_ct, lm_fr, *]
                have eW6 : ([(g0, .inr (4, [.ref a1, .ref a2, .ref a3, .ref a4, .ref a5, .int (nI md), .int (nI ht), .ref a6, .int (nI en), .ref a7, .ref a8, .int rn])), (a1, .inl (cI, 48, .inl nu)), (a2, .inl (cI, 48, .inl (fun uu => nI ((lm_cut (lm_fr sl co nu fp ht) sl i) uu)))), (a3, .inl (cI, 48, .inl co)), (a4, .inl (cZ, 48, .inl (fun uu => lc_bI (nt uu)))), (a5, .inl (cI, 48, .inl ho)), (a6, .inl (cI, 8, .inl fp)), (a7, .inl (cI, 5, .inl wh)), (a8, .inl (cI, 20, .inl he))] : va_W) = [(g0, .inr (4, [.ref a1, .ref a2, .ref a3, .ref a4, .ref a5, .int (nI md), .int (nI ht), .ref a6, .int (nI en), .ref a7, .ref a8, .int rn])), (a1, .inl (cI, 48, .inl nu)), (a2, .inl (cI, 48, .inl (fun uu => nI ((lm_cut (lm_fr sl co nu fp ht) sl (i + 1)) uu)))), (a3, .inl (cI, 48, .inl co)), (a4, .inl (cZ, 48, .inl (fun uu => lc_bI (nt uu)))), (a5, .inl (cI, 48, .inl ho)), (a6, .inl (cI, 8, .inl fp)), (a7, .inl (cI, 5, .inl wh)), (a8, .inl (cI, 20, .inl he))] := by first | simp only [lm_cut_0] | rw [lm_cut_n (by simp [lm_fr, *])]
                have hP := zz_toP eW6 hP
                have hD := zz_toD eW6 hD
                exact ih4 (i + 1) (by omega) (by omega) _ _ hP hD hS _ (zz_hlc (lv_sub (l' := [(0, .ref g0), (1, .int (nI (lc_ct (lm_fr sl co nu fp ht) i))), (2, .int (nI (i + 1)))]) hl [1, 2, 0] rfl) (zz_c1 rfl (zz_c1 (congrArg (fun v => ((1 : Nat), Value.int (nI v))) eL5) (zz_c1 rfl rfl))))
              · skip
                exact absurd c38 (by omega)
            · skip
              refine zz_if_ne (tgt := 51) hx hb (by omega) d_M_round_38 (by decide) (fun c38 => ?_) (fun c38 => ?_)
              · skip
                exact absurd c38 (by omega)
              · skip
                refine lv_aload_n hx hb d_M_round_41 rfl (lv_at hl 0 rfl) ?_
                refine va_get (D := D) (ci := 4) (v := .ref a2) (C := R_M) (T := F_M) (N := 12) hx hb hts i_M hown hK hP 0 rfl rfl 1 (by decide) (hts _ kw_173) (fun _ h9 => h9) rfl d_M_round_42 ?_
                refine lv_iload_n hx hb d_M_round_45 rfl (lv_at hl 2 rfl) ?_
                refine lv_iconst (v := nI 0) hx hb d_M_round_46 (by decide +kernel) ?_
                refine zz_iast hx hb hK hP hD hS 2 0 (f := (fun uu => nI ((lm_cut (lm_fr sl co nu fp ht) sl i) uu))) rfl rfl (i := i) (by omega) (by omega) d_M_round_47 (g := (fun uu => nI ((lm_cut (lm_fr sl co nu fp ht) sl (i + 1)) uu))) (lm_cut_s (by simp [lm_fr, *])) (ws' := [(g0, .inr (4, [.ref a1, .ref a2, .ref a3, .ref a4, .ref a5, .int (nI md), .int (nI ht), .ref a6, .int (nI en), .ref a7, .ref a8, .int rn])), (a1, .inl (cI, 48, .inl nu)), (a2, .inl (cI, 48, .inl (fun uu => nI ((lm_cut (lm_fr sl co nu fp ht) sl (i + 1)) uu)))), (a3, .inl (cI, 48, .inl co)), (a4, .inl (cZ, 48, .inl (fun uu => lc_bI (nt uu)))), (a5, .inl (cI, 48, .inl ho)), (a6, .inl (cI, 8, .inl fp)), (a7, .inl (cI, 5, .inl wh)), (a8, .inl (cI, 20, .inl he))]) rfl (fun H locs hP hD hS => ?_)
                refine lv_iinc (v := nI ((lc_ct (lm_fr sl co nu fp ht) i) + 1)) (lv' := [(1, .int (nI ((lc_ct (lm_fr sl co nu fp ht) i) + 1))), (0, .ref g0), (2, .int (nI i))]) hx hb d_M_round_48 hl (k := 1) rfl (nI_1 _) (by decide) rfl (fun ls hl => ?_)
                refine lv_iinc (v := nI (i + 1)) (lv' := [(2, .int (nI (i + 1))), (1, .int (nI ((lc_ct (lm_fr sl co nu fp ht) i) + 1))), (0, .ref g0)]) hx hb d_M_round_51 hl (k := 2) rfl (nI_1 _) (by decide) rfl (fun ls hl => ?_)
                refine lv_goto (tgt := 4) hx hb d_M_round_54 (by decide) ?_
                have eL7 : (lc_ct (lm_fr sl co nu fp ht) i) + 1 = lc_ct (lm_fr sl co nu fp ht) (i + 1) := by first | rfl | simp [lc_ct, lm_fr, *]
                exact ih4 (i + 1) (by omega) (by omega) _ _ hP hD hS _ (zz_hlc (lv_sub (l' := [(0, .ref g0), (1, .int (nI ((lc_ct (lm_fr sl co nu fp ht) i) + 1))), (2, .int (nI (i + 1)))]) hl [2, 1, 0] rfl) (zz_c1 rfl (zz_c1 (congrArg (fun v => ((1 : Nat), Value.int (nI v))) eL7) (zz_c1 rfl rfl))))
  have eL8 : 0 = lc_ct (lm_fr sl co nu fp ht) 0 := by first | rfl | simp [lc_ct, lm_fr, *]
  have eW9 : ([(g0, .inr (4, [.ref a1, .ref a2, .ref a3, .ref a4, .ref a5, .int (nI md), .int (nI ht), .ref a6, .int (nI en), .ref a7, .ref a8, .int rn])), (a1, .inl (cI, 48, .inl nu)), (a2, .inl (cI, 48, .inl (fun uu => nI (sl uu)))), (a3, .inl (cI, 48, .inl co)), (a4, .inl (cZ, 48, .inl (fun uu => lc_bI (nt uu)))), (a5, .inl (cI, 48, .inl ho)), (a6, .inl (cI, 8, .inl fp)), (a7, .inl (cI, 5, .inl wh)), (a8, .inl (cI, 20, .inl he))] : va_W) = [(g0, .inr (4, [.ref a1, .ref a2, .ref a3, .ref a4, .ref a5, .int (nI md), .int (nI ht), .ref a6, .int (nI en), .ref a7, .ref a8, .int rn])), (a1, .inl (cI, 48, .inl nu)), (a2, .inl (cI, 48, .inl (fun uu => nI ((lm_cut (lm_fr sl co nu fp ht) sl 0) uu)))), (a3, .inl (cI, 48, .inl co)), (a4, .inl (cZ, 48, .inl (fun uu => lc_bI (nt uu)))), (a5, .inl (cI, 48, .inl ho)), (a6, .inl (cI, 8, .inl fp)), (a7, .inl (cI, 5, .inl wh)), (a8, .inl (cI, 20, .inl he))] := by first | simp only [lm_cut_0] | rw [lm_cut_n (by simp [lm_fr, *])]
  have hP := zz_toP eW9 hP
  have hD := zz_toD eW9 hD
  exact loop4 49 0 (by omega) (by omega) _ _ hP hD hS _ (zz_hlc (lv_sub (l' := [(0, .ref g0), (1, .int (nI 0)), (2, .int (nI 0))]) hl [2, 1, 0] rfl) (zz_c1 rfl (zz_c1 (congrArg (fun v => ((1 : Nat), Value.int (nI v))) eL8) (zz_c1 rfl rfl))))
