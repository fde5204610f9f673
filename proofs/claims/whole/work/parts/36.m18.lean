set_option maxHeartbeats 4000000 in
set_option maxRecDepth 100000 in
theorem c_M_free (l : Launch) (D : va_G) (cI : ClassId) (cZ : ClassId) (g0 : Nat) (a1 : Nat) (a2 : Nat) (a3 : Nat) (a4 : Nat) (a5 : Nat) (a6 : Nat) (a7 : Nat) (a8 : Nat) (nu : lc_A) (sl : Nat → Nat) (co : lc_A) (nt : Nat → Bool) (ho : lc_A) (md : Nat) (ht : Nat) (fp : lc_A) (en : Nat) (wh : lc_A) (he : lc_A) (rn : Int32) (hs : ∀ i, i < 48 → i + sl i < 48) : zz_MI l y_M_free b_M_free 3 .int ({ frames := 0, cells := 0, slots := 0, locals := 0 } : Room) D [(cI, .int), (cZ, .boolean)] [.ref g0] [(g0, .inr (4, [.ref a1, .ref a2, .ref a3, .ref a4, .ref a5, .int (nI md), .int (nI ht), .ref a6, .int (nI en), .ref a7, .ref a8, .int rn])), (a1, .inl (cI, 48, .inl nu)), (a2, .inl (cI, 48, .inl (fun uu => nI (sl uu)))), (a3, .inl (cI, 48, .inl co)), (a4, .inl (cZ, 48, .inl (fun uu => lc_bI (nt uu)))), (a5, .inl (cI, 48, .inl ho)), (a6, .inl (cI, 8, .inl fp)), (a7, .inl (cI, 5, .inl wh)), (a8, .inl (cI, 20, .inl he))] (nI 48 - nI (lc_sm (lc_wt sl) 48)) [(g0, .inr (4, [.ref a1, .ref a2, .ref a3, .ref a4, .ref a5, .int (nI md), .int (nI ht), .ref a6, .int (nI en), .ref a7, .ref a8, .int rn])), (a1, .inl (cI, 48, .inl nu)), (a2, .inl (cI, 48, .inl (fun uu => nI (sl uu)))), (a3, .inl (cI, 48, .inl co)), (a4, .inl (cZ, 48, .inl (fun uu => lc_bI (nt uu)))), (a5, .inl (cI, 48, .inl ho)), (a6, .inl (cI, 8, .inl fp)), (a7, .inl (cI, 5, .inl wh)), (a8, .inl (cI, 20, .inl he))] := by
  refine zz_MI_of (by decide) (Nat.le_of_ble_eq_true rfl) (vp_nar_int _) ?_
  intro p e s m args below meth c A ls Q hx hb hml hown hts hK hP hD hS hA hl hret
  have hown : s.vm.findClass R_M = some m.cls := hown
  have hl : lv_has ls 3 [(0, .ref g0)] := hl
  refine lv_bipush (v := nI 48) hx hb d_M_free_0 (by decide +kernel) ?_
  refine lv_istore_n (lv' := [(1, .int (nI 48)), (0, .ref g0)]) hx hb d_M_free_2 rfl hl (by decide) rfl (fun ls hl => ?_)
  refine lv_iconst (v := nI 0) hx hb d_M_free_3 (by decide +kernel) ?_
  refine lv_istore_n (lv' := [(2, .int (nI 0)), (1, .int (nI 48)), (0, .ref g0)]) hx hb d_M_free_4 rfl hl (by decide) rfl (fun ls hl => ?_)
  have loop5 : ∀ (fu : Nat) (i : Nat), 48 - i < fu → (hi : i ≤ 48) → ∀ (H : Heap) (locs : List Loc), va_P D classes [(g0, .inr (4, [.ref a1, .ref a2, .ref a3, .ref a4, .ref a5, .int (nI md), .int (nI ht), .ref a6, .int (nI en), .ref a7, .ref a8, .int rn])), (a1, .inl (cI, 48, .inl nu)), (a2, .inl (cI, 48, .inl (fun uu => nI (sl uu)))), (a3, .inl (cI, 48, .inl co)), (a4, .inl (cZ, 48, .inl (fun uu => lc_bI (nt uu)))), (a5, .inl (cI, 48, .inl ho)), (a6, .inl (cI, 8, .inl fp)), (a7, .inl (cI, 5, .inl wh)), (a8, .inl (cI, 20, .inl he))] H → va_D A [(g0, .inr (4, [.ref a1, .ref a2, .ref a3, .ref a4, .ref a5, .int (nI md), .int (nI ht), .ref a6, .int (nI en), .ref a7, .ref a8, .int rn])), (a1, .inl (cI, 48, .inl nu)), (a2, .inl (cI, 48, .inl (fun uu => nI (sl uu)))), (a3, .inl (cI, 48, .inl co)), (a4, .inl (cZ, 48, .inl (fun uu => lc_bI (nt uu)))), (a5, .inl (cI, 48, .inl ho)), (a6, .inl (cI, 8, .inl fp)), (a7, .inl (cI, 5, .inl wh)), (a8, .inl (cI, 20, .inl he))] → va_S A s.heap H locs → ∀ (ls : Array Slot), lv_has ls 3 [(0, .ref g0), (1, .int (nI 48 - nI (lc_sm (lc_wt sl) i))), (2, .int (nI i))] → W p l e ({ frames := 0, cells := 0, slots := 0, locals := 0 } : Room) s m args below meth c H locs 0 0 Q (F0 m 5 ls []) := by
    intro fu
    induction fu with
    | zero => intro i hf; omega
    | succ fu ih5 =>
      intro i hf hi H locs hP hD hS ls hl
      refine lv_iload_n hx hb d_M_free_5 rfl (lv_at hl 2 rfl) ?_
      refine lv_bipush (v := nI 48) hx hb d_M_free_6 (by decide +kernel) ?_
      refine zz_icmp_ge (tgt := 41) hx hb (by omega) (by omega) d_M_free_8 (by decide) (fun c8 => ?_) (fun c8 => ?_)
      · skip
        refine lv_iload_n hx hb d_M_free_41 rfl (lv_at hl 1 rfl) ?_
        refine zz_top (z := nI 48 - nI (lc_sm (lc_wt sl) 48)) (by rw [show i = 48 by omega]) ?_
        exact hret _ _ _ _ d_M_free_42 hP hD hS
      · skip
        refine lv_aload_n hx hb d_M_free_11 rfl (lv_at hl 0 rfl) ?_
        refine va_get (D := D) (ci := 4) (v := .ref a2) (C := R_M) (T := F_M) (N := 12) hx hb hts i_M hown hK hP 0 rfl rfl 1 (by decide) (hts _ kw_173) (fun _ h9 => h9) rfl d_M_free_12 ?_
        refine lv_iload_n hx hb d_M_free_15 rfl (lv_at hl 2 rfl) ?_
        refine zz_iald hx hb hK hP 2 0 (f := (fun uu => nI (sl uu))) rfl rfl (i := i) (by omega) (by omega) d_M_free_16 ?_
        refine zz_top (z := nI (sl i)) rfl ?_
        have hsi := hs i (by omega)
        refine zz_if_le (tgt := 33) hx hb (by omega) d_M_free_17 (by decide) (fun c17 => ?_) (fun c17 => ?_)
        · skip
          refine lv_iload_n hx hb d_M_free_33 rfl (lv_at hl 1 rfl) ?_
          refine lv_istore_n (lv' := [(1, .int (nI 48 - nI (lc_sm (lc_wt sl) i))), (0, .ref g0), (2, .int (nI i))]) hx hb d_M_free_34 rfl hl (by decide) rfl (fun ls hl => ?_)
          refine lv_iinc (v := nI (i + 1)) (lv' := [(2, .int (nI (i + 1))), (1, .int (nI 48 - nI (lc_sm (lc_wt sl) i))), (0, .ref g0)]) hx hb d_M_free_35 hl (k := 2) rfl (nI_1 _) (by decide) rfl (fun ls hl => ?_)
          refine lv_goto (tgt := 5) hx hb d_M_free_38 (by decide) ?_
          have eL1 : nI 48 - nI (lc_sm (lc_wt sl) i) = nI 48 - nI (lc_sm (lc_wt sl) (i + 1)) := by first | exact lm_fr_0 | exact lm_fr_1 (by omega) | exact lm_fr_2 (by omega)
          exact ih5 (i + 1) (by omega) (by omega) _ _ hP hD hS _ (zz_hlc (lv_sub (l' := [(0, .ref g0), (1, .int (nI 48 - nI (lc_sm (lc_wt sl) i))), (2, .int (nI (i + 1)))]) hl [2, 1, 0] rfl) (zz_c1 rfl (zz_c1 (congrArg (fun v => ((1 : Nat), Value.int v)) eL1) (zz_c1 rfl rfl))))
        · skip
          refine lv_iload_n hx hb d_M_free_20 rfl (lv_at hl 1 rfl) ?_
          refine lv_aload_n hx hb d_M_free_21 rfl (lv_at hl 0 rfl) ?_
          refine va_get (D := D) (ci := 4) (v := .ref a2) (C := R_M) (T := F_M) (N := 12) hx hb hts i_M hown hK hP 0 rfl rfl 1 (by decide) (hts _ kw_173) (fun _ h9 => h9) rfl d_M_free_22 ?_
          refine lv_iload_n hx hb d_M_free_25 rfl (lv_at hl 2 rfl) ?_
          refine zz_iald hx hb hK hP 2 0 (f := (fun uu => nI (sl uu))) rfl rfl (i := i) (by omega) (by omega) d_M_free_26 ?_
          refine zz_top (z := nI (sl i)) rfl ?_
          refine lv_isub hx hb d_M_free_27 ?_
          refine lv_iconst (v := nI 1) hx hb d_M_free_28 (by decide +kernel) ?_
          refine lv_isub hx hb d_M_free_29 ?_
          refine lv_goto (tgt := 34) hx hb d_M_free_30 (by decide) ?_
          refine lv_istore_n (lv' := [(1, .int (((nI 48 - nI (lc_sm (lc_wt sl) i)) - (nI (sl i))) - (nI 1))), (0, .ref g0), (2, .int (nI i))]) hx hb d_M_free_34 rfl hl (by decide) rfl (fun ls hl => ?_)
          refine lv_iinc (v := nI (i + 1)) (lv' := [(2, .int (nI (i + 1))), (1, .int (((nI 48 - nI (lc_sm (lc_wt sl) i)) - (nI (sl i))) - (nI 1))), (0, .ref g0)]) hx hb d_M_free_35 hl (k := 2) rfl (nI_1 _) (by decide) rfl (fun ls hl => ?_)
          refine lv_goto (tgt := 5) hx hb d_M_free_38 (by decide) ?_
          have eL2 : ((nI 48 - nI (lc_sm (lc_wt sl) i)) - (nI (sl i))) - (nI 1) = nI 48 - nI (lc_sm (lc_wt sl) (i + 1)) := by first | exact lm_fr_0 | exact lm_fr_1 (by omega) | exact lm_fr_2 (by omega)
          exact ih5 (i + 1) (by omega) (by omega) _ _ hP hD hS _ (zz_hlc (lv_sub (l' := [(0, .ref g0), (1, .int (((nI 48 - nI (lc_sm (lc_wt sl) i)) - (nI (sl i))) - (nI 1))), (2, .int (nI (i + 1)))]) hl [2, 1, 0] rfl) (zz_c1 rfl (zz_c1 (congrArg (fun v => ((1 : Nat), Value.int v)) eL2) (zz_c1 rfl rfl))))
  have eL3 : nI 48 = nI 48 - nI (lc_sm (lc_wt sl) 0) := by first | exact lm_fr_0 | exact lm_fr_1 (by omega) | exact lm_fr_2 (by omega)
  exact loop5 49 0 (by omega) (by omega) _ _ hP hD hS _ (zz_hlc (lv_sub (l' := [(0, .ref g0), (1, .int (nI 48)), (2, .int (nI 0))]) hl [2, 1, 0] rfl) (zz_c1 rfl (zz_c1 (congrArg (fun v => ((1 : Nat), Value.int v)) eL3) (zz_c1 rfl rfl))))
set_option maxHeartbeats 4000000 in
set_option maxRecDepth 100000 in
theorem c_M_reckonings (l : Launch) (D : va_G) (cI : ClassId) (cZ : ClassId) (g0 : Nat) (a1 : Nat) (a2 : Nat) (a3 : Nat) (a4 : Nat) (a5 : Nat) (a6 : Nat) (a7 : Nat) (a8 : Nat) (nu : lc_A) (sl : Nat → Nat) (co : lc_A) (nt : Nat → Bool) (ho : lc_A) (md : Nat) (ht : Nat) (fp : lc_A) (en : Nat) (wh : lc_A) (he : lc_A) (rn : Int32)  : zz_MI l y_M_reckonings b_M_reckonings 1 .int ({ frames := 0, cells := 0, slots := 0, locals := 0 } : Room) D [(cI, .int), (cZ, .boolean)] [.ref g0] [(g0, .inr (4, [.ref a1, .ref a2, .ref a3, .ref a4, .ref a5, .int (nI md), .int (nI ht), .ref a6, .int (nI en), .ref a7, .ref a8, .int rn])), (a1, .inl (cI, 48, .inl nu)), (a2, .inl (cI, 48, .inl (fun uu => nI (sl uu)))), (a3, .inl (cI, 48, .inl co)), (a4, .inl (cZ, 48, .inl (fun uu => lc_bI (nt uu)))), (a5, .inl (cI, 48, .inl ho)), (a6, .inl (cI, 8, .inl fp)), (a7, .inl (cI, 5, .inl wh)), (a8, .inl (cI, 20, .inl he))] rn [(g0, .inr (4, [.ref a1, .ref a2, .ref a3, .ref a4, .ref a5, .int (nI md), .int (nI ht), .ref a6, .int (nI en), .ref a7, .ref a8, .int rn])), (a1, .inl (cI, 48, .inl nu)), (a2, .inl (cI, 48, .inl (fun uu => nI (sl uu)))), (a3, .inl (cI, 48, .inl co)), (a4, .inl (cZ, 48, .inl (fun uu => lc_bI (nt uu)))), (a5, .inl (cI, 48, .inl ho)), (a6, .inl (cI, 8, .inl fp)), (a7, .inl (cI, 5, .inl wh)), (a8, .inl (cI, 20, .inl he))] := by
  refine zz_MI_of (by decide) (Nat.le_of_ble_eq_true rfl) (vp_nar_int _) ?_
  intro p e s m args below meth c A ls Q hx hb hml hown hts hK hP hD hS hA hl hret
  have hown : s.vm.findClass R_M = some m.cls := hown
  have hl : lv_has ls 1 [(0, .ref g0)] := hl
  refine lv_aload_n hx hb d_M_reckonings_0 rfl (lv_at hl 0 rfl) ?_
  refine va_get (D := D) (ci := 4) (v := .int rn) (C := R_M) (T := F_M) (N := 12) hx hb hts i_M hown hK hP 0 rfl rfl 11 (by decide) (hts _ kw_189) (fun _ h9 => h9) rfl d_M_reckonings_1 ?_
  exact hret _ _ _ _ d_M_reckonings_4 hP hD hS
