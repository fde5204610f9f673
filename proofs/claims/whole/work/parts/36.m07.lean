set_option maxHeartbeats 4000000 in
set_option maxRecDepth 100000 in
theorem c_M_room (l : Launch) (D : va_G) (cI : ClassId) (cZ : ClassId) (g0 : Nat) (a1 : Nat) (a2 : Nat) (a3 : Nat) (a4 : Nat) (a5 : Nat) (a6 : Nat) (a7 : Nat) (a8 : Nat) (nu : lc_A) (sl : Nat → Nat) (co : lc_A) (nt : Nat → Bool) (ho : lc_A) (md : Nat) (ht : Nat) (fp : lc_A) (en : Nat) (wh : lc_A) (he : lc_A) (rn : Int32) (k : Nat) (hs : ∀ i, i < 48 → i + sl i < 48) (hk : 0 < k) (hk2 : k < 48) : zz_MI l y_M_room b_M_room 4 .int ({ frames := 0, cells := 0, slots := 0, locals := 0 } : Room) D [(cI, .int), (cZ, .boolean)] [.ref g0, .int (nI k)] [(g0, .inr (4, [.ref a1, .ref a2, .ref a3, .ref a4, .ref a5, .int (nI md), .int (nI ht), .ref a6, .int (nI en), .ref a7, .ref a8, .int rn])), (a1, .inl (cI, 48, .inl nu)), (a2, .inl (cI, 48, .inl (fun uu => nI (sl uu)))), (a3, .inl (cI, 48, .inl co)), (a4, .inl (cZ, 48, .inl (fun uu => lc_bI (nt uu)))), (a5, .inl (cI, 48, .inl ho)), (a6, .inl (cI, 8, .inl fp)), (a7, .inl (cI, 5, .inl wh)), (a8, .inl (cI, 20, .inl he))] (lc_oI (lm_room sl k)) [(g0, .inr (4, [.ref a1, .ref a2, .ref a3, .ref a4, .ref a5, .int (nI md), .int (nI ht), .ref a6, .int (nI en), .ref a7, .ref a8, .int rn])), (a1, .inl (cI, 48, .inl nu)), (a2, .inl (cI, 48, .inl (fun uu => nI (sl uu)))), (a3, .inl (cI, 48, .inl co)), (a4, .inl (cZ, 48, .inl (fun uu => lc_bI (nt uu)))), (a5, .inl (cI, 48, .inl ho)), (a6, .inl (cI, 8, .inl fp)), (a7, .inl (cI, 5, .inl wh)), (a8, .inl (cI, 20, .inl he))] := by
  refine zz_MI_of (by decide) (Nat.le_of_ble_eq_true rfl) (vp_nar_int _) ?_
  intro p e s m args below meth c A ls Q hx hb hml hown hts hK hP hD hS hA hl hret
  have hown : s.vm.findClass R_M = some m.cls := hown
  have hl : lv_has ls 4 [(0, .ref g0), (1, .int (nI k))] := hl
  refine lv_iconst (v := nI 0) hx hb d_M_room_0 (by decide +kernel) ?_
  refine lv_istore_n (lv' := [(2, .int (nI 0)), (0, .ref g0), (1, .int (nI k))]) hx hb d_M_room_1 rfl hl (by decide) rfl (fun ls hl => ?_)
  refine lv_iconst (v := nI 0) hx hb d_M_room_2 (by decide +kernel) ?_
  refine lv_istore_n (lv' := [(3, .int (nI 0)), (2, .int (nI 0)), (0, .ref g0), (1, .int (nI k))]) hx hb d_M_room_3 rfl hl (by decide) rfl (fun ls hl => ?_)
  have loop4 : ∀ (fu : Nat) (i : Nat) (run : Nat), 48 - i < fu → (hi : i ≤ 48) → (hr : run ≤ i) → (hE : lm_rm sl k fu i run = lm_room sl k) → ∀ (H : Heap) (locs : List Loc), va_P D classes [(g0, .inr (4, [.ref a1, .ref a2, .ref a3, .ref a4, .ref a5, .int (nI md), .int (nI ht), .ref a6, .int (nI en), .ref a7, .ref a8, .int rn])), (a1, .inl (cI, 48, .inl nu)), (a2, .inl (cI, 48, .inl (fun uu => nI (sl uu)))), (a3, .inl (cI, 48, .inl co)), (a4, .inl (cZ, 48, .inl (fun uu => lc_bI (nt uu)))), (a5, .inl (cI, 48, .inl ho)), (a6, .inl (cI, 8, .inl fp)), (a7, .inl (cI, 5, .inl wh)), (a8, .inl (cI, 20, .inl he))] H → va_D A [(g0, .inr (4, [.ref a1, .ref a2, .ref a3, .ref a4, .ref a5, .int (nI md), .int (nI ht), .ref a6, .int (nI en), .ref a7, .ref a8, .int rn])), (a1, .inl (cI, 48, .inl nu)), (a2, .inl (cI, 48, .inl (fun uu => nI (sl uu)))), (a3, .inl (cI, 48, .inl co)), (a4, .inl (cZ, 48, .inl (fun uu => lc_bI (nt uu)))), (a5, .inl (cI, 48, .inl ho)), (a6, .inl (cI, 8, .inl fp)), (a7, .inl (cI, 5, .inl wh)), (a8, .inl (cI, 20, .inl he))] → va_S A s.heap H locs → ∀ (ls : Array Slot), lv_has ls 4 [(0, .ref g0), (1, .int (nI k)), (2, .int (nI run)), (3, .int (nI i))] → W p l e ({ frames := 0, cells := 0, slots := 0, locals := 0 } : Room) s m args below meth c H locs 0 0 Q (F0 m 4 ls []) := by
    intro fu
    induction fu with
    | zero => intro i run hf; omega
    | succ fu ih4 =>
      intro i run hf hi hr hE H locs hP hD hS ls hl
      refine lv_iload_n hx hb d_M_room_4 rfl (lv_at hl 3 rfl) ?_
      refine lv_bipush (v := nI 48) hx hb d_M_room_5 (by decide +kernel) ?_
      refine zz_icmp_ge (tgt := 50) hx hb (by omega) (by omega) d_M_room_7 (by decide) (fun c7 => ?_) (fun c7 => ?_)
      · skip
        refine lv_iconst (v := (-1)) hx hb d_M_room_50 (by decide +kernel) ?_
        refine zz_top (z := lc_oI (lm_room sl k)) (by exact lm_rm_end (by omega) hE) ?_
        exact hret _ _ _ _ d_M_room_51 hP hD hS
      · skip
        refine lv_aload_n hx hb d_M_room_10 rfl (lv_at hl 0 rfl) ?_
        refine va_get (D := D) (ci := 4) (v := .ref a2) (C := R_M) (T := F_M) (N := 12) hx hb hts i_M hown hK hP 0 rfl rfl 1 (by decide) (hts _ kw_173) (fun _ h9 => h9) rfl d_M_room_11 ?_
        refine lv_iload_n hx hb d_M_room_14 rfl (lv_at hl 3 rfl) ?_
        refine zz_iald hx hb hK hP 2 0 (f := (fun uu => nI (sl uu))) rfl rfl (i := i) (by omega) (by omega) d_M_room_15 ?_
        refine zz_top (z := nI (sl i)) rfl ?_
        have hsi := hs i (by omega)
        refine zz_if_le (tgt := 35) hx hb (by omega) d_M_room_16 (by decide) (fun c16 => ?_) (fun c16 => ?_)
        · skip
          refine lv_iinc (v := nI (run + 1)) (lv' := [(2, .int (nI (run + 1))), (0, .ref g0), (1, .int (nI k)), (3, .int (nI i))]) hx hb d_M_room_35 hl (k := 2) rfl (nI_1 _) (by decide) rfl (fun ls hl => ?_)
          refine lv_iinc (v := nI (i + 1)) (lv' := [(3, .int (nI (i + 1))), (2, .int (nI (run + 1))), (0, .ref g0), (1, .int (nI k))]) hx hb d_M_room_38 hl (k := 3) rfl (nI_1 _) (by decide) rfl (fun ls hl => ?_)
          refine lv_iload_n hx hb d_M_room_41 rfl (lv_at hl 1 rfl) ?_
          refine lv_iload_n hx hb d_M_room_42 rfl (lv_at hl 3 rfl) ?_
          refine zz_icmp_ne (tgt := 4) hx hb (by omega) (by omega) d_M_room_43 (by decide) (fun c43 => ?_) (fun c43 => ?_)
          · skip
            exact ih4 (i + 1) (run + 1) (by omega) (by omega) (by omega) (by first | exact (lm_rm_s1 (by omega) (by omega) (by assumption)).trans hE | exact (lm_rm_s0 (by omega) (by omega)).trans hE) _ _ hP hD hS _ (lv_sub hl [2, 3, 1, 0] rfl)
          · skip
            refine lv_iload_n hx hb d_M_room_46 rfl (lv_at hl 0 rfl) ?_
            refine lv_iload_n hx hb d_M_room_47 rfl (lv_at hl 3 rfl) ?_
            refine zz_isub hx hb (by omega) d_M_room_48 ?_
            refine zz_top (z := lc_oI (lm_room sl k)) (by exact lm_rm_ret (by omega) (by omega) (by assumption) hr hE) ?_
            exact hret _ _ _ _ d_M_room_49 hP hD hS
        · skip
          refine lv_iconst (v := nI 0) hx hb d_M_room_19 (by decide +kernel) ?_
          refine lv_istore_n (lv' := [(2, .int (nI 0)), (0, .ref g0), (1, .int (nI k)), (3, .int (nI i))]) hx hb d_M_room_20 rfl hl (by decide) rfl (fun ls hl => ?_)
          refine lv_iload_n hx hb d_M_room_21 rfl (lv_at hl 3 rfl) ?_
          refine lv_aload_n hx hb d_M_room_22 rfl (lv_at hl 1 rfl) ?_
          refine va_get (D := D) (ci := 4) (v := .ref a2) (C := R_M) (T := F_M) (N := 12) hx hb hts i_M hown hK hP 0 rfl rfl 1 (by decide) (hts _ kw_173) (fun _ h9 => h9) rfl d_M_room_23 ?_
          refine lv_iload_n hx hb d_M_room_26 rfl (lv_at hl 3 rfl) ?_
          refine zz_iald hx hb hK hP 2 0 (f := (fun uu => nI (sl uu))) rfl rfl (i := i) (by omega) (by omega) d_M_room_27 ?_
          refine zz_top (z := nI (sl i)) rfl ?_
          refine zz_iadd hx hb d_M_room_28 ?_
          refine lv_iconst (v := nI 1) hx hb d_M_room_29 (by decide +kernel) ?_
          refine zz_iadd hx hb d_M_room_30 ?_
          refine lv_istore_n (lv' := [(3, .int (nI ((i + (sl i)) + 1))), (2, .int (nI 0)), (0, .ref g0), (1, .int (nI k))]) hx hb d_M_room_31 rfl hl (by decide) rfl (fun ls hl => ?_)
          refine lv_goto (tgt := 4) hx hb d_M_room_32 (by decide) ?_
          exact ih4 ((i + (sl i)) + 1) 0 (by omega) (by omega) (by omega) (by first | exact (lm_rm_s1 (by omega) (by omega) (by assumption)).trans hE | exact (lm_rm_s0 (by omega) (by omega)).trans hE) _ _ hP hD hS _ (lv_sub hl [2, 3, 1, 0] rfl)
  exact loop4 49 0 0 (by omega) (by omega) (by omega) (lm_room_i sl k) _ _ hP hD hS _ (lv_sub hl [2, 3, 1, 0] rfl)
