set_option maxHeartbeats 4000000 in
set_option maxRecDepth 100000 in
theorem c_M_slot (l : Launch) (D : va_G) (cI : ClassId) (cZ : ClassId) (g0 : Nat) (a1 : Nat) (a2 : Nat) (a3 : Nat) (a4 : Nat) (a5 : Nat) (a6 : Nat) (a7 : Nat) (a8 : Nat) (nu : lc_A) (sl : Nat → Nat) (co : lc_A) (nt : Nat → Bool) (ho : lc_A) (md : Nat) (ht : Nat) (fp : lc_A) (en : Nat) (wh : lc_A) (he : lc_A) (rn : Int32) (x : Int32) (z : Int32) (hs : ∀ i, i < 48 → i + sl i < 48) : zz_MI l y_M_slot b_M_slot 4 .int ({ frames := 1, cells := 0, slots := 0, locals := 23 } : Room) D [(cI, .int), (cZ, .boolean)] [.ref g0, .int x, .int z] [(g0, .inr (4, [.ref a1, .ref a2, .ref a3, .ref a4, .ref a5, .int (nI md), .int (nI ht), .ref a6, .int (nI en), .ref a7, .ref a8, .int rn])), (a1, .inl (cI, 48, .inl nu)), (a2, .inl (cI, 48, .inl (fun uu => nI (sl uu)))), (a3, .inl (cI, 48, .inl co)), (a4, .inl (cZ, 48, .inl (fun uu => lc_bI (nt uu)))), (a5, .inl (cI, 48, .inl ho)), (a6, .inl (cI, 8, .inl fp)), (a7, .inl (cI, 5, .inl wh)), (a8, .inl (cI, 20, .inl he))] (am_slot nu sl ho x z) [(g0, .inr (4, [.ref a1, .ref a2, .ref a3, .ref a4, .ref a5, .int (nI md), .int (nI ht), .ref a6, .int (nI en), .ref a7, .ref a8, .int rn])), (a1, .inl (cI, 48, .inl nu)), (a2, .inl (cI, 48, .inl (fun uu => nI (sl uu)))), (a3, .inl (cI, 48, .inl co)), (a4, .inl (cZ, 48, .inl (fun uu => lc_bI (nt uu)))), (a5, .inl (cI, 48, .inl ho)), (a6, .inl (cI, 8, .inl fp)), (a7, .inl (cI, 5, .inl wh)), (a8, .inl (cI, 20, .inl he))] := by
  refine zz_MI_of (by decide) (Nat.le_of_ble_eq_true rfl) (vp_nar_int _) ?_
  intro p e s m args below meth c A ls Q hx hb hml hown hts hK hP hD hS hA hl hret
  have hown : s.vm.findClass R_M = some m.cls := hown
  have hl : lv_has ls 4 [(0, .ref g0), (1, .int x), (2, .int z)] := hl
  refine lv_aload_n hx hb d_M_slot_0 rfl (lv_at hl 0 rfl) ?_
  refine lv_iload_n hx hb d_M_slot_1 rfl (lv_at hl 1 rfl) ?_
  refine zz_callI (np := 1) hx hb hml hown hts hK hP hD hS hA (c_M_find l D cI cZ g0 a1 a2 a3 a4 a5 a6 a7 a8 nu sl co nt ho md ht fp en wh he rn x hs) (zz_gv kw_224 kw_225 kw_226 kw_184 kc_223) (by decide +kernel) rfl rfl ⟨Nat.le_of_ble_eq_true rfl, Nat.le_of_ble_eq_true rfl⟩ ⟨Nat.zero_le _, Nat.zero_le _⟩ [0, 1] rfl 0 4 rfl rfl rfl [0, 1, 2, 3, 4, 5, 6, 7, 8] [] [0, 1, 2, 3, 4, 5, 6, 7, 8] rfl (by decide) (wr := []) rfl (by decide) (by decide) (ws' := [(g0, .inr (4, [.ref a1, .ref a2, .ref a3, .ref a4, .ref a5, .int (nI md), .int (nI ht), .ref a6, .int (nI en), .ref a7, .ref a8, .int rn])), (a1, .inl (cI, 48, .inl nu)), (a2, .inl (cI, 48, .inl (fun uu => nI (sl uu)))), (a3, .inl (cI, 48, .inl co)), (a4, .inl (cZ, 48, .inl (fun uu => lc_bI (nt uu)))), (a5, .inl (cI, 48, .inl ho)), (a6, .inl (cI, 8, .inl fp)), (a7, .inl (cI, 5, .inl wh)), (a8, .inl (cI, 20, .inl he))]) rfl (by decide) rfl hl.1 rfl (Nat.le_of_ble_eq_true rfl) d_M_slot_2 (fun H locs hP hD hS => ?_)
  refine zz_oI (fun h2 => ?_) (fun a h2 => ?_)
  · skip
    refine lv_istore_n (lv' := [(3, .int (-1)), (0, .ref g0), (1, .int x), (2, .int z)]) hx hb d_M_slot_5 rfl hl (by decide) rfl (fun ls hl => ?_)
    refine lv_iload_n hx hb d_M_slot_6 rfl (lv_at hl 0 rfl) ?_
    refine lv_if_ge (tgt := 15) hx hb d_M_slot_7 (by decide) (fun c7 => ?_) (fun c7 => ?_)
    · skip
      exact absurd c7 (by decide)
    · skip
      refine lv_bipush (v := (-3)) hx hb d_M_slot_10 (by decide +kernel) ?_
      refine lv_goto (tgt := 45) hx hb d_M_slot_12 (by decide) ?_
      refine zz_top (z := am_slot nu sl ho x z) (by simp only [am_slot, *]) ?_
      exact hret _ _ _ _ d_M_slot_45 hP hD hS
  · skip
    have ha := lm_find_lt h2
    have hsa := hs a ha.1
    refine lv_istore_n (lv' := [(3, .int (nI a)), (0, .ref g0), (1, .int x), (2, .int z)]) hx hb d_M_slot_5 rfl hl (by decide) rfl (fun ls hl => ?_)
    refine lv_iload_n hx hb d_M_slot_6 rfl (lv_at hl 0 rfl) ?_
    refine lv_if_ge (tgt := 15) hx hb d_M_slot_7 (by decide) (fun c7 => ?_) (fun c7 => ?_)
    · skip
      refine lv_iload_n hx hb d_M_slot_15 rfl (lv_at hl 3 rfl) ?_
      refine lv_iconst (v := nI 0) hx hb d_M_slot_16 (by decide +kernel) ?_
      refine lv_aload_n hx hb d_M_slot_17 rfl (lv_at hl 1 rfl) ?_
      refine va_get (D := D) (ci := 4) (v := .ref a2) (C := R_M) (T := F_M) (N := 12) hx hb hts i_M hown hK hP 0 rfl rfl 1 (by decide) (hts _ kw_173) (fun _ h9 => h9) rfl d_M_slot_18 ?_
      refine lv_iload_n hx hb d_M_slot_21 rfl (lv_at hl 0 rfl) ?_
      refine zz_iald hx hb hK hP 2 0 (f := (fun uu => nI (sl uu))) rfl rfl (i := a) (by omega) (by omega) d_M_slot_22 ?_
      refine zz_top (z := nI (sl a)) rfl ?_
      refine lv_iconst (v := nI 1) hx hb d_M_slot_23 (by decide +kernel) ?_
      refine lv_isub hx hb d_M_slot_24 ?_
      refine zz_callS (np := 3) hx hb hml hown hts hK hP hD hS hA (c_M_within l D z (nI 0) ((nI (sl a)) - (nI 1)) ) (zz_gs kw_208 kw_209 kw_184 kc_207) (by decide +kernel) rfl rfl ⟨Nat.le_of_ble_eq_true rfl, Nat.le_of_ble_eq_true rfl⟩ ⟨Nat.zero_le _, Nat.zero_le _⟩ [0, 1, 2, 3, 4, 5, 6, 7, 8] rfl (by decide) rfl hl.1 rfl (Nat.le_of_ble_eq_true rfl) d_M_slot_25 (fun H locs hP hD hS => ?_)
      refine zz_top (z := lc_bI (lc_pl z (sl a)).isSome) (lc_within_pl (by omega)) ?_
      refine zz_pl (x := z) (n := sl a) (by omega) (fun h25 => ?_) (fun j hj25 ex25 h25 => ?_)
      · skip
        refine zz_if_eq (tgt := 44) hx hb (by omega) d_M_slot_28 (by decide) (fun c28 => ?_) (fun c28 => ?_)
        · skip
          refine lv_iconst (v := (-1)) hx hb d_M_slot_44 (by decide +kernel) ?_
          refine zz_top (z := am_slot nu sl ho x z) (by simp only [am_slot, *]) ?_
          exact hret _ _ _ _ d_M_slot_45 hP hD hS
        · skip
          exact absurd c28 (by omega)
      · skip
        subst ex25
        refine zz_if_eq (tgt := 44) hx hb (by omega) d_M_slot_28 (by decide) (fun c28 => ?_) (fun c28 => ?_)
        · skip
          exact absurd c28 (by omega)
        · skip
          refine lv_aload_n hx hb d_M_slot_31 rfl (lv_at hl 1 rfl) ?_
          refine va_get (D := D) (ci := 4) (v := .ref a5) (C := R_M) (T := F_M) (N := 12) hx hb hts i_M hown hK hP 0 rfl rfl 4 (by decide) (hts _ kw_175) (fun _ h9 => h9) rfl d_M_slot_32 ?_
          refine lv_iload_n hx hb d_M_slot_35 rfl (lv_at hl 0 rfl) ?_
          refine lv_iconst (v := nI 1) hx hb d_M_slot_36 (by decide +kernel) ?_
          refine zz_iadd hx hb d_M_slot_37 ?_
          refine lv_iload_n hx hb d_M_slot_38 rfl (lv_at hl 3 rfl) ?_
          refine zz_iadd hx hb d_M_slot_39 ?_
          refine zz_iald hx hb hK hP 5 0 (f := ho) rfl rfl (i := (a + 1) + j) (by omega) (by omega) d_M_slot_40 ?_
          refine lv_goto (tgt := 45) hx hb d_M_slot_41 (by decide) ?_
          refine zz_top (z := am_slot nu sl ho x (nI j)) (by simp only [am_slot, *]) ?_
          exact hret _ _ _ _ d_M_slot_45 hP hD hS
    · skip
      exact absurd (nI_pos' (by omega)) c7
set_option maxHeartbeats 4000000 in
set_option maxRecDepth 100000 in
theorem c_M_table (l : Launch) (D : va_G) (cI : ClassId) (cZ : ClassId) (g0 : Nat) (a1 : Nat) (a2 : Nat) (a3 : Nat) (a4 : Nat) (a5 : Nat) (a6 : Nat) (a7 : Nat) (a8 : Nat) (nu : lc_A) (sl : Nat → Nat) (co : lc_A) (nt : Nat → Bool) (ho : lc_A) (md : Nat) (ht : Nat) (fp : lc_A) (en : Nat) (wh : lc_A) (he : lc_A) (rn : Int32) (hs : ∀ i, i < 48 → i + sl i < 48) : zz_MI l y_M_table b_M_table 3 .int ({ frames := 0, cells := 0, slots := 0, locals := 0 } : Room) D [(cI, .int), (cZ, .boolean)] [.ref g0] [(g0, .inr (4, [.ref a1, .ref a2, .ref a3, .ref a4, .ref a5, .int (nI md), .int (nI ht), .ref a6, .int (nI en), .ref a7, .ref a8, .int rn])), (a1, .inl (cI, 48, .inl nu)), (a2, .inl (cI, 48, .inl (fun uu => nI (sl uu)))), (a3, .inl (cI, 48, .inl co)), (a4, .inl (cZ, 48, .inl (fun uu => lc_bI (nt uu)))), (a5, .inl (cI, 48, .inl ho)), (a6, .inl (cI, 8, .inl fp)), (a7, .inl (cI, 5, .inl wh)), (a8, .inl (cI, 20, .inl he))] (nI (lc_ct (fun u => decide (0 < sl u) && decide (co u = 0)) 48)) [(g0, .inr (4, [.ref a1, .ref a2, .ref a3, .ref a4, .ref a5, .int (nI md), .int (nI ht), .ref a6, .int (nI en), .ref a7, .ref a8, .int rn])), (a1, .inl (cI, 48, .inl nu)), (a2, .inl (cI, 48, .inl (fun uu => nI (sl uu)))), (a3, .inl (cI, 48, .inl co)), (a4, .inl (cZ, 48, .inl (fun uu => lc_bI (nt uu)))), (a5, .inl (cI, 48, .inl ho)), (a6, .inl (cI, 8, .inl fp)), (a7, .inl (cI, 5, .inl wh)), (a8, .inl (cI, 20, .inl he))] := by
  refine zz_MI_of (by decide) (Nat.le_of_ble_eq_true rfl) (vp_nar_int _) ?_
  intro p e s m args below meth c A ls Q hx hb hml hown hts hK hP hD hS hA hl hret
  have hown : s.vm.findClass R_M = some m.cls := hown
  have hl : lv_has ls 3 [(0, .ref g0)] := hl
  refine lv_iconst (v := nI 0) hx hb d_M_table_0 (by decide +kernel) ?_
  refine lv_istore_n (lv' := [(1, .int (nI 0)), (0, .ref g0)]) hx hb d_M_table_1 rfl hl (by decide) rfl (fun ls hl => ?_)
  refine lv_iconst (v := nI 0) hx hb d_M_table_2 (by decide +kernel) ?_
  refine lv_istore_n (lv' := [(2, .int (nI 0)), (1, .int (nI 0)), (0, .ref g0)]) hx hb d_M_table_3 rfl hl (by decide) rfl (fun ls hl => ?_)
  have loop4 : ∀ (fu : Nat) (i : Nat), 48 - i < fu → (hi : i ≤ 48) → ∀ (H : Heap) (locs : List Loc), va_P D classes [(g0, .inr (4, [.ref a1, .ref a2, .ref a3, .ref a4, .ref a5, .int (nI md), .int (nI ht), .ref a6, .int (nI en), .ref a7, .ref a8, .int rn])), (a1, .inl (cI, 48, .inl nu)), (a2, .inl (cI, 48, .inl (fun uu => nI (sl uu)))), (a3, .inl (cI, 48, .inl co)), (a4, .inl (cZ, 48, .inl (fun uu => lc_bI (nt uu)))), (a5, .inl (cI, 48, .inl ho)), (a6, .inl (cI, 8, .inl fp)), (a7, .inl (cI, 5, .inl wh)), (a8, .inl (cI, 20, .inl he))] H → va_D A [(g0, .inr (4, [.ref a1, .ref a2, .ref a3, .ref a4, .ref a5, .int (nI md), .int (nI ht), .ref a6, .int (nI en), .ref a7, .ref a8, .int rn])), (a1, .inl (cI, 48, .inl nu)), (a2, .inl (cI, 48, .inl (fun uu => nI (sl uu)))), (a3, .inl (cI, 48, .inl co)), (a4, .inl (cZ, 48, .inl (fun uu => lc_bI (nt uu)))), (a5, .inl (cI, 48, .inl ho)), (a6, .inl (cI, 8, .inl fp)), (a7, .inl (cI, 5, .inl wh)), (a8, .inl (cI, 20, .inl he))] → va_S A s.heap H locs → ∀ (ls : Array Slot), lv_has ls 3 [(0, .ref g0), (1, .int (nI (lc_ct (fun u => decide (0 < sl u) && decide (co u = 0)) i))), (2, .int (nI i))] → W p l e ({ frames := 0, cells := 0, slots := 0, locals := 0 } : Room) s m args below meth c H locs 0 0 Q (F0 m 4 ls []) := by
    intro fu
    induction fu with
    | zero => intro i hf; omega
    | succ fu ih4 =>
      intro i hf hi H locs hP hD hS ls hl
      refine lv_iload_n hx hb d_M_table_4 rfl (lv_at hl 2 rfl) ?_
      refine lv_bipush (v := nI 48) hx hb d_M_table_5 (by decide +kernel) ?_
      refine zz_icmp_ge (tgt := 42) hx hb (by omega) (by omega) d_M_table_7 (by decide) (fun c7 => ?_) (fun c7 => ?_)
      · skip
        refine lv_iload_n hx hb d_M_table_42 rfl (lv_at hl 1 rfl) ?_
        refine zz_top (z := nI (lc_ct (fun u => decide (0 < sl u) && decide (co u = 0)) 48)) (by rw [show i = 48 by omega]) ?_
        exact hret _ _ _ _ d_M_table_43 hP hD hS
      · skip
        refine lv_aload_n hx hb d_M_table_10 rfl (lv_at hl 0 rfl) ?_
        refine va_get (D := D) (ci := 4) (v := .ref a2) (C := R_M) (T := F_M) (N := 12) hx hb hts i_M hown hK hP 0 rfl rfl 1 (by decide) (hts _ kw_173) (fun _ h9 => h9) rfl d_M_table_11 ?_
        refine lv_iload_n hx hb d_M_table_14 rfl (lv_at hl 2 rfl) ?_
        refine zz_iald hx hb hK hP 2 0 (f := (fun uu => nI (sl uu))) rfl rfl (i := i) (by omega) (by omega) d_M_table_15 ?_
        refine zz_top (z := nI (sl i)) rfl ?_
        have hsi := hs i (by omega)
        refine zz_if_le (tgt := 34) hx hb (by omega) d_M_table_16 (by decide) (fun c16 => ?_) (fun c16 => ?_)
        · skip
          refine lv_iload_n hx hb d_M_table_34 rfl (lv_at hl 1 rfl) ?_
          refine lv_istore_n (lv' := [(1, .int (nI (lc_ct (fun u => decide (0 < sl u) && decide (co u = 0)) i))), (0, .ref g0), (2, .int (nI i))]) hx hb d_M_table_35 rfl hl (by decide) rfl (fun ls hl => ?_)
          refine lv_iinc (v := nI (i + 1)) (lv' := [(2, .int (nI (i + 1))), (1, .int (nI (lc_ct (fun u => decide (0 < sl u) && decide (co u = 0)) i))), (0, .ref g0)]) hx hb d_M_table_36 hl (k := 2) rfl (nI_1 _) (by decide) rfl (fun ls hl => ?_)
          refine lv_goto (tgt := 4) hx hb d_M_table_39 (by decide) ?_
          have eL1 : lc_ct (fun u => decide (0 < sl u) && decide (co u = 0)) i = lc_ct (fun u => decide (0 < sl u) && decide (co u = 0)) (i + 1) := by first | rfl | simp [lc_ct, *]
          exact ih4 (i + 1) (by omega) (by omega) _ _ hP hD hS _ (zz_hlc (lv_sub (l' := [(0, .ref g0), (1, .int (nI (lc_ct (fun u => decide (0 < sl u) && decide (co u = 0)) i))), (2, .int (nI (i + 1)))]) hl [2, 1, 0] rfl) (zz_c1 rfl (zz_c1 (congrArg (fun v => ((1 : Nat), Value.int (nI v))) eL1) (zz_c1 rfl rfl))))
        · skip
          refine lv_aload_n hx hb d_M_table_19 rfl (lv_at hl 0 rfl) ?_
          refine va_get (D := D) (ci := 4) (v := .ref a3) (C := R_M) (T := F_M) (N := 12) hx hb hts i_M hown hK hP 0 rfl rfl 2 (by decide) (hts _ kw_178) (fun _ h9 => h9) rfl d_M_table_20 ?_
          refine lv_iload_n hx hb d_M_table_23 rfl (lv_at hl 2 rfl) ?_
          refine zz_iald hx hb hK hP 3 0 (f := co) rfl rfl (i := i) (by omega) (by omega) d_M_table_24 ?_
          refine lv_if_ne (tgt := 34) hx hb d_M_table_25 (by decide) (fun c25 => ?_) (fun c25 => ?_)
          · skip
            refine lv_iload_n hx hb d_M_table_34 rfl (lv_at hl 1 rfl) ?_
            refine lv_istore_n (lv' := [(1, .int (nI (lc_ct (fun u => decide (0 < sl u) && decide (co u = 0)) i))), (0, .ref g0), (2, .int (nI i))]) hx hb d_M_table_35 rfl hl (by decide) rfl (fun ls hl => ?_)
            refine lv_iinc (v := nI (i + 1)) (lv' := [(2, .int (nI (i + 1))), (1, .int (nI (lc_ct (fun u => decide (0 < sl u) && decide (co u = 0)) i))), (0, .ref g0)]) hx hb d_M_table_36 hl (k := 2) rfl (nI_1 _) (by decide) rfl (fun ls hl => ?_)
            refine lv_goto (tgt := 4) hx hb d_M_table_39 (by decide) ?_
            have eL2 : lc_ct (fun u => decide (0 < sl u) && decide (co u = 0)) i = lc_ct (fun u => decide (0 < sl u) && decide (co u = 0)) (i + 1) := by first | rfl | simp [lc_ct, *]
            exact ih4 (i + 1) (by omega) (by omega) _ _ hP hD hS _ (zz_hlc (lv_sub (l' := [(0, .ref g0), (1, .int (nI (lc_ct (fun u => decide (0 < sl u) && decide (co u = 0)) i))), (2, .int (nI (i + 1)))]) hl [2, 1, 0] rfl) (zz_c1 rfl (zz_c1 (congrArg (fun v => ((1 : Nat), Value.int (nI v))) eL2) (zz_c1 rfl rfl))))
          · skip
            refine lv_iload_n hx hb d_M_table_28 rfl (lv_at hl 1 rfl) ?_
            refine lv_iconst (v := nI 1) hx hb d_M_table_29 (by decide +kernel) ?_
            refine zz_iadd hx hb d_M_table_30 ?_
            refine lv_goto (tgt := 35) hx hb d_M_table_31 (by decide) ?_
            refine lv_istore_n (lv' := [(1, .int (nI ((lc_ct (fun u => decide (0 < sl u) && decide (co u = 0)) i) + 1))), (0, .ref g0), (2, .int (nI i))]) hx hb d_M_table_35 rfl hl (by decide) rfl (fun ls hl => ?_)
            refine lv_iinc (v := nI (i + 1)) (lv' := [(2, .int (nI (i + 1))), (1, .int (nI ((lc_ct (fun u => decide (0 < sl u) && decide (co u = 0)) i) + 1))), (0, .ref g0)]) hx hb d_M_table_36 hl (k := 2) rfl (nI_1 _) (by decide) rfl (fun ls hl => ?_)
            refine lv_goto (tgt := 4) hx hb d_M_table_39 (by decide) ?_
            have eL3 : (lc_ct (fun u => decide (0 < sl u) && decide (co u = 0)) i) + 1 = lc_ct (fun u => decide (0 < sl u) && decide (co u = 0)) (i + 1) := by first | rfl | simp [lc_ct, *]
            exact ih4 (i + 1) (by omega) (by omega) _ _ hP hD hS _ (zz_hlc (lv_sub (l' := [(0, .ref g0), (1, .int (nI ((lc_ct (fun u => decide (0 < sl u) && decide (co u = 0)) i) + 1))), (2, .int (nI (i + 1)))]) hl [2, 1, 0] rfl) (zz_c1 rfl (zz_c1 (congrArg (fun v => ((1 : Nat), Value.int (nI v))) eL3) (zz_c1 rfl rfl))))
  have eL4 : 0 = lc_ct (fun u => decide (0 < sl u) && decide (co u = 0)) 0 := by first | rfl | simp [lc_ct, *]
  exact loop4 49 0 (by omega) (by omega) _ _ hP hD hS _ (zz_hlc (lv_sub (l' := [(0, .ref g0), (1, .int (nI 0)), (2, .int (nI 0))]) hl [2, 1, 0] rfl) (zz_c1 rfl (zz_c1 (congrArg (fun v => ((1 : Nat), Value.int (nI v))) eL4) (zz_c1 rfl rfl))))
set_option maxHeartbeats 4000000 in
set_option maxRecDepth 100000 in
theorem c_M_state (l : Launch) (D : va_G) (cI : ClassId) (cZ : ClassId) (g0 : Nat) (a1 : Nat) (a2 : Nat) (a3 : Nat) (a4 : Nat) (a5 : Nat) (a6 : Nat) (a7 : Nat) (a8 : Nat) (nu : lc_A) (sl : Nat → Nat) (co : lc_A) (nt : Nat → Bool) (ho : lc_A) (md : Nat) (ht : Nat) (fp : lc_A) (en : Nat) (wh : lc_A) (he : lc_A) (rn : Int32) (x : Int32) (hs : ∀ i, i < 48 → i + sl i < 48) : zz_MI l y_M_state b_M_state 3 .int ({ frames := 1, cells := 0, slots := 0, locals := 23 } : Room) D [(cI, .int), (cZ, .boolean)] [.ref g0, .int x] [(g0, .inr (4, [.ref a1, .ref a2, .ref a3, .ref a4, .ref a5, .int (nI md), .int (nI ht), .ref a6, .int (nI en), .ref a7, .ref a8, .int rn])), (a1, .inl (cI, 48, .inl nu)), (a2, .inl (cI, 48, .inl (fun uu => nI (sl uu)))), (a3, .inl (cI, 48, .inl co)), (a4, .inl (cZ, 48, .inl (fun uu => lc_bI (nt uu)))), (a5, .inl (cI, 48, .inl ho)), (a6, .inl (cI, 8, .inl fp)), (a7, .inl (cI, 5, .inl wh)), (a8, .inl (cI, 20, .inl he))] (am_state nu sl co nt x) [(g0, .inr (4, [.ref a1, .ref a2, .ref a3, .ref a4, .ref a5, .int (nI md), .int (nI ht), .ref a6, .int (nI en), .ref a7, .ref a8, .int rn])), (a1, .inl (cI, 48, .inl nu)), (a2, .inl (cI, 48, .inl (fun uu => nI (sl uu)))), (a3, .inl (cI, 48, .inl co)), (a4, .inl (cZ, 48, .inl (fun uu => lc_bI (nt uu)))), (a5, .inl (cI, 48, .inl ho)), (a6, .inl (cI, 8, .inl fp)), (a7, .inl (cI, 5, .inl wh)), (a8, .inl (cI, 20, .inl he))] := by
  refine zz_MI_of (by decide) (Nat.le_of_ble_eq_true rfl) (vp_nar_int _) ?_
  intro p e s m args below meth c A ls Q hx hb hml hown hts hK hP hD hS hA hl hret
  have hown : s.vm.findClass R_M = some m.cls := hown
  have hl : lv_has ls 3 [(0, .ref g0), (1, .int x)] := hl
  refine lv_aload_n hx hb d_M_state_0 rfl (lv_at hl 0 rfl) ?_
  refine lv_iload_n hx hb d_M_state_1 rfl (lv_at hl 1 rfl) ?_
  refine zz_callI (np := 1) hx hb hml hown hts hK hP hD hS hA (c_M_find l D cI cZ g0 a1 a2 a3 a4 a5 a6 a7 a8 nu sl co nt ho md ht fp en wh he rn x hs) (zz_gv kw_224 kw_225 kw_226 kw_184 kc_223) (by decide +kernel) rfl rfl ⟨Nat.le_of_ble_eq_true rfl, Nat.le_of_ble_eq_true rfl⟩ ⟨Nat.zero_le _, Nat.zero_le _⟩ [0, 1] rfl 0 4 rfl rfl rfl [0, 1, 2, 3, 4, 5, 6, 7, 8] [] [0, 1, 2, 3, 4, 5, 6, 7, 8] rfl (by decide) (wr := []) rfl (by decide) (by decide) (ws' := [(g0, .inr (4, [.ref a1, .ref a2, .ref a3, .ref a4, .ref a5, .int (nI md), .int (nI ht), .ref a6, .int (nI en), .ref a7, .ref a8, .int rn])), (a1, .inl (cI, 48, .inl nu)), (a2, .inl (cI, 48, .inl (fun uu => nI (sl uu)))), (a3, .inl (cI, 48, .inl co)), (a4, .inl (cZ, 48, .inl (fun uu => lc_bI (nt uu)))), (a5, .inl (cI, 48, .inl ho)), (a6, .inl (cI, 8, .inl fp)), (a7, .inl (cI, 5, .inl wh)), (a8, .inl (cI, 20, .inl he))]) rfl (by decide) rfl hl.1 rfl (Nat.le_of_ble_eq_true rfl) d_M_state_2 (fun H locs hP hD hS => ?_)
  refine zz_oI (fun h2 => ?_) (fun a h2 => ?_)
  · skip
    refine lv_istore_n (lv' := [(2, .int (-1)), (0, .ref g0), (1, .int x)]) hx hb d_M_state_5 rfl hl (by decide) rfl (fun ls hl => ?_)
    refine lv_iload_n hx hb d_M_state_6 rfl (lv_at hl 0 rfl) ?_
    refine lv_if_ge (tgt := 14) hx hb d_M_state_7 (by decide) (fun c7 => ?_) (fun c7 => ?_)
    · skip
      exact absurd c7 (by decide)
    · skip
      refine lv_iconst (v := nI 0) hx hb d_M_state_10 (by decide +kernel) ?_
      refine lv_goto (tgt := 43) hx hb d_M_state_11 (by decide) ?_
      refine zz_top (z := am_state nu sl co nt x) (by simp [am_state, *]) ?_
      exact hret _ _ _ _ d_M_state_43 hP hD hS
  · skip
    have ha := lm_find_lt h2
    have hsa := hs a ha.1
    refine lv_istore_n (lv' := [(2, .int (nI a)), (0, .ref g0), (1, .int x)]) hx hb d_M_state_5 rfl hl (by decide) rfl (fun ls hl => ?_)
    refine lv_iload_n hx hb d_M_state_6 rfl (lv_at hl 0 rfl) ?_
    refine lv_if_ge (tgt := 14) hx hb d_M_state_7 (by decide) (fun c7 => ?_) (fun c7 => ?_)
    · skip
      refine lv_aload_n hx hb d_M_state_14 rfl (lv_at hl 1 rfl) ?_
      refine va_get (D := D) (ci := 4) (v := .ref a3) (C := R_M) (T := F_M) (N := 12) hx hb hts i_M hown hK hP 0 rfl rfl 2 (by decide) (hts _ kw_178) (fun _ h9 => h9) rfl d_M_state_15 ?_
      refine lv_iload_n hx hb d_M_state_18 rfl (lv_at hl 0 rfl) ?_
      refine zz_iald hx hb hK hP 3 0 (f := co) rfl rfl (i := a) (by omega) (by omega) d_M_state_19 ?_
      refine lv_if_ne (tgt := 27) hx hb d_M_state_20 (by decide) (fun c20 => ?_) (fun c20 => ?_)
      · skip
        refine lv_iconst (v := nI 0) hx hb d_M_state_27 (by decide +kernel) ?_
        refine lv_aload_n hx hb d_M_state_28 rfl (lv_at hl 1 rfl) ?_
        refine va_get (D := D) (ci := 4) (v := .ref a4) (C := R_M) (T := F_M) (N := 12) hx hb hts i_M hown hK hP 0 rfl rfl 3 (by decide) (hts _ kw_179) (fun _ h9 => h9) rfl d_M_state_29 ?_
        refine lv_iload_n hx hb d_M_state_32 rfl (lv_at hl 0 rfl) ?_
        refine zz_zald hx hb hK hP 4 1 (f := (fun uu => lc_bI (nt uu))) rfl rfl (i := a) (by omega) (by omega) d_M_state_33 ?_
        refine zz_top (z := lc_bI (nt a)) rfl ?_
        refine zz_bI (fun h34 => ?_) (fun h34 => ?_)
        · skip
          refine zz_if_eq (tgt := 41) hx hb (by omega) d_M_state_34 (by decide) (fun c34 => ?_) (fun c34 => ?_)
          · skip
            exact absurd c34 (by omega)
          · skip
            refine lv_iconst (v := nI 2) hx hb d_M_state_37 (by decide +kernel) ?_
            refine lv_goto (tgt := 42) hx hb d_M_state_38 (by decide) ?_
            refine zz_iadd hx hb d_M_state_42 ?_
            refine zz_top (z := am_state nu sl co nt x) (by simp [am_state, *]) ?_
            exact hret _ _ _ _ d_M_state_43 hP hD hS
        · skip
          refine zz_if_eq (tgt := 41) hx hb (by omega) d_M_state_34 (by decide) (fun c34 => ?_) (fun c34 => ?_)
          · skip
            refine lv_iconst (v := nI 0) hx hb d_M_state_41 (by decide +kernel) ?_
            refine zz_iadd hx hb d_M_state_42 ?_
            refine zz_top (z := am_state nu sl co nt x) (by simp [am_state, *]) ?_
            exact hret _ _ _ _ d_M_state_43 hP hD hS
          · skip
            exact absurd c34 (by omega)
      · skip
        refine lv_iconst (v := nI 1) hx hb d_M_state_23 (by decide +kernel) ?_
        refine lv_goto (tgt := 28) hx hb d_M_state_24 (by decide) ?_
        refine lv_aload_n hx hb d_M_state_28 rfl (lv_at hl 1 rfl) ?_
        refine va_get (D := D) (ci := 4) (v := .ref a4) (C := R_M) (T := F_M) (N := 12) hx hb hts i_M hown hK hP 0 rfl rfl 3 (by decide) (hts _ kw_179) (fun _ h9 => h9) rfl d_M_state_29 ?_
        refine lv_iload_n hx hb d_M_state_32 rfl (lv_at hl 0 rfl) ?_
        refine zz_zald hx hb hK hP 4 1 (f := (fun uu => lc_bI (nt uu))) rfl rfl (i := a) (by omega) (by omega) d_M_state_33 ?_
        refine zz_top (z := lc_bI (nt a)) rfl ?_
        refine zz_bI (fun h34 => ?_) (fun h34 => ?_)
        · skip
          refine zz_if_eq (tgt := 41) hx hb (by omega) d_M_state_34 (by decide) (fun c34 => ?_) (fun c34 => ?_)
          · skip
            exact absurd c34 (by omega)
          · skip
            refine lv_iconst (v := nI 2) hx hb d_M_state_37 (by decide +kernel) ?_
            refine lv_goto (tgt := 42) hx hb d_M_state_38 (by decide) ?_
            refine zz_iadd hx hb d_M_state_42 ?_
            refine zz_top (z := am_state nu sl co nt x) (by simp [am_state, *]) ?_
            exact hret _ _ _ _ d_M_state_43 hP hD hS
        · skip
          refine zz_if_eq (tgt := 41) hx hb (by omega) d_M_state_34 (by decide) (fun c34 => ?_) (fun c34 => ?_)
          · skip
            refine lv_iconst (v := nI 0) hx hb d_M_state_41 (by decide +kernel) ?_
            refine zz_iadd hx hb d_M_state_42 ?_
            refine zz_top (z := am_state nu sl co nt x) (by simp [am_state, *]) ?_
            exact hret _ _ _ _ d_M_state_43 hP hD hS
          · skip
            exact absurd c34 (by omega)
    · skip
      exact absurd (nI_pos' (by omega)) c7
set_option maxHeartbeats 4000000 in
set_option maxRecDepth 100000 in
theorem c_M_log (l : Launch) (D : va_G) (cI : ClassId) (cZ : ClassId) (g0 : Nat) (a1 : Nat) (a2 : Nat) (a3 : Nat) (a4 : Nat) (a5 : Nat) (a6 : Nat) (a7 : Nat) (a8 : Nat) (nu : lc_A) (sl : Nat → Nat) (co : lc_A) (nt : Nat → Bool) (ho : lc_A) (md : Nat) (ht : Nat) (fp : lc_A) (en : Nat) (wh : lc_A) (he : lc_A) (rn : Int32)  : zz_MI l y_M_log b_M_log 1 .int ({ frames := 0, cells := 0, slots := 0, locals := 0 } : Room) D [(cI, .int), (cZ, .boolean)] [.ref g0] [(g0, .inr (4, [.ref a1, .ref a2, .ref a3, .ref a4, .ref a5, .int (nI md), .int (nI ht), .ref a6, .int (nI en), .ref a7, .ref a8, .int rn])), (a1, .inl (cI, 48, .inl nu)), (a2, .inl (cI, 48, .inl (fun uu => nI (sl uu)))), (a3, .inl (cI, 48, .inl co)), (a4, .inl (cZ, 48, .inl (fun uu => lc_bI (nt uu)))), (a5, .inl (cI, 48, .inl ho)), (a6, .inl (cI, 8, .inl fp)), (a7, .inl (cI, 5, .inl wh)), (a8, .inl (cI, 20, .inl he))] (nI en) [(g0, .inr (4, [.ref a1, .ref a2, .ref a3, .ref a4, .ref a5, .int (nI md), .int (nI ht), .ref a6, .int (nI en), .ref a7, .ref a8, .int rn])), (a1, .inl (cI, 48, .inl nu)), (a2, .inl (cI, 48, .inl (fun uu => nI (sl uu)))), (a3, .inl (cI, 48, .inl co)), (a4, .inl (cZ, 48, .inl (fun uu => lc_bI (nt uu)))), (a5, .inl (cI, 48, .inl ho)), (a6, .inl (cI, 8, .inl fp)), (a7, .inl (cI, 5, .inl wh)), (a8, .inl (cI, 20, .inl he))] := by
  refine zz_MI_of (by decide) (Nat.le_of_ble_eq_true rfl) (vp_nar_int _) ?_
  intro p e s m args below meth c A ls Q hx hb hml hown hts hK hP hD hS hA hl hret
  have hown : s.vm.findClass R_M = some m.cls := hown
  have hl : lv_has ls 1 [(0, .ref g0)] := hl
  refine lv_aload_n hx hb d_M_log_0 rfl (lv_at hl 0 rfl) ?_
  refine va_get (D := D) (ci := 4) (v := .int (nI en)) (C := R_M) (T := F_M) (N := 12) hx hb hts i_M hown hK hP 0 rfl rfl 8 (by decide) (hts _ kw_190) (fun _ h9 => h9) rfl d_M_log_1 ?_
  exact hret _ _ _ _ d_M_log_4 hP hD hS
set_option maxHeartbeats 4000000 in
set_option maxRecDepth 100000 in
theorem c_M_slotsOf (l : Launch) (D : va_G) (cI : ClassId) (cZ : ClassId) (g0 : Nat) (a1 : Nat) (a2 : Nat) (a3 : Nat) (a4 : Nat) (a5 : Nat) (a6 : Nat) (a7 : Nat) (a8 : Nat) (nu : lc_A) (sl : Nat → Nat) (co : lc_A) (nt : Nat → Bool) (ho : lc_A) (md : Nat) (ht : Nat) (fp : lc_A) (en : Nat) (wh : lc_A) (he : lc_A) (rn : Int32) (x : Int32) (hs : ∀ i, i < 48 → i + sl i < 48) : zz_MI l y_M_slotsOf b_M_slotsOf 3 .int ({ frames := 1, cells := 0, slots := 0, locals := 23 } : Room) D [(cI, .int), (cZ, .boolean)] [.ref g0, .int x] [(g0, .inr (4, [.ref a1, .ref a2, .ref a3, .ref a4, .ref a5, .int (nI md), .int (nI ht), .ref a6, .int (nI en), .ref a7, .ref a8, .int rn])), (a1, .inl (cI, 48, .inl nu)), (a2, .inl (cI, 48, .inl (fun uu => nI (sl uu)))), (a3, .inl (cI, 48, .inl co)), (a4, .inl (cZ, 48, .inl (fun uu => lc_bI (nt uu)))), (a5, .inl (cI, 48, .inl ho)), (a6, .inl (cI, 8, .inl fp)), (a7, .inl (cI, 5, .inl wh)), (a8, .inl (cI, 20, .inl he))] (nI (am_so nu sl x)) [(g0, .inr (4, [.ref a1, .ref a2, .ref a3, .ref a4, .ref a5, .int (nI md), .int (nI ht), .ref a6, .int (nI en), .ref a7, .ref a8, .int rn])), (a1, .inl (cI, 48, .inl nu)), (a2, .inl (cI, 48, .inl (fun uu => nI (sl uu)))), (a3, .inl (cI, 48, .inl co)), (a4, .inl (cZ, 48, .inl (fun uu => lc_bI (nt uu)))), (a5, .inl (cI, 48, .inl ho)), (a6, .inl (cI, 8, .inl fp)), (a7, .inl (cI, 5, .inl wh)), (a8, .inl (cI, 20, .inl he))] := by
  refine zz_MI_of (by decide) (Nat.le_of_ble_eq_true rfl) (vp_nar_int _) ?_
  intro p e s m args below meth c A ls Q hx hb hml hown hts hK hP hD hS hA hl hret
  have hown : s.vm.findClass R_M = some m.cls := hown
  have hl : lv_has ls 3 [(0, .ref g0), (1, .int x)] := hl
  refine lv_aload_n hx hb d_M_slotsOf_0 rfl (lv_at hl 0 rfl) ?_
  refine lv_iload_n hx hb d_M_slotsOf_1 rfl (lv_at hl 1 rfl) ?_
  refine zz_callI (np := 1) hx hb hml hown hts hK hP hD hS hA (c_M_find l D cI cZ g0 a1 a2 a3 a4 a5 a6 a7 a8 nu sl co nt ho md ht fp en wh he rn x hs) (zz_gv kw_224 kw_225 kw_226 kw_184 kc_223) (by decide +kernel) rfl rfl ⟨Nat.le_of_ble_eq_true rfl, Nat.le_of_ble_eq_true rfl⟩ ⟨Nat.zero_le _, Nat.zero_le _⟩ [0, 1] rfl 0 4 rfl rfl rfl [0, 1, 2, 3, 4, 5, 6, 7, 8] [] [0, 1, 2, 3, 4, 5, 6, 7, 8] rfl (by decide) (wr := []) rfl (by decide) (by decide) (ws' := [(g0, .inr (4, [.ref a1, .ref a2, .ref a3, .ref a4, .ref a5, .int (nI md), .int (nI ht), .ref a6, .int (nI en), .ref a7, .ref a8, .int rn])), (a1, .inl (cI, 48, .inl nu)), (a2, .inl (cI, 48, .inl (fun uu => nI (sl uu)))), (a3, .inl (cI, 48, .inl co)), (a4, .inl (cZ, 48, .inl (fun uu => lc_bI (nt uu)))), (a5, .inl (cI, 48, .inl ho)), (a6, .inl (cI, 8, .inl fp)), (a7, .inl (cI, 5, .inl wh)), (a8, .inl (cI, 20, .inl he))]) rfl (by decide) rfl hl.1 rfl (Nat.le_of_ble_eq_true rfl) d_M_slotsOf_2 (fun H locs hP hD hS => ?_)
  refine zz_oI (fun h2 => ?_) (fun a h2 => ?_)
  · skip
    refine lv_istore_n (lv' := [(2, .int (-1)), (0, .ref g0), (1, .int x)]) hx hb d_M_slotsOf_5 rfl hl (by decide) rfl (fun ls hl => ?_)
    refine lv_iload_n hx hb d_M_slotsOf_6 rfl (lv_at hl 0 rfl) ?_
    refine lv_if_ge (tgt := 14) hx hb d_M_slotsOf_7 (by decide) (fun c7 => ?_) (fun c7 => ?_)
    · skip
      exact absurd c7 (by decide)
    · skip
      refine lv_iconst (v := nI 0) hx hb d_M_slotsOf_10 (by decide +kernel) ?_
      refine lv_goto (tgt := 20) hx hb d_M_slotsOf_11 (by decide) ?_
      refine zz_top (z := nI (am_so nu sl x)) (by simp only [am_so, *]) ?_
      exact hret _ _ _ _ d_M_slotsOf_20 hP hD hS
  · skip
    have ha := lm_find_lt h2
    have hsa := hs a ha.1
    refine lv_istore_n (lv' := [(2, .int (nI a)), (0, .ref g0), (1, .int x)]) hx hb d_M_slotsOf_5 rfl hl (by decide) rfl (fun ls hl => ?_)
    refine lv_iload_n hx hb d_M_slotsOf_6 rfl (lv_at hl 0 rfl) ?_
    refine lv_if_ge (tgt := 14) hx hb d_M_slotsOf_7 (by decide) (fun c7 => ?_) (fun c7 => ?_)
    · skip
      refine lv_aload_n hx hb d_M_slotsOf_14 rfl (lv_at hl 1 rfl) ?_
      refine va_get (D := D) (ci := 4) (v := .ref a2) (C := R_M) (T := F_M) (N := 12) hx hb hts i_M hown hK hP 0 rfl rfl 1 (by decide) (hts _ kw_173) (fun _ h9 => h9) rfl d_M_slotsOf_15 ?_
      refine lv_iload_n hx hb d_M_slotsOf_18 rfl (lv_at hl 0 rfl) ?_
      refine zz_iald hx hb hK hP 2 0 (f := (fun uu => nI (sl uu))) rfl rfl (i := a) (by omega) (by omega) d_M_slotsOf_19 ?_
      refine zz_top (z := nI (sl a)) rfl ?_
      refine zz_top (z := nI (am_so nu sl x)) (by simp only [am_so, *]) ?_
      exact hret _ _ _ _ d_M_slotsOf_20 hP hD hS
    · skip
      exact absurd (nI_pos' (by omega)) c7
