set_option maxHeartbeats 4000000 in
set_option maxRecDepth 100000 in
theorem c_M_slotCell (l : Launch) (D : va_G) (cI : ClassId) (cZ : ClassId) (g0 : Nat) (a1 : Nat) (a2 : Nat) (a3 : Nat) (a4 : Nat) (a5 : Nat) (a6 : Nat) (a7 : Nat) (a8 : Nat) (nu : lc_A) (sl : Nat → Nat) (co : lc_A) (nt : Nat → Bool) (ho : lc_A) (md : Nat) (ht : Nat) (fp : lc_A) (en : Nat) (wh : lc_A) (he : lc_A) (rn : Int32) (x : Int32) (z : Int32) (hs : ∀ i, i < 48 → i + sl i < 48) (hht : ht ≤ 8) : zz_MI l y_M_slotCell b_M_slotCell 4 .int ({ frames := 2, cells := 0, slots := 0, locals := 43 } : Room) D [(cI, .int), (cZ, .boolean)] [.ref g0, .int x, .int z] [(g0, .inr (4, [.ref a1, .ref a2, .ref a3, .ref a4, .ref a5, .int (nI md), .int (nI ht), .ref a6, .int (nI en), .ref a7, .ref a8, .int rn])), (a1, .inl (cI, 48, .inl nu)), (a2, .inl (cI, 48, .inl (fun uu => nI (sl uu)))), (a3, .inl (cI, 48, .inl co)), (a4, .inl (cZ, 48, .inl (fun uu => lc_bI (nt uu)))), (a5, .inl (cI, 48, .inl ho)), (a6, .inl (cI, 8, .inl fp)), (a7, .inl (cI, 5, .inl wh)), (a8, .inl (cI, 20, .inl he))] (lc_oI ((lm_slotc nu sl fp ht x z).map (fun q => q.1 + 1 + q.2))) [(g0, .inr (4, [.ref a1, .ref a2, .ref a3, .ref a4, .ref a5, .int (nI md), .int (nI ht), .ref a6, .int (nI en), .ref a7, .ref a8, .int rn])), (a1, .inl (cI, 48, .inl nu)), (a2, .inl (cI, 48, .inl (fun uu => nI (sl uu)))), (a3, .inl (cI, 48, .inl co)), (a4, .inl (cZ, 48, .inl (fun uu => lc_bI (nt uu)))), (a5, .inl (cI, 48, .inl ho)), (a6, .inl (cI, 8, .inl fp)), (a7, .inl (cI, 5, .inl wh)), (a8, .inl (cI, 20, .inl he))] := by
  refine zz_MI_of (by decide) (Nat.le_of_ble_eq_true rfl) (vp_nar_int _) ?_
  intro p e s m args below meth c A ls Q hx hb hml hown hts hK hP hD hS hA hl hret
  have hown : s.vm.findClass R_M = some m.cls := hown
  have hl : lv_has ls 4 [(0, .ref g0), (1, .int x), (2, .int z)] := hl
  refine lv_aload_n hx hb d_M_slotCell_0 rfl (lv_at hl 0 rfl) ?_
  refine lv_iload_n hx hb d_M_slotCell_1 rfl (lv_at hl 1 rfl) ?_
  refine zz_callI (np := 1) hx hb hml hown hts hK hP hD hS hA (c_M_isPlace l D cI cZ g0 a1 a2 a3 a4 a5 a6 a7 a8 nu sl co nt ho md ht fp en wh he rn x (by omega)) (zz_gv kw_220 kw_221 kw_222 kw_184 kc_219) (by decide +kernel) rfl rfl ⟨Nat.le_of_ble_eq_true rfl, Nat.le_of_ble_eq_true rfl⟩ ⟨Nat.zero_le _, Nat.zero_le _⟩ [0, 1] rfl 0 4 rfl rfl rfl [0, 1, 2, 3, 4, 5, 6, 7, 8] [] [0, 1, 2, 3, 4, 5, 6, 7, 8] rfl (by decide) (wr := []) rfl (by decide) (by decide) (ws' := [(g0, .inr (4, [.ref a1, .ref a2, .ref a3, .ref a4, .ref a5, .int (nI md), .int (nI ht), .ref a6, .int (nI en), .ref a7, .ref a8, .int rn])), (a1, .inl (cI, 48, .inl nu)), (a2, .inl (cI, 48, .inl (fun uu => nI (sl uu)))), (a3, .inl (cI, 48, .inl co)), (a4, .inl (cZ, 48, .inl (fun uu => lc_bI (nt uu)))), (a5, .inl (cI, 48, .inl ho)), (a6, .inl (cI, 8, .inl fp)), (a7, .inl (cI, 5, .inl wh)), (a8, .inl (cI, 20, .inl he))]) rfl (by decide) rfl hl.1 rfl (Nat.le_of_ble_eq_true rfl) d_M_slotCell_2 (fun H locs hP hD hS => ?_)
  refine zz_pl (x := x) (n := ht) (by omega) (fun h2 => ?_) (fun k hj2 ex2 h2 => ?_)
  · skip
    refine zz_if_eq (tgt := 30) hx hb (by omega) d_M_slotCell_5 (by decide) (fun c5 => ?_) (fun c5 => ?_)
    · skip
      refine lv_iconst (v := (-1)) hx hb d_M_slotCell_30 (by decide +kernel) ?_
      refine lv_istore_n (lv' := [(3, .int (-1)), (0, .ref g0), (1, .int x), (2, .int z)]) hx hb d_M_slotCell_31 rfl hl (by decide) rfl (fun ls hl => ?_)
      refine lv_iload_n hx hb d_M_slotCell_32 rfl (lv_at hl 0 rfl) ?_
      refine lv_if_lt (tgt := 60) hx hb d_M_slotCell_33 (by decide) (fun c33 => ?_) (fun c33 => ?_)
      · skip
        refine lv_iconst (v := (-1)) hx hb d_M_slotCell_60 (by decide +kernel) ?_
        refine zz_top (z := lc_oI ((lm_slotc nu sl fp ht x z).map (fun q => q.1 + 1 + q.2))) (by simp [lm_slotc, lc_oI, *]) ?_
        exact hret _ _ _ _ d_M_slotCell_61 hP hD hS
      · skip
        exact absurd c33 (by decide)
    · skip
      exact absurd c5 (by omega)
  · skip
    subst ex2
    refine zz_if_eq (tgt := 30) hx hb (by omega) d_M_slotCell_5 (by decide) (fun c5 => ?_) (fun c5 => ?_)
    · skip
      exact absurd c5 (by omega)
    · skip
      refine lv_aload_n hx hb d_M_slotCell_8 rfl (lv_at hl 0 rfl) ?_
      refine va_get (D := D) (ci := 4) (v := .ref a6) (C := R_M) (T := F_M) (N := 12) hx hb hts i_M hown hK hP 0 rfl rfl 7 (by decide) (hts _ kw_177) (fun _ h9 => h9) rfl d_M_slotCell_9 ?_
      refine lv_iload_n hx hb d_M_slotCell_12 rfl (lv_at hl 1 rfl) ?_
      refine zz_iald hx hb hK hP 6 0 (f := fp) rfl rfl (i := k) (by omega) (by omega) d_M_slotCell_13 ?_
      refine lv_if_le (tgt := 30) hx hb d_M_slotCell_14 (by decide) (fun c14 => ?_) (fun c14 => ?_)
      · skip
        have cp : ¬ 0 < fp k := Int32.not_lt.mpr c14
        refine lv_iconst (v := (-1)) hx hb d_M_slotCell_30 (by decide +kernel) ?_
        refine lv_istore_n (lv' := [(3, .int (-1)), (0, .ref g0), (1, .int (nI k)), (2, .int z)]) hx hb d_M_slotCell_31 rfl hl (by decide) rfl (fun ls hl => ?_)
        refine lv_iload_n hx hb d_M_slotCell_32 rfl (lv_at hl 0 rfl) ?_
        refine lv_if_lt (tgt := 60) hx hb d_M_slotCell_33 (by decide) (fun c33 => ?_) (fun c33 => ?_)
        · skip
          refine lv_iconst (v := (-1)) hx hb d_M_slotCell_60 (by decide +kernel) ?_
          refine zz_top (z := lc_oI ((lm_slotc nu sl fp ht (nI k) z).map (fun q => q.1 + 1 + q.2))) (by simp [lm_slotc, lc_oI, *]) ?_
          exact hret _ _ _ _ d_M_slotCell_61 hP hD hS
        · skip
          exact absurd c33 (by decide)
      · skip
        have cp : 0 < fp k := Int32.not_le.mp c14
        refine lv_aload_n hx hb d_M_slotCell_17 rfl (lv_at hl 0 rfl) ?_
        refine lv_aload_n hx hb d_M_slotCell_18 rfl (lv_at hl 0 rfl) ?_
        refine va_get (D := D) (ci := 4) (v := .ref a6) (C := R_M) (T := F_M) (N := 12) hx hb hts i_M hown hK hP 0 rfl rfl 7 (by decide) (hts _ kw_177) (fun _ h9 => h9) rfl d_M_slotCell_19 ?_
        refine lv_iload_n hx hb d_M_slotCell_22 rfl (lv_at hl 1 rfl) ?_
        refine zz_iald hx hb hK hP 6 0 (f := fp) rfl rfl (i := k) (by omega) (by omega) d_M_slotCell_23 ?_
        refine zz_callI (np := 1) hx hb hml hown hts hK hP hD hS hA (c_M_find l D cI cZ g0 a1 a2 a3 a4 a5 a6 a7 a8 nu sl co nt ho md ht fp en wh he rn (fp k) hs) (zz_gv kw_224 kw_225 kw_226 kw_184 kc_223) (by decide +kernel) rfl rfl ⟨Nat.le_of_ble_eq_true rfl, Nat.le_of_ble_eq_true rfl⟩ ⟨Nat.zero_le _, Nat.zero_le _⟩ [0, 1] rfl 0 4 rfl rfl rfl [0, 1, 2, 3, 4, 5, 6, 7, 8] [] [0, 1, 2, 3, 4, 5, 6, 7, 8] rfl (by decide) (wr := []) rfl (by decide) (by decide) (ws' := [(g0, .inr (4, [.ref a1, .ref a2, .ref a3, .ref a4, .ref a5, .int (nI md), .int (nI ht), .ref a6, .int (nI en), .ref a7, .ref a8, .int rn])), (a1, .inl (cI, 48, .inl nu)), (a2, .inl (cI, 48, .inl (fun uu => nI (sl uu)))), (a3, .inl (cI, 48, .inl co)), (a4, .inl (cZ, 48, .inl (fun uu => lc_bI (nt uu)))), (a5, .inl (cI, 48, .inl ho)), (a6, .inl (cI, 8, .inl fp)), (a7, .inl (cI, 5, .inl wh)), (a8, .inl (cI, 20, .inl he))]) rfl (by decide) rfl hl.1 rfl (Nat.le_of_ble_eq_true rfl) d_M_slotCell_24 (fun H locs hP hD hS => ?_)
        refine zz_oI (fun h24 => ?_) (fun a h24 => ?_)
        · skip
          refine lv_goto (tgt := 31) hx hb d_M_slotCell_27 (by decide) ?_
          refine lv_istore_n (lv' := [(3, .int (-1)), (0, .ref g0), (1, .int (nI k)), (2, .int z)]) hx hb d_M_slotCell_31 rfl hl (by decide) rfl (fun ls hl => ?_)
          refine lv_iload_n hx hb d_M_slotCell_32 rfl (lv_at hl 0 rfl) ?_
          refine lv_if_lt (tgt := 60) hx hb d_M_slotCell_33 (by decide) (fun c33 => ?_) (fun c33 => ?_)
          · skip
            refine lv_iconst (v := (-1)) hx hb d_M_slotCell_60 (by decide +kernel) ?_
            refine zz_top (z := lc_oI ((lm_slotc nu sl fp ht (nI k) z).map (fun q => q.1 + 1 + q.2))) (by simp [lm_slotc, lc_oI, *]) ?_
            exact hret _ _ _ _ d_M_slotCell_61 hP hD hS
          · skip
            exact absurd c33 (by decide)
        · skip
          have ha := lm_find_lt h24
          have hsa := hs a ha.1
          refine lv_goto (tgt := 31) hx hb d_M_slotCell_27 (by decide) ?_
          refine lv_istore_n (lv' := [(3, .int (nI a)), (0, .ref g0), (1, .int (nI k)), (2, .int z)]) hx hb d_M_slotCell_31 rfl hl (by decide) rfl (fun ls hl => ?_)
          refine lv_iload_n hx hb d_M_slotCell_32 rfl (lv_at hl 0 rfl) ?_
          refine lv_if_lt (tgt := 60) hx hb d_M_slotCell_33 (by decide) (fun c33 => ?_) (fun c33 => ?_)
          · skip
            exact absurd c33 (nI_pos (by omega))
          · skip
            refine lv_iload_n hx hb d_M_slotCell_36 rfl (lv_at hl 3 rfl) ?_
            refine lv_iconst (v := nI 0) hx hb d_M_slotCell_37 (by decide +kernel) ?_
            refine lv_aload_n hx hb d_M_slotCell_38 rfl (lv_at hl 1 rfl) ?_
            refine va_get (D := D) (ci := 4) (v := .ref a2) (C := R_M) (T := F_M) (N := 12) hx hb hts i_M hown hK hP 0 rfl rfl 1 (by decide) (hts _ kw_173) (fun _ h9 => h9) rfl d_M_slotCell_39 ?_
            refine lv_iload_n hx hb d_M_slotCell_42 rfl (lv_at hl 0 rfl) ?_
            refine zz_iald hx hb hK hP 2 0 (f := (fun uu => nI (sl uu))) rfl rfl (i := a) (by omega) (by omega) d_M_slotCell_43 ?_
            refine zz_top (z := nI (sl a)) rfl ?_
            refine lv_iconst (v := nI 1) hx hb d_M_slotCell_44 (by decide +kernel) ?_
            refine lv_isub hx hb d_M_slotCell_45 ?_
            refine zz_callS (np := 3) hx hb hml hown hts hK hP hD hS hA (c_M_within l D z (nI 0) ((nI (sl a)) - (nI 1)) ) (zz_gs kw_208 kw_209 kw_184 kc_207) (by decide +kernel) rfl rfl ⟨Nat.le_of_ble_eq_true rfl, Nat.le_of_ble_eq_true rfl⟩ ⟨Nat.zero_le _, Nat.zero_le _⟩ [0, 1, 2, 3, 4, 5, 6, 7, 8] rfl (by decide) rfl hl.1 rfl (Nat.le_of_ble_eq_true rfl) d_M_slotCell_46 (fun H locs hP hD hS => ?_)
            refine zz_top (z := lc_bI (lc_pl z (sl a)).isSome) (lc_within_pl (by omega)) ?_
            refine zz_pl (x := z) (n := sl a) (by omega) (fun h46 => ?_) (fun j hj46 ex46 h46 => ?_)
            · skip
              refine zz_if_eq (tgt := 60) hx hb (by omega) d_M_slotCell_49 (by decide) (fun c49 => ?_) (fun c49 => ?_)
              · skip
                refine lv_iconst (v := (-1)) hx hb d_M_slotCell_60 (by decide +kernel) ?_
                refine zz_top (z := lc_oI ((lm_slotc nu sl fp ht (nI k) z).map (fun q => q.1 + 1 + q.2))) (by simp [lm_slotc, lc_oI, *]) ?_
                exact hret _ _ _ _ d_M_slotCell_61 hP hD hS
              · skip
                exact absurd c49 (by omega)
            · skip
              subst ex46
              refine zz_if_eq (tgt := 60) hx hb (by omega) d_M_slotCell_49 (by decide) (fun c49 => ?_) (fun c49 => ?_)
              · skip
                exact absurd c49 (by omega)
              · skip
                refine lv_iload_n hx hb d_M_slotCell_52 rfl (lv_at hl 0 rfl) ?_
                refine lv_iconst (v := nI 1) hx hb d_M_slotCell_53 (by decide +kernel) ?_
                refine zz_iadd hx hb d_M_slotCell_54 ?_
                refine lv_iload_n hx hb d_M_slotCell_55 rfl (lv_at hl 3 rfl) ?_
                refine zz_iadd hx hb d_M_slotCell_56 ?_
                refine lv_goto (tgt := 61) hx hb d_M_slotCell_57 (by decide) ?_
                refine zz_top (z := lc_oI ((lm_slotc nu sl fp ht (nI k) (nI j)).map (fun q => q.1 + 1 + q.2))) (by simp [lm_slotc, lc_oI, *]) ?_
                exact hret _ _ _ _ d_M_slotCell_61 hP hD hS
