set_option maxHeartbeats 4000000 in
set_option maxRecDepth 100000 in
theorem c_M_entry (l : Launch) (D : va_G) (cI : ClassId) (cZ : ClassId) (g0 : Nat) (a1 : Nat) (a2 : Nat) (a3 : Nat) (a4 : Nat) (a5 : Nat) (a6 : Nat) (a7 : Nat) (a8 : Nat) (nu : lc_A) (sl : Nat → Nat) (co : lc_A) (nt : Nat → Bool) (ho : lc_A) (md : Nat) (ht : Nat) (fp : lc_A) (en : Nat) (wh : lc_A) (he : lc_A) (rn : Int32) (x : Int32) (z : Int32) (hs : ∀ i, i < 48 → i + sl i < 48) (hen : en ≤ 5) (h4 : ∀ k, k < en → am_so nu sl (wh k) ≤ 4) : zz_MI l y_M_entry b_M_entry 3 .int ({ frames := 2, cells := 0, slots := 0, locals := 45 } : Room) D [(cI, .int), (cZ, .boolean)] [.ref g0, .int x, .int z] [(g0, .inr (4, [.ref a1, .ref a2, .ref a3, .ref a4, .ref a5, .int (nI md), .int (nI ht), .ref a6, .int (nI en), .ref a7, .ref a8, .int rn])), (a1, .inl (cI, 48, .inl nu)), (a2, .inl (cI, 48, .inl (fun uu => nI (sl uu)))), (a3, .inl (cI, 48, .inl co)), (a4, .inl (cZ, 48, .inl (fun uu => lc_bI (nt uu)))), (a5, .inl (cI, 48, .inl ho)), (a6, .inl (cI, 8, .inl fp)), (a7, .inl (cI, 5, .inl wh)), (a8, .inl (cI, 20, .inl he))] (am_entry nu sl wh he en x z) [(g0, .inr (4, [.ref a1, .ref a2, .ref a3, .ref a4, .ref a5, .int (nI md), .int (nI ht), .ref a6, .int (nI en), .ref a7, .ref a8, .int rn])), (a1, .inl (cI, 48, .inl nu)), (a2, .inl (cI, 48, .inl (fun uu => nI (sl uu)))), (a3, .inl (cI, 48, .inl co)), (a4, .inl (cZ, 48, .inl (fun uu => lc_bI (nt uu)))), (a5, .inl (cI, 48, .inl ho)), (a6, .inl (cI, 8, .inl fp)), (a7, .inl (cI, 5, .inl wh)), (a8, .inl (cI, 20, .inl he))] := by
  refine zz_MI_of (by decide) (Nat.le_of_ble_eq_true rfl) (vp_nar_int _) ?_
  intro p e s m args below meth c A ls Q hx hb hml hown hts hK hP hD hS hA hl hret
  have hown : s.vm.findClass R_M = some m.cls := hown
  have hl : lv_has ls 3 [(0, .ref g0), (1, .int x), (2, .int z)] := hl
  refine lv_iload_n hx hb d_M_entry_0 rfl (lv_at hl 1 rfl) ?_
  refine lv_iconst (v := nI 0) hx hb d_M_entry_1 (by decide +kernel) ?_
  refine lv_aload_n hx hb d_M_entry_2 rfl (lv_at hl 0 rfl) ?_
  refine va_get (D := D) (ci := 4) (v := .int (nI en)) (C := R_M) (T := F_M) (N := 12) hx hb hts i_M hown hK hP 0 rfl rfl 8 (by decide) (hts _ kw_190) (fun _ h9 => h9) rfl d_M_entry_3 ?_
  refine lv_iconst (v := nI 1) hx hb d_M_entry_6 (by decide +kernel) ?_
  refine lv_isub hx hb d_M_entry_7 ?_
  refine zz_callS (np := 3) hx hb hml hown hts hK hP hD hS hA (c_M_within l D x (nI 0) ((nI en) - (nI 1)) ) (zz_gs kw_208 kw_209 kw_184 kc_207) (by decide +kernel) rfl rfl ⟨Nat.le_of_ble_eq_true rfl, Nat.le_of_ble_eq_true rfl⟩ ⟨Nat.zero_le _, Nat.zero_le _⟩ [0, 1, 2, 3, 4, 5, 6, 7, 8] rfl (by decide) rfl hl.1 rfl (Nat.le_of_ble_eq_true rfl) d_M_entry_8 (fun H locs hP hD hS => ?_)
  refine zz_top (z := lc_bI (lc_pl x en).isSome) (lc_within_pl (by omega)) ?_
  refine zz_pl (x := x) (n := en) (by omega) (fun h8 => ?_) (fun k hj8 ex8 h8 => ?_)
  · skip
    refine zz_if_eq (tgt := 39) hx hb (by omega) d_M_entry_11 (by decide) (fun c11 => ?_) (fun c11 => ?_)
    · skip
      refine lv_iconst (v := (-1)) hx hb d_M_entry_39 (by decide +kernel) ?_
      refine zz_top (z := am_entry nu sl wh he en x z) (by first | (simp only [am_entry, h8]; done) | (simp only [am_entry, h8, if_neg c16, h33]; done) | (simp [am_entry, h8]; done)) ?_
      exact hret _ _ _ _ d_M_entry_40 hP hD hS
    · skip
      exact absurd c11 (by omega)
  · skip
    subst ex8
    refine zz_if_eq (tgt := 39) hx hb (by omega) d_M_entry_11 (by decide) (fun c11 => ?_) (fun c11 => ?_)
    · skip
      exact absurd c11 (by omega)
    · skip
      refine lv_iload_n hx hb d_M_entry_14 rfl (lv_at hl 2 rfl) ?_
      refine lv_iconst (v := (-1)) hx hb d_M_entry_15 (by decide +kernel) ?_
      refine lv_icmp_eq (tgt := 41) hx hb d_M_entry_16 (by decide) (fun c16 => ?_) (fun c16 => ?_)
      · skip
        subst c16
        refine lv_iload_n hx hb d_M_entry_41 rfl (lv_at hl 2 rfl) ?_
        refine lv_if_ge (tgt := 54) hx hb d_M_entry_42 (by decide) (fun c42 => ?_) (fun c42 => ?_)
        · skip
          exact absurd c42 (by decide)
        · skip
          refine lv_aload_n hx hb d_M_entry_45 rfl (lv_at hl 0 rfl) ?_
          refine va_get (D := D) (ci := 4) (v := .ref a7) (C := R_M) (T := F_M) (N := 12) hx hb hts i_M hown hK hP 0 rfl rfl 9 (by decide) (hts _ kw_231) (fun _ h9 => h9) rfl d_M_entry_46 ?_
          refine lv_iload_n hx hb d_M_entry_49 rfl (lv_at hl 1 rfl) ?_
          refine zz_iald hx hb hK hP 7 0 (f := wh) rfl rfl (i := k) (by omega) (by omega) d_M_entry_50 ?_
          refine lv_goto (tgt := 64) hx hb d_M_entry_51 (by decide) ?_
          refine zz_top (z := am_entry nu sl wh he en (nI k) (-1)) (by first | (simp only [am_entry, h8]; done) | (simp only [am_entry, h8, if_neg c16, h33]; done) | (simp [am_entry, h8]; done)) ?_
          exact hret _ _ _ _ d_M_entry_64 hP hD hS
      · skip
        refine lv_iload_n hx hb d_M_entry_19 rfl (lv_at hl 2 rfl) ?_
        refine lv_iconst (v := nI 0) hx hb d_M_entry_20 (by decide +kernel) ?_
        refine lv_aload_n hx hb d_M_entry_21 rfl (lv_at hl 0 rfl) ?_
        refine lv_aload_n hx hb d_M_entry_22 rfl (lv_at hl 0 rfl) ?_
        refine va_get (D := D) (ci := 4) (v := .ref a7) (C := R_M) (T := F_M) (N := 12) hx hb hts i_M hown hK hP 0 rfl rfl 9 (by decide) (hts _ kw_231) (fun _ h9 => h9) rfl d_M_entry_23 ?_
        refine lv_iload_n hx hb d_M_entry_26 rfl (lv_at hl 1 rfl) ?_
        refine zz_iald hx hb hK hP 7 0 (f := wh) rfl rfl (i := k) (by omega) (by omega) d_M_entry_27 ?_
        refine zz_callI (np := 1) hx hb hml hown hts hK hP hD hS hA (c_M_slotsOf l D cI cZ g0 a1 a2 a3 a4 a5 a6 a7 a8 nu sl co nt ho md ht fp en wh he rn (wh k) hs) (zz_gv kw_242 kw_243 kw_244 kw_184 kc_241) (by decide +kernel) rfl rfl ⟨Nat.le_of_ble_eq_true rfl, Nat.le_of_ble_eq_true rfl⟩ ⟨Nat.zero_le _, Nat.zero_le _⟩ [0, 1] rfl 0 4 rfl rfl rfl [0, 1, 2, 3, 4, 5, 6, 7, 8] [] [0, 1, 2, 3, 4, 5, 6, 7, 8] rfl (by decide) (wr := []) rfl (by decide) (by decide) (ws' := [(g0, .inr (4, [.ref a1, .ref a2, .ref a3, .ref a4, .ref a5, .int (nI md), .int (nI ht), .ref a6, .int (nI en), .ref a7, .ref a8, .int rn])), (a1, .inl (cI, 48, .inl nu)), (a2, .inl (cI, 48, .inl (fun uu => nI (sl uu)))), (a3, .inl (cI, 48, .inl co)), (a4, .inl (cZ, 48, .inl (fun uu => lc_bI (nt uu)))), (a5, .inl (cI, 48, .inl ho)), (a6, .inl (cI, 8, .inl fp)), (a7, .inl (cI, 5, .inl wh)), (a8, .inl (cI, 20, .inl he))]) rfl (by decide) rfl hl.1 rfl (Nat.le_of_ble_eq_true rfl) d_M_entry_28 (fun H locs hP hD hS => ?_)
        have hso := h4 k (by omega)
        refine lv_iconst (v := nI 1) hx hb d_M_entry_31 (by decide +kernel) ?_
        refine lv_isub hx hb d_M_entry_32 ?_
        refine zz_callS (np := 3) hx hb hml hown hts hK hP hD hS hA (c_M_within l D z (nI 0) ((nI (am_so nu sl (wh k))) - (nI 1)) ) (zz_gs kw_208 kw_209 kw_184 kc_207) (by decide +kernel) rfl rfl ⟨Nat.le_of_ble_eq_true rfl, Nat.le_of_ble_eq_true rfl⟩ ⟨Nat.zero_le _, Nat.zero_le _⟩ [0, 1, 2, 3, 4, 5, 6, 7, 8] rfl (by decide) rfl hl.1 rfl (Nat.le_of_ble_eq_true rfl) d_M_entry_33 (fun H locs hP hD hS => ?_)
        refine zz_top (z := lc_bI (lc_pl z (am_so nu sl (wh k))).isSome) (lc_within_pl (by omega)) ?_
        refine zz_pl (x := z) (n := am_so nu sl (wh k)) (by omega) (fun h33 => ?_) (fun j hj33 ex33 h33 => ?_)
        · skip
          refine zz_if_ne (tgt := 41) hx hb (by omega) d_M_entry_36 (by decide) (fun c36 => ?_) (fun c36 => ?_)
          · skip
            exact absurd c36 (by omega)
          · skip
            refine lv_iconst (v := (-1)) hx hb d_M_entry_39 (by decide +kernel) ?_
            refine zz_top (z := am_entry nu sl wh he en (nI k) z) (by first | (simp only [am_entry, h8]; done) | (simp only [am_entry, h8, if_neg c16, h33]; done) | (simp [am_entry, h8]; done)) ?_
            exact hret _ _ _ _ d_M_entry_40 hP hD hS
        · skip
          subst ex33
          refine zz_if_ne (tgt := 41) hx hb (by omega) d_M_entry_36 (by decide) (fun c36 => ?_) (fun c36 => ?_)
          · skip
            refine lv_iload_n hx hb d_M_entry_41 rfl (lv_at hl 2 rfl) ?_
            refine lv_if_ge (tgt := 54) hx hb d_M_entry_42 (by decide) (fun c42 => ?_) (fun c42 => ?_)
            · skip
              refine lv_aload_n hx hb d_M_entry_54 rfl (lv_at hl 0 rfl) ?_
              refine va_get (D := D) (ci := 4) (v := .ref a8) (C := R_M) (T := F_M) (N := 12) hx hb hts i_M hown hK hP 0 rfl rfl 10 (by decide) (hts _ kw_232) (fun _ h9 => h9) rfl d_M_entry_55 ?_
              refine lv_iconst (v := nI 4) hx hb d_M_entry_58 (by decide +kernel) ?_
              refine lv_iload_n hx hb d_M_entry_59 rfl (lv_at hl 1 rfl) ?_
              refine zz_imul hx hb d_M_entry_60 ?_
              refine lv_iload_n hx hb d_M_entry_61 rfl (lv_at hl 2 rfl) ?_
              refine zz_iadd hx hb d_M_entry_62 ?_
              refine zz_iald hx hb hK hP 8 0 (f := he) rfl rfl (i := (4 * k) + j) (by omega) (by omega) d_M_entry_63 ?_
              refine zz_top (z := am_entry nu sl wh he en (nI k) (nI j)) (by first | (simp only [am_entry, h8]; done) | (simp only [am_entry, h8, if_neg c16, h33]; done) | (simp [am_entry, h8]; done)) ?_
              exact hret _ _ _ _ d_M_entry_64 hP hD hS
            · skip
              exact absurd (nI_pos' (by omega)) c42
          · skip
            exact absurd c36 (by omega)
