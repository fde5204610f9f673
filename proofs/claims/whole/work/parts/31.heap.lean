set_option maxHeartbeats 4000000 in
set_option maxRecDepth 100000 in
theorem c_Heap_objectIn (l : Launch) (D : va_G) (cI : ClassId) (hp : Nat) (ow : Nat) (wo : Nat) (fo : lc_A) (fw : lc_A) (md : Nat) (i : Nat) (hi : i < 48) : zz_MI l y_Heap_objectIn b_Heap_objectIn 2 .int ({ frames := 0, cells := 0, slots := 0, locals := 0 } : Room) D [(cI, .int)] [.ref hp, .int (nI i)] [(hp, .inr (1, [.ref ow, .ref wo, .int (nI md)])), (ow, .inl (cI, 48, .inl fo)), (wo, .inl (cI, 48, .inl fw))] (fo i) [(hp, .inr (1, [.ref ow, .ref wo, .int (nI md)])), (ow, .inl (cI, 48, .inl fo)), (wo, .inl (cI, 48, .inl fw))] := by
  refine zz_MI_of (by decide) (Nat.le_of_ble_eq_true rfl) (vp_nar_int _) ?_
  intro p e s m args below meth c A ls Q hx hb hml hown hts hK hP hD hS hA hl hret
  have hown : s.vm.findClass R_Heap = some m.cls := hown
  have hl : lv_has ls 2 [(0, .ref hp), (1, .int (nI i))] := hl
  refine lv_aload_n hx hb d_Heap_objectIn_0 rfl (lv_at hl 0 rfl) ?_
  refine va_get (D := D) (ci := 1) (v := .ref ow) (C := R_Heap) (T := F_Heap) (N := 3) hx hb hts i_Heap hown hK hP 0 rfl rfl 0 (by decide) (hts _ kw_0) (fun _ h9 => h9) rfl d_Heap_objectIn_1 ?_
  refine lv_iload_n hx hb d_Heap_objectIn_4 rfl (lv_at hl 1 rfl) ?_
  refine zz_iald hx hb hK hP 1 0 (f := fo) rfl rfl (i := i) (by omega) (by omega) d_Heap_objectIn_5 ?_
  exact hret _ _ _ _ d_Heap_objectIn_6 hP hD hS
set_option maxHeartbeats 4000000 in
set_option maxRecDepth 100000 in
theorem c_Heap_countAt (l : Launch) (D : va_G) (cI : ClassId) (hp : Nat) (ow : Nat) (wo : Nat) (fo : lc_A) (fw : lc_A) (md : Nat) (i : Nat) (hi : i < 48) : zz_MI l y_Heap_countAt b_Heap_countAt 2 .int ({ frames := 0, cells := 0, slots := 0, locals := 0 } : Room) D [(cI, .int)] [.ref hp, .int (nI i)] [(hp, .inr (1, [.ref ow, .ref wo, .int (nI md)])), (ow, .inl (cI, 48, .inl fo)), (wo, .inl (cI, 48, .inl fw))] (fw i) [(hp, .inr (1, [.ref ow, .ref wo, .int (nI md)])), (ow, .inl (cI, 48, .inl fo)), (wo, .inl (cI, 48, .inl fw))] := by
  refine zz_MI_of (by decide) (Nat.le_of_ble_eq_true rfl) (vp_nar_int _) ?_
  intro p e s m args below meth c A ls Q hx hb hml hown hts hK hP hD hS hA hl hret
  have hown : s.vm.findClass R_Heap = some m.cls := hown
  have hl : lv_has ls 2 [(0, .ref hp), (1, .int (nI i))] := hl
  refine lv_aload_n hx hb d_Heap_countAt_0 rfl (lv_at hl 0 rfl) ?_
  refine va_get (D := D) (ci := 1) (v := .ref wo) (C := R_Heap) (T := F_Heap) (N := 3) hx hb hts i_Heap hown hK hP 0 rfl rfl 1 (by decide) (hts _ kw_1) (fun _ h9 => h9) rfl d_Heap_countAt_1 ?_
  refine lv_iload_n hx hb d_Heap_countAt_4 rfl (lv_at hl 1 rfl) ?_
  refine zz_iald hx hb hK hP 2 0 (f := fw) rfl rfl (i := i) (by omega) (by omega) d_Heap_countAt_5 ?_
  exact hret _ _ _ _ d_Heap_countAt_6 hP hD hS
set_option maxHeartbeats 4000000 in
set_option maxRecDepth 100000 in
theorem c_Heap_inSlot (l : Launch) (D : va_G) (cI : ClassId) (hp : Nat) (ow : Nat) (wo : Nat) (fo : lc_A) (fw : lc_A) (md : Nat) (a : Nat) (j : Nat) (hi : a + 1 + j < 48) : zz_MI l y_Heap_inSlot b_Heap_inSlot 3 .int ({ frames := 0, cells := 0, slots := 0, locals := 0 } : Room) D [(cI, .int)] [.ref hp, .int (nI a), .int (nI j)] [(hp, .inr (1, [.ref ow, .ref wo, .int (nI md)])), (ow, .inl (cI, 48, .inl fo)), (wo, .inl (cI, 48, .inl fw))] (fw (a + 1 + j)) [(hp, .inr (1, [.ref ow, .ref wo, .int (nI md)])), (ow, .inl (cI, 48, .inl fo)), (wo, .inl (cI, 48, .inl fw))] := by
  refine zz_MI_of (by decide) (Nat.le_of_ble_eq_true rfl) (vp_nar_int _) ?_
  intro p e s m args below meth c A ls Q hx hb hml hown hts hK hP hD hS hA hl hret
  have hown : s.vm.findClass R_Heap = some m.cls := hown
  have hl : lv_has ls 3 [(0, .ref hp), (1, .int (nI a)), (2, .int (nI j))] := hl
  refine lv_aload_n hx hb d_Heap_inSlot_0 rfl (lv_at hl 0 rfl) ?_
  refine va_get (D := D) (ci := 1) (v := .ref wo) (C := R_Heap) (T := F_Heap) (N := 3) hx hb hts i_Heap hown hK hP 0 rfl rfl 1 (by decide) (hts _ kw_1) (fun _ h9 => h9) rfl d_Heap_inSlot_1 ?_
  refine lv_iload_n hx hb d_Heap_inSlot_4 rfl (lv_at hl 1 rfl) ?_
  refine lv_iconst (v := nI 1) hx hb d_Heap_inSlot_5 (by decide +kernel) ?_
  refine zz_iadd hx hb d_Heap_inSlot_6 ?_
  refine lv_iload_n hx hb d_Heap_inSlot_7 rfl (lv_at hl 2 rfl) ?_
  refine zz_iadd hx hb d_Heap_inSlot_8 ?_
  refine zz_iald hx hb hK hP 2 0 (f := fw) rfl rfl (i := (a + 1) + j) (by omega) (by omega) d_Heap_inSlot_9 ?_
  refine zz_top (z := fw (a + 1 + j)) (by simp) ?_
  exact hret _ _ _ _ d_Heap_inSlot_10 hP hD hS
set_option maxHeartbeats 4000000 in
set_option maxRecDepth 100000 in
theorem c_Heap_setSlot (l : Launch) (D : va_G) (cI : ClassId) (hp : Nat) (ow : Nat) (wo : Nat) (fo : lc_A) (fw : lc_A) (md : Nat) (a : Nat) (j : Nat) (x : Int32) (hi : a + 1 + j < 48) : zz_MV l y_Heap_setSlot b_Heap_setSlot 4 ({ frames := 0, cells := 0, slots := 0, locals := 0 } : Room) D [(cI, .int)] [.ref hp, .int (nI a), .int (nI j), .int x] [(hp, .inr (1, [.ref ow, .ref wo, .int (nI md)])), (ow, .inl (cI, 48, .inl fo)), (wo, .inl (cI, 48, .inl fw))] [(hp, .inr (1, [.ref ow, .ref wo, .int (nI md)])), (ow, .inl (cI, 48, .inl fo)), (wo, .inl (cI, 48, .inl (upd fw (a + 1 + j) x)))] := by
  refine zz_MV_of (by decide) (Nat.le_of_ble_eq_true rfl) ?_
  intro p e s m args below meth c A ls Q hx hb hml hown hts hK hP hD hS hA hl hret
  have hown : s.vm.findClass R_Heap = some m.cls := hown
  have hl : lv_has ls 4 [(0, .ref hp), (1, .int (nI a)), (2, .int (nI j)), (3, .int x)] := hl
  refine lv_aload_n hx hb d_Heap_setSlot_0 rfl (lv_at hl 0 rfl) ?_
  refine va_get (D := D) (ci := 1) (v := .ref wo) (C := R_Heap) (T := F_Heap) (N := 3) hx hb hts i_Heap hown hK hP 0 rfl rfl 1 (by decide) (hts _ kw_1) (fun _ h9 => h9) rfl d_Heap_setSlot_1 ?_
  refine lv_iload_n hx hb d_Heap_setSlot_4 rfl (lv_at hl 1 rfl) ?_
  refine lv_iconst (v := nI 1) hx hb d_Heap_setSlot_5 (by decide +kernel) ?_
  refine zz_iadd hx hb d_Heap_setSlot_6 ?_
  refine lv_iload_n hx hb d_Heap_setSlot_7 rfl (lv_at hl 2 rfl) ?_
  refine zz_iadd hx hb d_Heap_setSlot_8 ?_
  refine lv_iload_n hx hb d_Heap_setSlot_9 rfl (lv_at hl 3 rfl) ?_
  refine zz_iast hx hb hK hP hD hS 2 0 (f := fw) rfl rfl (i := (a + 1) + j) (by omega) (by omega) d_Heap_setSlot_10 (g := upd fw ((a + 1) + j) x) rfl (ws' := [(hp, .inr (1, [.ref ow, .ref wo, .int (nI md)])), (ow, .inl (cI, 48, .inl fo)), (wo, .inl (cI, 48, .inl (upd fw ((a + 1) + j) x)))]) rfl (fun H locs hP hD hS => ?_)
  have eW : ([(hp, .inr (1, [.ref ow, .ref wo, .int (nI md)])), (ow, .inl (cI, 48, .inl fo)), (wo, .inl (cI, 48, .inl (upd fw ((a + 1) + j) x)))] : va_W) = [(hp, .inr (1, [.ref ow, .ref wo, .int (nI md)])), (ow, .inl (cI, 48, .inl fo)), (wo, .inl (cI, 48, .inl (upd fw (a + 1 + j) x)))] := by simp
  exact hret _ _ _ _ d_Heap_setSlot_11 (zz_toP eW hP) (zz_toD eW hD) hS
set_option maxHeartbeats 4000000 in
set_option maxRecDepth 100000 in
theorem c_Heap_isFirst (l : Launch) (D : va_G) (cI : ClassId) (hp : Nat) (ow : Nat) (wo : Nat) (fo : lc_A) (fw : lc_A) (md : Nat) (i : Nat) (hi : i < 48) : zz_MI l y_Heap_isFirst b_Heap_isFirst 2 .boolean ({ frames := 0, cells := 0, slots := 0, locals := 0 } : Room) D [(cI, .int)] [.ref hp, .int (nI i)] [(hp, .inr (1, [.ref ow, .ref wo, .int (nI md)])), (ow, .inl (cI, 48, .inl fo)), (wo, .inl (cI, 48, .inl fw))] (lc_bI (lc_isF fo i)) [(hp, .inr (1, [.ref ow, .ref wo, .int (nI md)])), (ow, .inl (cI, 48, .inl fo)), (wo, .inl (cI, 48, .inl fw))] := by
  refine zz_MI_of (by decide) (Nat.le_of_ble_eq_true rfl) (zz_narB _) ?_
  intro p e s m args below meth c A ls Q hx hb hml hown hts hK hP hD hS hA hl hret
  have hown : s.vm.findClass R_Heap = some m.cls := hown
  have hl : lv_has ls 2 [(0, .ref hp), (1, .int (nI i))] := hl
  refine lv_aload_n hx hb d_Heap_isFirst_0 rfl (lv_at hl 0 rfl) ?_
  refine va_get (D := D) (ci := 1) (v := .ref ow) (C := R_Heap) (T := F_Heap) (N := 3) hx hb hts i_Heap hown hK hP 0 rfl rfl 0 (by decide) (hts _ kw_0) (fun _ h9 => h9) rfl d_Heap_isFirst_1 ?_
  refine lv_iload_n hx hb d_Heap_isFirst_4 rfl (lv_at hl 1 rfl) ?_
  refine zz_iald hx hb hK hP 1 0 (f := fo) rfl rfl (i := i) (by omega) (by omega) d_Heap_isFirst_5 ?_
  refine lv_if_eq (tgt := 34) hx hb d_Heap_isFirst_6 (by decide) (fun c6 => ?_) (fun c6 => ?_)
  · skip
    refine lv_iconst (v := nI 0) hx hb d_Heap_isFirst_34 (by decide +kernel) ?_
    refine zz_top (z := lc_bI (lc_isF fo i)) (by first | exact lc_isF0 (by assumption) | exact lc_isF1 (by assumption) (by assumption) | exact lc_isF2 (by assumption) (by assumption) | exact lc_isF3 (by assumption) (by assumption)) ?_
    exact hret _ _ _ _ d_Heap_isFirst_35 hP hD hS
  · skip
    refine lv_iload_n hx hb d_Heap_isFirst_9 rfl (lv_at hl 1 rfl) ?_
    refine zz_if_eq (tgt := 30) hx hb (by omega) d_Heap_isFirst_10 (by decide) (fun c10 => ?_) (fun c10 => ?_)
    · skip
      refine lv_iconst (v := nI 1) hx hb d_Heap_isFirst_30 (by decide +kernel) ?_
      refine lv_goto (tgt := 35) hx hb d_Heap_isFirst_31 (by decide) ?_
      refine zz_top (z := lc_bI (lc_isF fo i)) (by first | exact lc_isF0 (by assumption) | exact lc_isF1 (by assumption) (by assumption) | exact lc_isF2 (by assumption) (by assumption) | exact lc_isF3 (by assumption) (by assumption)) ?_
      exact hret _ _ _ _ d_Heap_isFirst_35 hP hD hS
    · skip
      refine lv_aload_n hx hb d_Heap_isFirst_13 rfl (lv_at hl 0 rfl) ?_
      refine va_get (D := D) (ci := 1) (v := .ref ow) (C := R_Heap) (T := F_Heap) (N := 3) hx hb hts i_Heap hown hK hP 0 rfl rfl 0 (by decide) (hts _ kw_0) (fun _ h9 => h9) rfl d_Heap_isFirst_14 ?_
      refine lv_iload_n hx hb d_Heap_isFirst_17 rfl (lv_at hl 1 rfl) ?_
      refine lv_iconst (v := nI 1) hx hb d_Heap_isFirst_18 (by decide +kernel) ?_
      refine zz_isub hx hb (by omega) d_Heap_isFirst_19 ?_
      refine zz_iald hx hb hK hP 1 0 (f := fo) rfl rfl (i := i - 1) (by omega) (by omega) d_Heap_isFirst_20 ?_
      refine lv_aload_n hx hb d_Heap_isFirst_21 rfl (lv_at hl 0 rfl) ?_
      refine va_get (D := D) (ci := 1) (v := .ref ow) (C := R_Heap) (T := F_Heap) (N := 3) hx hb hts i_Heap hown hK hP 0 rfl rfl 0 (by decide) (hts _ kw_0) (fun _ h9 => h9) rfl d_Heap_isFirst_22 ?_
      refine lv_iload_n hx hb d_Heap_isFirst_25 rfl (lv_at hl 1 rfl) ?_
      refine zz_iald hx hb hK hP 1 0 (f := fo) rfl rfl (i := i) (by omega) (by omega) d_Heap_isFirst_26 ?_
      refine lv_icmp_eq (tgt := 34) hx hb d_Heap_isFirst_27 (by decide) (fun c27 => ?_) (fun c27 => ?_)
      · skip
        refine lv_iconst (v := nI 0) hx hb d_Heap_isFirst_34 (by decide +kernel) ?_
        refine zz_top (z := lc_bI (lc_isF fo i)) (by first | exact lc_isF0 (by assumption) | exact lc_isF1 (by assumption) (by assumption) | exact lc_isF2 (by assumption) (by assumption) | exact lc_isF3 (by assumption) (by assumption)) ?_
        exact hret _ _ _ _ d_Heap_isFirst_35 hP hD hS
      · skip
        refine lv_iconst (v := nI 1) hx hb d_Heap_isFirst_30 (by decide +kernel) ?_
        refine lv_goto (tgt := 35) hx hb d_Heap_isFirst_31 (by decide) ?_
        refine zz_top (z := lc_bI (lc_isF fo i)) (by first | exact lc_isF0 (by assumption) | exact lc_isF1 (by assumption) (by assumption) | exact lc_isF2 (by assumption) (by assumption) | exact lc_isF3 (by assumption) (by assumption)) ?_
        exact hret _ _ _ _ d_Heap_isFirst_35 hP hD hS
set_option maxHeartbeats 4000000 in
set_option maxRecDepth 100000 in
theorem c_Heap_isUncounted (l : Launch) (D : va_G) (cI : ClassId) (hp : Nat) (ow : Nat) (wo : Nat) (fo : lc_A) (fw : lc_A) (md : Nat) (i : Nat) (hi : i < 48) : zz_MI l y_Heap_isUncounted b_Heap_isUncounted 2 .boolean ({ frames := 1, cells := 0, slots := 0, locals := 21 } : Room) D [(cI, .int)] [.ref hp, .int (nI i)] [(hp, .inr (1, [.ref ow, .ref wo, .int (nI md)])), (ow, .inl (cI, 48, .inl fo)), (wo, .inl (cI, 48, .inl fw))] (lc_bI (lc_isU fo fw i)) [(hp, .inr (1, [.ref ow, .ref wo, .int (nI md)])), (ow, .inl (cI, 48, .inl fo)), (wo, .inl (cI, 48, .inl fw))] := by
  refine zz_MI_of (by decide) (Nat.le_of_ble_eq_true rfl) (zz_narB _) ?_
  intro p e s m args below meth c A ls Q hx hb hml hown hts hK hP hD hS hA hl hret
  have hown : s.vm.findClass R_Heap = some m.cls := hown
  have hl : lv_has ls 2 [(0, .ref hp), (1, .int (nI i))] := hl
  refine lv_aload_n hx hb d_Heap_isUncounted_0 rfl (lv_at hl 0 rfl) ?_
  refine lv_iload_n hx hb d_Heap_isUncounted_1 rfl (lv_at hl 1 rfl) ?_
  refine zz_callI (np := 1) hx hb hml hown hts hK hP hD hS hA (c_Heap_isFirst l D cI hp ow wo fo fw md i (by omega)) (zz_gv kw_3 kw_4 kw_5 kw_6 kc_2) (by decide +kernel) rfl rfl ⟨Nat.le_of_ble_eq_true rfl, Nat.le_of_ble_eq_true rfl⟩ ⟨Nat.zero_le _, Nat.zero_le _⟩ [0] rfl 0 1 rfl rfl rfl [0, 1, 2] [] [0, 1, 2] rfl (by decide) (wr := []) rfl (by decide) (by decide) (ws' := [(hp, .inr (1, [.ref ow, .ref wo, .int (nI md)])), (ow, .inl (cI, 48, .inl fo)), (wo, .inl (cI, 48, .inl fw))]) rfl (by decide) rfl hl.1 rfl (Nat.le_of_ble_eq_true rfl) d_Heap_isUncounted_2 (fun H locs hP hD hS => ?_)
  refine zz_bI (fun h2 => ?_) (fun h2 => ?_)
  · skip
    refine zz_if_eq (tgt := 21) hx hb (by omega) d_Heap_isUncounted_5 (by decide) (fun c5 => ?_) (fun c5 => ?_)
    · skip
      exact absurd c5 (by omega)
    · skip
      refine lv_aload_n hx hb d_Heap_isUncounted_8 rfl (lv_at hl 0 rfl) ?_
      refine va_get (D := D) (ci := 1) (v := .ref wo) (C := R_Heap) (T := F_Heap) (N := 3) hx hb hts i_Heap hown hK hP 0 rfl rfl 1 (by decide) (hts _ kw_1) (fun _ h9 => h9) rfl d_Heap_isUncounted_9 ?_
      refine lv_iload_n hx hb d_Heap_isUncounted_12 rfl (lv_at hl 1 rfl) ?_
      refine zz_iald hx hb hK hP 2 0 (f := fw) rfl rfl (i := i) (by omega) (by omega) d_Heap_isUncounted_13 ?_
      refine lv_if_ne (tgt := 21) hx hb d_Heap_isUncounted_14 (by decide) (fun c14 => ?_) (fun c14 => ?_)
      · skip
        refine lv_iconst (v := nI 0) hx hb d_Heap_isUncounted_21 (by decide +kernel) ?_
        refine zz_top (z := lc_bI (lc_isU fo fw i)) (by simp [lc_isU, lc_bI, *]) ?_
        exact hret _ _ _ _ d_Heap_isUncounted_22 hP hD hS
      · skip
        refine lv_iconst (v := nI 1) hx hb d_Heap_isUncounted_17 (by decide +kernel) ?_
        refine lv_goto (tgt := 22) hx hb d_Heap_isUncounted_18 (by decide) ?_
        refine zz_top (z := lc_bI (lc_isU fo fw i)) (by simp [lc_isU, lc_bI, *]) ?_
        exact hret _ _ _ _ d_Heap_isUncounted_22 hP hD hS
  · skip
    refine zz_if_eq (tgt := 21) hx hb (by omega) d_Heap_isUncounted_5 (by decide) (fun c5 => ?_) (fun c5 => ?_)
    · skip
      refine lv_iconst (v := nI 0) hx hb d_Heap_isUncounted_21 (by decide +kernel) ?_
      refine zz_top (z := lc_bI (lc_isU fo fw i)) (by simp [lc_isU, lc_bI, *]) ?_
      exact hret _ _ _ _ d_Heap_isUncounted_22 hP hD hS
    · skip
      exact absurd c5 (by omega)
set_option maxHeartbeats 4000000 in
set_option maxRecDepth 100000 in
theorem c_Heap_lowestRoom (l : Launch) (D : va_G) (cI : ClassId) (hp : Nat) (ow : Nat) (wo : Nat) (fo : lc_A) (fw : lc_A) (md : Nat) (k : Nat) (hk : 0 < k) (hk2 : k < 48) : zz_MI l y_Heap_lowestRoom b_Heap_lowestRoom 4 .int ({ frames := 0, cells := 0, slots := 0, locals := 0 } : Room) D [(cI, .int)] [.ref hp, .int (nI k)] [(hp, .inr (1, [.ref ow, .ref wo, .int (nI md)])), (ow, .inl (cI, 48, .inl fo)), (wo, .inl (cI, 48, .inl fw))] (lc_oI (lc_room fo k)) [(hp, .inr (1, [.ref ow, .ref wo, .int (nI md)])), (ow, .inl (cI, 48, .inl fo)), (wo, .inl (cI, 48, .inl fw))] := by
  refine zz_MI_of (by decide) (Nat.le_of_ble_eq_true rfl) (vp_nar_int _) ?_
  intro p e s m args below meth c A ls Q hx hb hml hown hts hK hP hD hS hA hl hret
  have hown : s.vm.findClass R_Heap = some m.cls := hown
  have hl : lv_has ls 4 [(0, .ref hp), (1, .int (nI k))] := hl
  refine lv_iconst (v := nI 0) hx hb d_Heap_lowestRoom_0 (by decide +kernel) ?_
  refine lv_istore_n (lv' := [(2, .int (nI 0)), (0, .ref hp), (1, .int (nI k))]) hx hb d_Heap_lowestRoom_1 rfl hl (by decide) rfl (fun ls hl => ?_)
  refine lv_iconst (v := nI 0) hx hb d_Heap_lowestRoom_2 (by decide +kernel) ?_
  refine lv_istore_n (lv' := [(3, .int (nI 0)), (2, .int (nI 0)), (0, .ref hp), (1, .int (nI k))]) hx hb d_Heap_lowestRoom_3 rfl hl (by decide) rfl (fun ls hl => ?_)
  have loop4 : ∀ (fu : Nat) (i : Nat) (run : Nat), 48 - i < fu → (hi : i ≤ 48) → (hr : run ≤ i) → (he : lc_rm fo k (48 - i) i run = lc_room fo k) → ∀ (H : Heap) (locs : List Loc), va_P D classes [(hp, .inr (1, [.ref ow, .ref wo, .int (nI md)])), (ow, .inl (cI, 48, .inl fo)), (wo, .inl (cI, 48, .inl fw))] H → va_D A [(hp, .inr (1, [.ref ow, .ref wo, .int (nI md)])), (ow, .inl (cI, 48, .inl fo)), (wo, .inl (cI, 48, .inl fw))] → va_S A s.heap H locs → ∀ (ls : Array Slot), lv_has ls 4 [(0, .ref hp), (1, .int (nI k)), (2, .int (nI run)), (3, .int (nI i))] → W p l e ({ frames := 0, cells := 0, slots := 0, locals := 0 } : Room) s m args below meth c H locs 0 0 Q (F0 m 4 ls []) := by
    intro fu
    induction fu with
    | zero => intro i run hf; omega
    | succ fu ih4 =>
      intro i run hf hi hr he H locs hP hD hS ls hl
      refine lv_iload_n hx hb d_Heap_lowestRoom_4 rfl (lv_at hl 3 rfl) ?_
      refine lv_bipush (v := nI 48) hx hb d_Heap_lowestRoom_5 (by decide +kernel) ?_
      refine zz_icmp_ge (tgt := 44) hx hb (by omega) (by omega) d_Heap_lowestRoom_7 (by decide) (fun c7 => ?_) (fun c7 => ?_)
      · skip
        refine lv_iconst (v := (-1)) hx hb d_Heap_lowestRoom_44 (by decide +kernel) ?_
        refine zz_top (z := lc_oI (lc_room fo k)) (by first | omega | exact lc_rm_ret (by omega) (by assumption) (by assumption) hr he | exact lc_rm_end (by omega) he) ?_
        exact hret _ _ _ _ d_Heap_lowestRoom_45 hP hD hS
      · skip
        refine lv_aload_n hx hb d_Heap_lowestRoom_10 rfl (lv_at hl 0 rfl) ?_
        refine va_get (D := D) (ci := 1) (v := .ref ow) (C := R_Heap) (T := F_Heap) (N := 3) hx hb hts i_Heap hown hK hP 0 rfl rfl 0 (by decide) (hts _ kw_0) (fun _ h9 => h9) rfl d_Heap_lowestRoom_11 ?_
        refine lv_iload_n hx hb d_Heap_lowestRoom_14 rfl (lv_at hl 3 rfl) ?_
        refine zz_iald hx hb hK hP 1 0 (f := fo) rfl rfl (i := i) (by omega) (by omega) d_Heap_lowestRoom_15 ?_
        refine lv_if_ne (tgt := 25) hx hb d_Heap_lowestRoom_16 (by decide) (fun c16 => ?_) (fun c16 => ?_)
        · skip
          refine lv_iconst (v := nI 0) hx hb d_Heap_lowestRoom_25 (by decide +kernel) ?_
          refine lv_istore_n (lv' := [(2, .int (nI 0)), (0, .ref hp), (1, .int (nI k)), (3, .int (nI i))]) hx hb d_Heap_lowestRoom_26 rfl hl (by decide) rfl (fun ls hl => ?_)
          refine lv_iload_n hx hb d_Heap_lowestRoom_27 rfl (lv_at hl 0 rfl) ?_
          refine lv_iload_n hx hb d_Heap_lowestRoom_28 rfl (lv_at hl 2 rfl) ?_
          refine zz_icmp_ne (tgt := 38) hx hb (by omega) (by omega) d_Heap_lowestRoom_29 (by decide) (fun c29 => ?_) (fun c29 => ?_)
          · skip
            refine lv_iinc (v := nI (i + 1)) (lv' := [(3, .int (nI (i + 1))), (2, .int (nI 0)), (0, .ref hp), (1, .int (nI k))]) hx hb d_Heap_lowestRoom_38 hl (k := 3) rfl (nI_1 _) (by decide) rfl (fun ls hl => ?_)
            refine lv_goto (tgt := 4) hx hb d_Heap_lowestRoom_41 (by decide) ?_
            exact ih4 (i + 1) 0 (by omega) (by omega) (by omega) (by first | exact (lc_rm_s1 (by omega) (by assumption) (by assumption)).trans he | exact (lc_rm_s0 (by omega) (by assumption) (by omega)).trans he) _ _ hP hD hS _ (lv_sub hl [2, 3, 1, 0] rfl)
          · skip
            refine lv_iload_n hx hb d_Heap_lowestRoom_32 rfl (lv_at hl 3 rfl) ?_
            refine lv_iload_n hx hb d_Heap_lowestRoom_33 rfl (lv_at hl 2 rfl) ?_
            refine lv_isub hx hb d_Heap_lowestRoom_34 ?_
            refine lv_iconst (v := nI 1) hx hb d_Heap_lowestRoom_35 (by decide +kernel) ?_
            refine lv_iadd hx hb d_Heap_lowestRoom_36 ?_
            refine zz_top (z := lc_oI (lc_room fo k)) (by first | omega | exact lc_rm_ret (by omega) (by assumption) (by assumption) hr he | exact lc_rm_end (by omega) he) ?_
            exact hret _ _ _ _ d_Heap_lowestRoom_37 hP hD hS
        · skip
          refine lv_iload_n hx hb d_Heap_lowestRoom_19 rfl (lv_at hl 2 rfl) ?_
          refine lv_iconst (v := nI 1) hx hb d_Heap_lowestRoom_20 (by decide +kernel) ?_
          refine zz_iadd hx hb d_Heap_lowestRoom_21 ?_
          refine lv_goto (tgt := 26) hx hb d_Heap_lowestRoom_22 (by decide) ?_
          refine lv_istore_n (lv' := [(2, .int (nI (run + 1))), (0, .ref hp), (1, .int (nI k)), (3, .int (nI i))]) hx hb d_Heap_lowestRoom_26 rfl hl (by decide) rfl (fun ls hl => ?_)
          refine lv_iload_n hx hb d_Heap_lowestRoom_27 rfl (lv_at hl 0 rfl) ?_
          refine lv_iload_n hx hb d_Heap_lowestRoom_28 rfl (lv_at hl 2 rfl) ?_
          refine zz_icmp_ne (tgt := 38) hx hb (by omega) (by omega) d_Heap_lowestRoom_29 (by decide) (fun c29 => ?_) (fun c29 => ?_)
          · skip
            refine lv_iinc (v := nI (i + 1)) (lv' := [(3, .int (nI (i + 1))), (2, .int (nI (run + 1))), (0, .ref hp), (1, .int (nI k))]) hx hb d_Heap_lowestRoom_38 hl (k := 3) rfl (nI_1 _) (by decide) rfl (fun ls hl => ?_)
            refine lv_goto (tgt := 4) hx hb d_Heap_lowestRoom_41 (by decide) ?_
            exact ih4 (i + 1) (run + 1) (by omega) (by omega) (by omega) (by first | exact (lc_rm_s1 (by omega) (by assumption) (by assumption)).trans he | exact (lc_rm_s0 (by omega) (by assumption) (by omega)).trans he) _ _ hP hD hS _ (lv_sub hl [2, 3, 1, 0] rfl)
          · skip
            refine lv_iload_n hx hb d_Heap_lowestRoom_32 rfl (lv_at hl 3 rfl) ?_
            refine lv_iload_n hx hb d_Heap_lowestRoom_33 rfl (lv_at hl 2 rfl) ?_
            refine lv_isub hx hb d_Heap_lowestRoom_34 ?_
            refine lv_iconst (v := nI 1) hx hb d_Heap_lowestRoom_35 (by decide +kernel) ?_
            refine lv_iadd hx hb d_Heap_lowestRoom_36 ?_
            refine zz_top (z := lc_oI (lc_room fo k)) (by first | omega | exact lc_rm_ret (by omega) (by assumption) (by assumption) hr he | exact lc_rm_end (by omega) he) ?_
            exact hret _ _ _ _ d_Heap_lowestRoom_37 hP hD hS
  exact loop4 49 0 0 (by omega) (by omega) (by omega) rfl _ _ hP hD hS _ (lv_sub hl [2, 3, 1, 0] rfl)
set_option maxHeartbeats 4000000 in
set_option maxRecDepth 100000 in
theorem c_Heap_firstCellOf (l : Launch) (D : va_G) (cI : ClassId) (hp : Nat) (ow : Nat) (wo : Nat) (fo : lc_A) (fw : lc_A) (md : Nat) (x : Int32)  : zz_MI l y_Heap_firstCellOf b_Heap_firstCellOf 3 .int ({ frames := 0, cells := 0, slots := 0, locals := 0 } : Room) D [(cI, .int)] [.ref hp, .int x] [(hp, .inr (1, [.ref ow, .ref wo, .int (nI md)])), (ow, .inl (cI, 48, .inl fo)), (wo, .inl (cI, 48, .inl fw))] (lc_oI (lc_first fo x)) [(hp, .inr (1, [.ref ow, .ref wo, .int (nI md)])), (ow, .inl (cI, 48, .inl fo)), (wo, .inl (cI, 48, .inl fw))] := by
  refine zz_MI_of (by decide) (Nat.le_of_ble_eq_true rfl) (vp_nar_int _) ?_
  intro p e s m args below meth c A ls Q hx hb hml hown hts hK hP hD hS hA hl hret
  have hown : s.vm.findClass R_Heap = some m.cls := hown
  have hl : lv_has ls 3 [(0, .ref hp), (1, .int x)] := hl
  refine lv_iload_n hx hb d_Heap_firstCellOf_0 rfl (lv_at hl 1 rfl) ?_
  refine lv_if_ne (tgt := 6) hx hb d_Heap_firstCellOf_1 (by decide) (fun c1 => ?_) (fun c1 => ?_)
  · skip
    refine lv_iconst (v := nI 0) hx hb d_Heap_firstCellOf_6 (by decide +kernel) ?_
    refine lv_istore_n (lv' := [(2, .int (nI 0)), (0, .ref hp), (1, .int x)]) hx hb d_Heap_firstCellOf_7 rfl hl (by decide) rfl (fun ls hl => ?_)
    have loop8 : ∀ (fu : Nat) (i : Nat), 48 - i < fu → (hi : i ≤ 48) → (hn : ∀ j, j < i → fo j ≠ x) → ∀ (H : Heap) (locs : List Loc), va_P D classes [(hp, .inr (1, [.ref ow, .ref wo, .int (nI md)])), (ow, .inl (cI, 48, .inl fo)), (wo, .inl (cI, 48, .inl fw))] H → va_D A [(hp, .inr (1, [.ref ow, .ref wo, .int (nI md)])), (ow, .inl (cI, 48, .inl fo)), (wo, .inl (cI, 48, .inl fw))] → va_S A s.heap H locs → ∀ (ls : Array Slot), lv_has ls 3 [(0, .ref hp), (1, .int x), (2, .int (nI i))] → W p l e ({ frames := 0, cells := 0, slots := 0, locals := 0 } : Room) s m args below meth c H locs 0 0 Q (F0 m 8 ls []) := by
      intro fu
      induction fu with
      | zero => intro i hf; omega
      | succ fu ih8 =>
        intro i hf hi hn H locs hP hD hS ls hl
        refine lv_iload_n hx hb d_Heap_firstCellOf_8 rfl (lv_at hl 2 rfl) ?_
        refine lv_bipush (v := nI 48) hx hb d_Heap_firstCellOf_9 (by decide +kernel) ?_
        refine zz_icmp_ge (tgt := 32) hx hb (by omega) (by omega) d_Heap_firstCellOf_11 (by decide) (fun c11 => ?_) (fun c11 => ?_)
        · skip
          refine lv_iconst (v := (-1)) hx hb d_Heap_firstCellOf_32 (by decide +kernel) ?_
          refine zz_top (z := lc_oI (lc_first fo x)) (by first | exact lc_first_0 (by assumption) | exact lc_first_i (by omega) (by assumption) (by assumption) hn | exact lc_first_n (by omega) (by assumption) hn) ?_
          exact hret _ _ _ _ d_Heap_firstCellOf_33 hP hD hS
        · skip
          refine lv_aload_n hx hb d_Heap_firstCellOf_14 rfl (lv_at hl 0 rfl) ?_
          refine va_get (D := D) (ci := 1) (v := .ref ow) (C := R_Heap) (T := F_Heap) (N := 3) hx hb hts i_Heap hown hK hP 0 rfl rfl 0 (by decide) (hts _ kw_0) (fun _ h9 => h9) rfl d_Heap_firstCellOf_15 ?_
          refine lv_iload_n hx hb d_Heap_firstCellOf_18 rfl (lv_at hl 2 rfl) ?_
          refine zz_iald hx hb hK hP 1 0 (f := fo) rfl rfl (i := i) (by omega) (by omega) d_Heap_firstCellOf_19 ?_
          refine lv_iload_n hx hb d_Heap_firstCellOf_20 rfl (lv_at hl 1 rfl) ?_
          refine lv_icmp_ne (tgt := 26) hx hb d_Heap_firstCellOf_21 (by decide) (fun c21 => ?_) (fun c21 => ?_)
          · skip
            refine lv_iinc (v := nI (i + 1)) (lv' := [(2, .int (nI (i + 1))), (0, .ref hp), (1, .int x)]) hx hb d_Heap_firstCellOf_26 hl (k := 2) rfl (nI_1 _) (by decide) rfl (fun ls hl => ?_)
            refine lv_goto (tgt := 8) hx hb d_Heap_firstCellOf_29 (by decide) ?_
            exact ih8 (i + 1) (by omega) (by omega) (lc_lt1 hn (by assumption)) _ _ hP hD hS _ (lv_sub hl [1, 2, 0] rfl)
          · skip
            refine lv_iload_n hx hb d_Heap_firstCellOf_24 rfl (lv_at hl 2 rfl) ?_
            refine zz_top (z := lc_oI (lc_first fo x)) (by first | exact lc_first_0 (by assumption) | exact lc_first_i (by omega) (by assumption) (by assumption) hn | exact lc_first_n (by omega) (by assumption) hn) ?_
            exact hret _ _ _ _ d_Heap_firstCellOf_25 hP hD hS
    exact loop8 49 0 (by omega) (by omega) (fun j hj => by omega) _ _ hP hD hS _ (lv_sub hl [1, 2, 0] rfl)
  · skip
    refine lv_iconst (v := (-1)) hx hb d_Heap_firstCellOf_4 (by decide +kernel) ?_
    refine zz_top (z := lc_oI (lc_first fo x)) (by first | exact lc_first_0 (by assumption) | exact lc_first_i (by omega) (by assumption) (by assumption) hn | exact lc_first_n (by omega) (by assumption) hn) ?_
    exact hret _ _ _ _ d_Heap_firstCellOf_5 hP hD hS
set_option maxHeartbeats 4000000 in
set_option maxRecDepth 100000 in
theorem c_Heap_slotsAt_n (l : Launch) (D : va_G) (cI : ClassId) (hp : Nat) (ow : Nat) (wo : Nat) (fo : lc_A) (fw : lc_A) (md : Nat)  : zz_MI l y_Heap_slotsAt b_Heap_slotsAt 4 .int ({ frames := 0, cells := 0, slots := 0, locals := 0 } : Room) D [(cI, .int)] [.ref hp, .int (-1)] [(hp, .inr (1, [.ref ow, .ref wo, .int (nI md)])), (ow, .inl (cI, 48, .inl fo)), (wo, .inl (cI, 48, .inl fw))] (nI 0) [(hp, .inr (1, [.ref ow, .ref wo, .int (nI md)])), (ow, .inl (cI, 48, .inl fo)), (wo, .inl (cI, 48, .inl fw))] := by
  refine zz_MI_of (by decide) (Nat.le_of_ble_eq_true rfl) (vp_nar_int _) ?_
  intro p e s m args below meth c A ls Q hx hb hml hown hts hK hP hD hS hA hl hret
  have hown : s.vm.findClass R_Heap = some m.cls := hown
  have hl : lv_has ls 4 [(0, .ref hp), (1, .int (-1))] := hl
  refine lv_iload_n hx hb d_Heap_slotsAt_0 rfl (lv_at hl 1 rfl) ?_
  refine lv_iconst (v := (-1)) hx hb d_Heap_slotsAt_1 (by decide +kernel) ?_
  refine lv_icmp_ne (tgt := 7) hx hb d_Heap_slotsAt_2 (by decide) (fun c2 => ?_) (fun c2 => ?_)
  · skip
    exact absurd rfl c2
  · skip
    refine lv_iconst (v := nI 0) hx hb d_Heap_slotsAt_5 (by decide +kernel) ?_
    exact hret _ _ _ _ d_Heap_slotsAt_6 hP hD hS
set_option maxHeartbeats 4000000 in
set_option maxRecDepth 100000 in
theorem c_Heap_slotsAt_s (l : Launch) (D : va_G) (cI : ClassId) (hp : Nat) (ow : Nat) (wo : Nat) (fo : lc_A) (fw : lc_A) (md : Nat) (a : Nat) (ha : a < 48) : zz_MI l y_Heap_slotsAt b_Heap_slotsAt 4 .int ({ frames := 0, cells := 0, slots := 0, locals := 0 } : Room) D [(cI, .int)] [.ref hp, .int (nI a)] [(hp, .inr (1, [.ref ow, .ref wo, .int (nI md)])), (ow, .inl (cI, 48, .inl fo)), (wo, .inl (cI, 48, .inl fw))] (nI (lc_sa fo a)) [(hp, .inr (1, [.ref ow, .ref wo, .int (nI md)])), (ow, .inl (cI, 48, .inl fo)), (wo, .inl (cI, 48, .inl fw))] := by
  refine zz_MI_of (by decide) (Nat.le_of_ble_eq_true rfl) (vp_nar_int _) ?_
  intro p e s m args below meth c A ls Q hx hb hml hown hts hK hP hD hS hA hl hret
  have hown : s.vm.findClass R_Heap = some m.cls := hown
  have hl : lv_has ls 4 [(0, .ref hp), (1, .int (nI a))] := hl
  refine lv_iload_n hx hb d_Heap_slotsAt_0 rfl (lv_at hl 1 rfl) ?_
  refine lv_iconst (v := (-1)) hx hb d_Heap_slotsAt_1 (by decide +kernel) ?_
  refine lv_icmp_ne (tgt := 7) hx hb d_Heap_slotsAt_2 (by decide) (fun c2 => ?_) (fun c2 => ?_)
  · skip
    refine lv_iconst (v := nI 0) hx hb d_Heap_slotsAt_7 (by decide +kernel) ?_
    refine lv_istore_n (lv' := [(2, .int (nI 0)), (0, .ref hp), (1, .int (nI a))]) hx hb d_Heap_slotsAt_8 rfl hl (by decide) rfl (fun ls hl => ?_)
    refine lv_iload_n hx hb d_Heap_slotsAt_9 rfl (lv_at hl 2 rfl) ?_
    refine lv_iconst (v := nI 1) hx hb d_Heap_slotsAt_10 (by decide +kernel) ?_
    refine zz_iadd hx hb d_Heap_slotsAt_11 ?_
    refine lv_istore_n (lv' := [(3, .int (nI (a + 1))), (2, .int (nI 0)), (0, .ref hp), (1, .int (nI a))]) hx hb d_Heap_slotsAt_12 rfl hl (by decide) rfl (fun ls hl => ?_)
    have loop13 : ∀ (fu : Nat) (j : Nat), 48 - j < fu → (hj : a + 1 + j ≤ 48) → (hn : ∀ k, k < j → fo (a + 1 + k) = fo a) → ∀ (H : Heap) (locs : List Loc), va_P D classes [(hp, .inr (1, [.ref ow, .ref wo, .int (nI md)])), (ow, .inl (cI, 48, .inl fo)), (wo, .inl (cI, 48, .inl fw))] H → va_D A [(hp, .inr (1, [.ref ow, .ref wo, .int (nI md)])), (ow, .inl (cI, 48, .inl fo)), (wo, .inl (cI, 48, .inl fw))] → va_S A s.heap H locs → ∀ (ls : Array Slot), lv_has ls 4 [(0, .ref hp), (1, .int (nI a)), (2, .int (nI j)), (3, .int (nI (a + 1 + j)))] → W p l e ({ frames := 0, cells := 0, slots := 0, locals := 0 } : Room) s m args below meth c H locs 0 0 Q (F0 m 13 ls []) := by
      intro fu
      induction fu with
      | zero => intro j hf; omega
      | succ fu ih13 =>
        intro j hf hj hn H locs hP hD hS ls hl
        refine lv_iload_n hx hb d_Heap_slotsAt_13 rfl (lv_at hl 3 rfl) ?_
        refine lv_bipush (v := nI 48) hx hb d_Heap_slotsAt_14 (by decide +kernel) ?_
        refine zz_icmp_ge (tgt := 43) hx hb (by omega) (by omega) d_Heap_slotsAt_16 (by decide) (fun c16 => ?_) (fun c16 => ?_)
        · skip
          refine lv_iload_n hx hb d_Heap_slotsAt_43 rfl (lv_at hl 2 rfl) ?_
          refine zz_top (z := nI (lc_sa fo a)) (by first | exact lc_sa_end ha hj hn (Or.inl (by omega)) | exact lc_sa_end ha hj hn (Or.inr (by assumption))) ?_
          exact hret _ _ _ _ d_Heap_slotsAt_44 hP hD hS
        · skip
          refine lv_aload_n hx hb d_Heap_slotsAt_19 rfl (lv_at hl 0 rfl) ?_
          refine va_get (D := D) (ci := 1) (v := .ref ow) (C := R_Heap) (T := F_Heap) (N := 3) hx hb hts i_Heap hown hK hP 0 rfl rfl 0 (by decide) (hts _ kw_0) (fun _ h9 => h9) rfl d_Heap_slotsAt_20 ?_
          refine lv_iload_n hx hb d_Heap_slotsAt_23 rfl (lv_at hl 3 rfl) ?_
          refine zz_iald hx hb hK hP 1 0 (f := fo) rfl rfl (i := a + 1 + j) (by omega) (by omega) d_Heap_slotsAt_24 ?_
          refine lv_aload_n hx hb d_Heap_slotsAt_25 rfl (lv_at hl 0 rfl) ?_
          refine va_get (D := D) (ci := 1) (v := .ref ow) (C := R_Heap) (T := F_Heap) (N := 3) hx hb hts i_Heap hown hK hP 0 rfl rfl 0 (by decide) (hts _ kw_0) (fun _ h9 => h9) rfl d_Heap_slotsAt_26 ?_
          refine lv_iload_n hx hb d_Heap_slotsAt_29 rfl (lv_at hl 1 rfl) ?_
          refine zz_iald hx hb hK hP 1 0 (f := fo) rfl rfl (i := a) (by omega) (by omega) d_Heap_slotsAt_30 ?_
          refine lv_icmp_ne (tgt := 43) hx hb d_Heap_slotsAt_31 (by decide) (fun c31 => ?_) (fun c31 => ?_)
          · skip
            refine lv_iload_n hx hb d_Heap_slotsAt_43 rfl (lv_at hl 2 rfl) ?_
            refine zz_top (z := nI (lc_sa fo a)) (by first | exact lc_sa_end ha hj hn (Or.inl (by omega)) | exact lc_sa_end ha hj hn (Or.inr (by assumption))) ?_
            exact hret _ _ _ _ d_Heap_slotsAt_44 hP hD hS
          · skip
            refine lv_iinc (v := nI (j + 1)) (lv' := [(2, .int (nI (j + 1))), (0, .ref hp), (1, .int (nI a)), (3, .int (nI (a + 1 + j)))]) hx hb d_Heap_slotsAt_34 hl (k := 2) rfl (nI_1 _) (by decide) rfl (fun ls hl => ?_)
            refine lv_iinc (v := nI ((a + 1 + j) + 1)) (lv' := [(3, .int (nI ((a + 1 + j) + 1))), (2, .int (nI (j + 1))), (0, .ref hp), (1, .int (nI a))]) hx hb d_Heap_slotsAt_37 hl (k := 3) rfl (nI_1 _) (by decide) rfl (fun ls hl => ?_)
            refine lv_goto (tgt := 13) hx hb d_Heap_slotsAt_40 (by decide) ?_
            have eL1 : (a + 1 + j) + 1 = a + 1 + (j + 1) := by omega
            exact ih13 (j + 1) (by omega) (by omega) (lc_lt1 hn (by assumption)) _ _ hP hD hS _ (zz_hlc (lv_sub (l' := [(0, .ref hp), (1, .int (nI a)), (2, .int (nI (j + 1))), (3, .int (nI ((a + 1 + j) + 1)))]) hl [2, 3, 1, 0] rfl) (zz_c1 rfl (zz_c1 rfl (zz_c1 rfl (zz_c1 (congrArg (fun v => ((3 : Nat), Value.int (nI v))) eL1) rfl)))))
    have eL2 : a + 1 = a + 1 + 0 := by omega
    exact loop13 49 0 (by omega) (by omega) (fun k hk => by omega) _ _ hP hD hS _ (zz_hlc (lv_sub (l' := [(0, .ref hp), (1, .int (nI a)), (2, .int (nI 0)), (3, .int (nI (a + 1)))]) hl [2, 3, 1, 0] rfl) (zz_c1 rfl (zz_c1 rfl (zz_c1 rfl (zz_c1 (congrArg (fun v => ((3 : Nat), Value.int (nI v))) eL2) rfl)))))
  · skip
    exact absurd c2 (zz_nm1 (by omega))
set_option maxHeartbeats 4000000 in
set_option maxRecDepth 100000 in
theorem c_Heap_hasSlot_n (l : Launch) (D : va_G) (cI : ClassId) (hp : Nat) (ow : Nat) (wo : Nat) (fo : lc_A) (fw : lc_A) (md : Nat) (x : Int32)  : zz_MI l y_Heap_hasSlot b_Heap_hasSlot 3 .boolean ({ frames := 1, cells := 0, slots := 0, locals := 23 } : Room) D [(cI, .int)] [.ref hp, .int (-1), .int x] [(hp, .inr (1, [.ref ow, .ref wo, .int (nI md)])), (ow, .inl (cI, 48, .inl fo)), (wo, .inl (cI, 48, .inl fw))] (nI 0) [(hp, .inr (1, [.ref ow, .ref wo, .int (nI md)])), (ow, .inl (cI, 48, .inl fo)), (wo, .inl (cI, 48, .inl fw))] := by
  refine zz_MI_of (by decide) (Nat.le_of_ble_eq_true rfl) (by decide +kernel) ?_
  intro p e s m args below meth c A ls Q hx hb hml hown hts hK hP hD hS hA hl hret
  have hown : s.vm.findClass R_Heap = some m.cls := hown
  have hl : lv_has ls 3 [(0, .ref hp), (1, .int (-1)), (2, .int x)] := hl
  refine lv_iload_n hx hb d_Heap_hasSlot_0 rfl (lv_at hl 2 rfl) ?_
  refine lv_if_lt (tgt := 17) hx hb d_Heap_hasSlot_1 (by decide) (fun c1 => ?_) (fun c1 => ?_)
  · skip
    refine lv_iconst (v := nI 0) hx hb d_Heap_hasSlot_17 (by decide +kernel) ?_
    exact hret _ _ _ _ d_Heap_hasSlot_18 hP hD hS
  · skip
    refine lv_iload_n hx hb d_Heap_hasSlot_4 rfl (lv_at hl 2 rfl) ?_
    refine lv_aload_n hx hb d_Heap_hasSlot_5 rfl (lv_at hl 0 rfl) ?_
    refine lv_iload_n hx hb d_Heap_hasSlot_6 rfl (lv_at hl 1 rfl) ?_
    refine zz_callI (np := 1) hx hb hml hown hts hK hP hD hS hA (c_Heap_slotsAt_n l D cI hp ow wo fo fw md ) (zz_gv kw_8 kw_9 kw_10 kw_6 kc_7) (by decide +kernel) rfl rfl ⟨Nat.le_of_ble_eq_true rfl, Nat.le_of_ble_eq_true rfl⟩ ⟨Nat.zero_le _, Nat.zero_le _⟩ [0] rfl 0 1 rfl rfl rfl [0, 1, 2] [] [0, 1, 2] rfl (by decide) (wr := []) rfl (by decide) (by decide) (ws' := [(hp, .inr (1, [.ref ow, .ref wo, .int (nI md)])), (ow, .inl (cI, 48, .inl fo)), (wo, .inl (cI, 48, .inl fw))]) rfl (by decide) rfl hl.1 rfl (Nat.le_of_ble_eq_true rfl) d_Heap_hasSlot_7 (fun H locs hP hD hS => ?_)
    refine lv_icmp_ge (tgt := 17) hx hb d_Heap_hasSlot_10 (by decide) (fun c10 => ?_) (fun c10 => ?_)
    · skip
      refine lv_iconst (v := nI 0) hx hb d_Heap_hasSlot_17 (by decide +kernel) ?_
      exact hret _ _ _ _ d_Heap_hasSlot_18 hP hD hS
    · skip
      refine lv_iconst (v := nI 1) hx hb d_Heap_hasSlot_13 (by decide +kernel) ?_
      refine lv_goto (tgt := 18) hx hb d_Heap_hasSlot_14 (by decide) ?_
      refine zz_top (z := nI 0) (by first | rfl | exact absurd (Int32.not_lt.mp (by assumption)) (by rw [← nI_0] at *; assumption)) ?_
      exact hret _ _ _ _ d_Heap_hasSlot_18 hP hD hS
set_option maxHeartbeats 4000000 in
set_option maxRecDepth 100000 in
theorem c_Heap_hasSlot_s (l : Launch) (D : va_G) (cI : ClassId) (hp : Nat) (ow : Nat) (wo : Nat) (fo : lc_A) (fw : lc_A) (md : Nat) (a : Nat) (x : Int32) (ha : a < 48) : zz_MI l y_Heap_hasSlot b_Heap_hasSlot 3 .boolean ({ frames := 1, cells := 0, slots := 0, locals := 23 } : Room) D [(cI, .int)] [.ref hp, .int (nI a), .int x] [(hp, .inr (1, [.ref ow, .ref wo, .int (nI md)])), (ow, .inl (cI, 48, .inl fo)), (wo, .inl (cI, 48, .inl fw))] (lc_bI (lc_pl x (lc_sa fo a)).isSome) [(hp, .inr (1, [.ref ow, .ref wo, .int (nI md)])), (ow, .inl (cI, 48, .inl fo)), (wo, .inl (cI, 48, .inl fw))] := by
  refine zz_MI_of (by decide) (Nat.le_of_ble_eq_true rfl) (zz_narB _) ?_
  intro p e s m args below meth c A ls Q hx hb hml hown hts hK hP hD hS hA hl hret
  have hown : s.vm.findClass R_Heap = some m.cls := hown
  have hl : lv_has ls 3 [(0, .ref hp), (1, .int (nI a)), (2, .int x)] := hl
  refine lv_iload_n hx hb d_Heap_hasSlot_0 rfl (lv_at hl 2 rfl) ?_
  refine lv_if_lt (tgt := 17) hx hb d_Heap_hasSlot_1 (by decide) (fun c1 => ?_) (fun c1 => ?_)
  · skip
    refine lv_iconst (v := nI 0) hx hb d_Heap_hasSlot_17 (by decide +kernel) ?_
    refine zz_top (z := lc_bI (lc_pl x (lc_sa fo a)).isSome) (by first | exact lc_has1 (by assumption) (by assumption) | exact lc_has0 (by assumption) | exact lc_has2 (by assumption)) ?_
    exact hret _ _ _ _ d_Heap_hasSlot_18 hP hD hS
  · skip
    refine lv_iload_n hx hb d_Heap_hasSlot_4 rfl (lv_at hl 2 rfl) ?_
    refine lv_aload_n hx hb d_Heap_hasSlot_5 rfl (lv_at hl 0 rfl) ?_
    refine lv_iload_n hx hb d_Heap_hasSlot_6 rfl (lv_at hl 1 rfl) ?_
    refine zz_callI (np := 1) hx hb hml hown hts hK hP hD hS hA (c_Heap_slotsAt_s l D cI hp ow wo fo fw md a (by omega)) (zz_gv kw_8 kw_9 kw_10 kw_6 kc_7) (by decide +kernel) rfl rfl ⟨Nat.le_of_ble_eq_true rfl, Nat.le_of_ble_eq_true rfl⟩ ⟨Nat.zero_le _, Nat.zero_le _⟩ [0] rfl 0 1 rfl rfl rfl [0, 1, 2] [] [0, 1, 2] rfl (by decide) (wr := []) rfl (by decide) (by decide) (ws' := [(hp, .inr (1, [.ref ow, .ref wo, .int (nI md)])), (ow, .inl (cI, 48, .inl fo)), (wo, .inl (cI, 48, .inl fw))]) rfl (by decide) rfl hl.1 rfl (Nat.le_of_ble_eq_true rfl) d_Heap_hasSlot_7 (fun H locs hP hD hS => ?_)
    refine lv_icmp_ge (tgt := 17) hx hb d_Heap_hasSlot_10 (by decide) (fun c10 => ?_) (fun c10 => ?_)
    · skip
      refine lv_iconst (v := nI 0) hx hb d_Heap_hasSlot_17 (by decide +kernel) ?_
      refine zz_top (z := lc_bI (lc_pl x (lc_sa fo a)).isSome) (by first | exact lc_has1 (by assumption) (by assumption) | exact lc_has0 (by assumption) | exact lc_has2 (by assumption)) ?_
      exact hret _ _ _ _ d_Heap_hasSlot_18 hP hD hS
    · skip
      refine lv_iconst (v := nI 1) hx hb d_Heap_hasSlot_13 (by decide +kernel) ?_
      refine lv_goto (tgt := 18) hx hb d_Heap_hasSlot_14 (by decide) ?_
      refine zz_top (z := lc_bI (lc_pl x (lc_sa fo a)).isSome) (by first | exact lc_has1 (by assumption) (by assumption) | exact lc_has0 (by assumption) | exact lc_has2 (by assumption)) ?_
      exact hret _ _ _ _ d_Heap_hasSlot_18 hP hD hS
set_option maxHeartbeats 4000000 in
set_option maxRecDepth 100000 in
theorem c_Heap_objects (l : Launch) (D : va_G) (cI : ClassId) (hp : Nat) (ow : Nat) (wo : Nat) (fo : lc_A) (fw : lc_A) (md : Nat)  : zz_MI l y_Heap_objects b_Heap_objects 3 .int ({ frames := 1, cells := 0, slots := 0, locals := 21 } : Room) D [(cI, .int)] [.ref hp] [(hp, .inr (1, [.ref ow, .ref wo, .int (nI md)])), (ow, .inl (cI, 48, .inl fo)), (wo, .inl (cI, 48, .inl fw))] (nI (lc_ct (lc_isF fo) 48)) [(hp, .inr (1, [.ref ow, .ref wo, .int (nI md)])), (ow, .inl (cI, 48, .inl fo)), (wo, .inl (cI, 48, .inl fw))] := by
  refine zz_MI_of (by decide) (Nat.le_of_ble_eq_true rfl) (vp_nar_int _) ?_
  intro p e s m args below meth c A ls Q hx hb hml hown hts hK hP hD hS hA hl hret
  have hown : s.vm.findClass R_Heap = some m.cls := hown
  have hl : lv_has ls 3 [(0, .ref hp)] := hl
  refine lv_iconst (v := nI 0) hx hb d_Heap_objects_0 (by decide +kernel) ?_
  refine lv_istore_n (lv' := [(1, .int (nI 0)), (0, .ref hp)]) hx hb d_Heap_objects_1 rfl hl (by decide) rfl (fun ls hl => ?_)
  refine lv_iconst (v := nI 0) hx hb d_Heap_objects_2 (by decide +kernel) ?_
  refine lv_istore_n (lv' := [(2, .int (nI 0)), (1, .int (nI 0)), (0, .ref hp)]) hx hb d_Heap_objects_3 rfl hl (by decide) rfl (fun ls hl => ?_)
  have loop4 : ∀ (fu : Nat) (i : Nat), 48 - i < fu → (hi : i ≤ 48) → ∀ (H : Heap) (locs : List Loc), va_P D classes [(hp, .inr (1, [.ref ow, .ref wo, .int (nI md)])), (ow, .inl (cI, 48, .inl fo)), (wo, .inl (cI, 48, .inl fw))] H → va_D A [(hp, .inr (1, [.ref ow, .ref wo, .int (nI md)])), (ow, .inl (cI, 48, .inl fo)), (wo, .inl (cI, 48, .inl fw))] → va_S A s.heap H locs → ∀ (ls : Array Slot), lv_has ls 3 [(0, .ref hp), (1, .int (nI (lc_ct (lc_isF fo) i))), (2, .int (nI i))] → W p l e ({ frames := 1, cells := 0, slots := 0, locals := 21 } : Room) s m args below meth c H locs 0 0 Q (F0 m 4 ls []) := by
    intro fu
    induction fu with
    | zero => intro i hf; omega
    | succ fu ih4 =>
      intro i hf hi H locs hP hD hS ls hl
      refine lv_iload_n hx hb d_Heap_objects_4 rfl (lv_at hl 2 rfl) ?_
      refine lv_bipush (v := nI 48) hx hb d_Heap_objects_5 (by decide +kernel) ?_
      refine zz_icmp_ge (tgt := 32) hx hb (by omega) (by omega) d_Heap_objects_7 (by decide) (fun c7 => ?_) (fun c7 => ?_)
      · skip
        refine lv_iload_n hx hb d_Heap_objects_32 rfl (lv_at hl 1 rfl) ?_
        refine zz_top (z := nI (lc_ct (lc_isF fo) 48)) (by rw [show i = 48 by omega]) ?_
        exact hret _ _ _ _ d_Heap_objects_33 hP hD hS
      · skip
        refine lv_iload_n hx hb d_Heap_objects_10 rfl (lv_at hl 1 rfl) ?_
        refine lv_aload_n hx hb d_Heap_objects_11 rfl (lv_at hl 0 rfl) ?_
        refine lv_iload_n hx hb d_Heap_objects_12 rfl (lv_at hl 2 rfl) ?_
        refine zz_callI (np := 1) hx hb hml hown hts hK hP hD hS hA (c_Heap_isFirst l D cI hp ow wo fo fw md i (by omega)) (zz_gv kw_3 kw_4 kw_5 kw_6 kc_2) (by decide +kernel) rfl rfl ⟨Nat.le_of_ble_eq_true rfl, Nat.le_of_ble_eq_true rfl⟩ ⟨Nat.zero_le _, Nat.zero_le _⟩ [0] rfl 0 1 rfl rfl rfl [0, 1, 2] [] [0, 1, 2] rfl (by decide) (wr := []) rfl (by decide) (by decide) (ws' := [(hp, .inr (1, [.ref ow, .ref wo, .int (nI md)])), (ow, .inl (cI, 48, .inl fo)), (wo, .inl (cI, 48, .inl fw))]) rfl (by decide) rfl hl.1 rfl (Nat.le_of_ble_eq_true rfl) d_Heap_objects_13 (fun H locs hP hD hS => ?_)
        refine zz_bI (fun h13 => ?_) (fun h13 => ?_)
        · skip
          refine zz_if_eq (tgt := 23) hx hb (by omega) d_Heap_objects_16 (by decide) (fun c16 => ?_) (fun c16 => ?_)
          · skip
            exact absurd c16 (by omega)
          · skip
            refine lv_iconst (v := nI 1) hx hb d_Heap_objects_19 (by decide +kernel) ?_
            refine lv_goto (tgt := 24) hx hb d_Heap_objects_20 (by decide) ?_
            refine zz_iadd hx hb d_Heap_objects_24 ?_
            refine lv_istore_n (lv' := [(1, .int (nI ((lc_ct (lc_isF fo) i) + 1))), (0, .ref hp), (2, .int (nI i))]) hx hb d_Heap_objects_25 rfl hl (by decide) rfl (fun ls hl => ?_)
            refine lv_iinc (v := nI (i + 1)) (lv' := [(2, .int (nI (i + 1))), (1, .int (nI ((lc_ct (lc_isF fo) i) + 1))), (0, .ref hp)]) hx hb d_Heap_objects_26 hl (k := 2) rfl (nI_1 _) (by decide) rfl (fun ls hl => ?_)
            refine lv_goto (tgt := 4) hx hb d_Heap_objects_29 (by decide) ?_
            have eL1 : (lc_ct (lc_isF fo) i) + 1 = lc_ct (lc_isF fo) (i + 1) := by simp [lc_ct, *]
            exact ih4 (i + 1) (by omega) (by omega) _ _ hP hD hS _ (zz_hlc (lv_sub (l' := [(0, .ref hp), (1, .int (nI ((lc_ct (lc_isF fo) i) + 1))), (2, .int (nI (i + 1)))]) hl [2, 1, 0] rfl) (zz_c1 rfl (zz_c1 (congrArg (fun v => ((1 : Nat), Value.int (nI v))) eL1) (zz_c1 rfl rfl))))
        · skip
          refine zz_if_eq (tgt := 23) hx hb (by omega) d_Heap_objects_16 (by decide) (fun c16 => ?_) (fun c16 => ?_)
          · skip
            refine lv_iconst (v := nI 0) hx hb d_Heap_objects_23 (by decide +kernel) ?_
            refine zz_iadd hx hb d_Heap_objects_24 ?_
            refine lv_istore_n (lv' := [(1, .int (nI ((lc_ct (lc_isF fo) i) + 0))), (0, .ref hp), (2, .int (nI i))]) hx hb d_Heap_objects_25 rfl hl (by decide) rfl (fun ls hl => ?_)
            refine lv_iinc (v := nI (i + 1)) (lv' := [(2, .int (nI (i + 1))), (1, .int (nI ((lc_ct (lc_isF fo) i) + 0))), (0, .ref hp)]) hx hb d_Heap_objects_26 hl (k := 2) rfl (nI_1 _) (by decide) rfl (fun ls hl => ?_)
            refine lv_goto (tgt := 4) hx hb d_Heap_objects_29 (by decide) ?_
            have eL2 : (lc_ct (lc_isF fo) i) + 0 = lc_ct (lc_isF fo) (i + 1) := by simp [lc_ct, *]
            exact ih4 (i + 1) (by omega) (by omega) _ _ hP hD hS _ (zz_hlc (lv_sub (l' := [(0, .ref hp), (1, .int (nI ((lc_ct (lc_isF fo) i) + 0))), (2, .int (nI (i + 1)))]) hl [2, 1, 0] rfl) (zz_c1 rfl (zz_c1 (congrArg (fun v => ((1 : Nat), Value.int (nI v))) eL2) (zz_c1 rfl rfl))))
          · skip
            exact absurd c16 (by omega)
  have eL3 : 0 = lc_ct (lc_isF fo) 0 := by simp [lc_ct, *]
  exact loop4 49 0 (by omega) (by omega) _ _ hP hD hS _ (zz_hlc (lv_sub (l' := [(0, .ref hp), (1, .int (nI 0)), (2, .int (nI 0))]) hl [2, 1, 0] rfl) (zz_c1 rfl (zz_c1 (congrArg (fun v => ((1 : Nat), Value.int (nI v))) eL3) (zz_c1 rfl rfl))))
set_option maxHeartbeats 4000000 in
set_option maxRecDepth 100000 in
theorem c_Heap_uncountedObjects (l : Launch) (D : va_G) (cI : ClassId) (hp : Nat) (ow : Nat) (wo : Nat) (fo : lc_A) (fw : lc_A) (md : Nat)  : zz_MI l y_Heap_uncountedObjects b_Heap_uncountedObjects 3 .int ({ frames := 2, cells := 0, slots := 0, locals := 42 } : Room) D [(cI, .int)] [.ref hp] [(hp, .inr (1, [.ref ow, .ref wo, .int (nI md)])), (ow, .inl (cI, 48, .inl fo)), (wo, .inl (cI, 48, .inl fw))] (nI (lc_ct (lc_isU fo fw) 48)) [(hp, .inr (1, [.ref ow, .ref wo, .int (nI md)])), (ow, .inl (cI, 48, .inl fo)), (wo, .inl (cI, 48, .inl fw))] := by
  refine zz_MI_of (by decide) (Nat.le_of_ble_eq_true rfl) (vp_nar_int _) ?_
  intro p e s m args below meth c A ls Q hx hb hml hown hts hK hP hD hS hA hl hret
  have hown : s.vm.findClass R_Heap = some m.cls := hown
  have hl : lv_has ls 3 [(0, .ref hp)] := hl
  refine lv_iconst (v := nI 0) hx hb d_Heap_uncountedObjects_0 (by decide +kernel) ?_
  refine lv_istore_n (lv' := [(1, .int (nI 0)), (0, .ref hp)]) hx hb d_Heap_uncountedObjects_1 rfl hl (by decide) rfl (fun ls hl => ?_)
  refine lv_iconst (v := nI 0) hx hb d_Heap_uncountedObjects_2 (by decide +kernel) ?_
  refine lv_istore_n (lv' := [(2, .int (nI 0)), (1, .int (nI 0)), (0, .ref hp)]) hx hb d_Heap_uncountedObjects_3 rfl hl (by decide) rfl (fun ls hl => ?_)
  have loop4 : ∀ (fu : Nat) (i : Nat), 48 - i < fu → (hi : i ≤ 48) → ∀ (H : Heap) (locs : List Loc), va_P D classes [(hp, .inr (1, [.ref ow, .ref wo, .int (nI md)])), (ow, .inl (cI, 48, .inl fo)), (wo, .inl (cI, 48, .inl fw))] H → va_D A [(hp, .inr (1, [.ref ow, .ref wo, .int (nI md)])), (ow, .inl (cI, 48, .inl fo)), (wo, .inl (cI, 48, .inl fw))] → va_S A s.heap H locs → ∀ (ls : Array Slot), lv_has ls 3 [(0, .ref hp), (1, .int (nI (lc_ct (lc_isU fo fw) i))), (2, .int (nI i))] → W p l e ({ frames := 2, cells := 0, slots := 0, locals := 42 } : Room) s m args below meth c H locs 0 0 Q (F0 m 4 ls []) := by
    intro fu
    induction fu with
    | zero => intro i hf; omega
    | succ fu ih4 =>
      intro i hf hi H locs hP hD hS ls hl
      refine lv_iload_n hx hb d_Heap_uncountedObjects_4 rfl (lv_at hl 2 rfl) ?_
      refine lv_bipush (v := nI 48) hx hb d_Heap_uncountedObjects_5 (by decide +kernel) ?_
      refine zz_icmp_ge (tgt := 32) hx hb (by omega) (by omega) d_Heap_uncountedObjects_7 (by decide) (fun c7 => ?_) (fun c7 => ?_)
      · skip
        refine lv_iload_n hx hb d_Heap_uncountedObjects_32 rfl (lv_at hl 1 rfl) ?_
        refine zz_top (z := nI (lc_ct (lc_isU fo fw) 48)) (by rw [show i = 48 by omega]) ?_
        exact hret _ _ _ _ d_Heap_uncountedObjects_33 hP hD hS
      · skip
        refine lv_iload_n hx hb d_Heap_uncountedObjects_10 rfl (lv_at hl 1 rfl) ?_
        refine lv_aload_n hx hb d_Heap_uncountedObjects_11 rfl (lv_at hl 0 rfl) ?_
        refine lv_iload_n hx hb d_Heap_uncountedObjects_12 rfl (lv_at hl 2 rfl) ?_
        refine zz_callI (np := 1) hx hb hml hown hts hK hP hD hS hA (c_Heap_isUncounted l D cI hp ow wo fo fw md i (by omega)) (zz_gv kw_12 kw_13 kw_14 kw_6 kc_11) (by decide +kernel) rfl rfl ⟨Nat.le_of_ble_eq_true rfl, Nat.le_of_ble_eq_true rfl⟩ ⟨Nat.zero_le _, Nat.zero_le _⟩ [0] rfl 0 1 rfl rfl rfl [0, 1, 2] [] [0, 1, 2] rfl (by decide) (wr := []) rfl (by decide) (by decide) (ws' := [(hp, .inr (1, [.ref ow, .ref wo, .int (nI md)])), (ow, .inl (cI, 48, .inl fo)), (wo, .inl (cI, 48, .inl fw))]) rfl (by decide) rfl hl.1 rfl (Nat.le_of_ble_eq_true rfl) d_Heap_uncountedObjects_13 (fun H locs hP hD hS => ?_)
        refine zz_bI (fun h13 => ?_) (fun h13 => ?_)
        · skip
          refine zz_if_eq (tgt := 23) hx hb (by omega) d_Heap_uncountedObjects_16 (by decide) (fun c16 => ?_) (fun c16 => ?_)
          · skip
            exact absurd c16 (by omega)
          · skip
            refine lv_iconst (v := nI 1) hx hb d_Heap_uncountedObjects_19 (by decide +kernel) ?_
            refine lv_goto (tgt := 24) hx hb d_Heap_uncountedObjects_20 (by decide) ?_
            refine zz_iadd hx hb d_Heap_uncountedObjects_24 ?_
            refine lv_istore_n (lv' := [(1, .int (nI ((lc_ct (lc_isU fo fw) i) + 1))), (0, .ref hp), (2, .int (nI i))]) hx hb d_Heap_uncountedObjects_25 rfl hl (by decide) rfl (fun ls hl => ?_)
            refine lv_iinc (v := nI (i + 1)) (lv' := [(2, .int (nI (i + 1))), (1, .int (nI ((lc_ct (lc_isU fo fw) i) + 1))), (0, .ref hp)]) hx hb d_Heap_uncountedObjects_26 hl (k := 2) rfl (nI_1 _) (by decide) rfl (fun ls hl => ?_)
            refine lv_goto (tgt := 4) hx hb d_Heap_uncountedObjects_29 (by decide) ?_
            have eL1 : (lc_ct (lc_isU fo fw) i) + 1 = lc_ct (lc_isU fo fw) (i + 1) := by simp [lc_ct, *]
            exact ih4 (i + 1) (by omega) (by omega) _ _ hP hD hS _ (zz_hlc (lv_sub (l' := [(0, .ref hp), (1, .int (nI ((lc_ct (lc_isU fo fw) i) + 1))), (2, .int (nI (i + 1)))]) hl [2, 1, 0] rfl) (zz_c1 rfl (zz_c1 (congrArg (fun v => ((1 : Nat), Value.int (nI v))) eL1) (zz_c1 rfl rfl))))
        · skip
          refine zz_if_eq (tgt := 23) hx hb (by omega) d_Heap_uncountedObjects_16 (by decide) (fun c16 => ?_) (fun c16 => ?_)
          · skip
            refine lv_iconst (v := nI 0) hx hb d_Heap_uncountedObjects_23 (by decide +kernel) ?_
            refine zz_iadd hx hb d_Heap_uncountedObjects_24 ?_
            refine lv_istore_n (lv' := [(1, .int (nI ((lc_ct (lc_isU fo fw) i) + 0))), (0, .ref hp), (2, .int (nI i))]) hx hb d_Heap_uncountedObjects_25 rfl hl (by decide) rfl (fun ls hl => ?_)
            refine lv_iinc (v := nI (i + 1)) (lv' := [(2, .int (nI (i + 1))), (1, .int (nI ((lc_ct (lc_isU fo fw) i) + 0))), (0, .ref hp)]) hx hb d_Heap_uncountedObjects_26 hl (k := 2) rfl (nI_1 _) (by decide) rfl (fun ls hl => ?_)
            refine lv_goto (tgt := 4) hx hb d_Heap_uncountedObjects_29 (by decide) ?_
            have eL2 : (lc_ct (lc_isU fo fw) i) + 0 = lc_ct (lc_isU fo fw) (i + 1) := by simp [lc_ct, *]
            exact ih4 (i + 1) (by omega) (by omega) _ _ hP hD hS _ (zz_hlc (lv_sub (l' := [(0, .ref hp), (1, .int (nI ((lc_ct (lc_isU fo fw) i) + 0))), (2, .int (nI (i + 1)))]) hl [2, 1, 0] rfl) (zz_c1 rfl (zz_c1 (congrArg (fun v => ((1 : Nat), Value.int (nI v))) eL2) (zz_c1 rfl rfl))))
          · skip
            exact absurd c16 (by omega)
  have eL3 : 0 = lc_ct (lc_isU fo fw) 0 := by simp [lc_ct, *]
  exact loop4 49 0 (by omega) (by omega) _ _ hP hD hS _ (zz_hlc (lv_sub (l' := [(0, .ref hp), (1, .int (nI 0)), (2, .int (nI 0))]) hl [2, 1, 0] rfl) (zz_c1 rfl (zz_c1 (congrArg (fun v => ((1 : Nat), Value.int (nI v))) eL3) (zz_c1 rfl rfl))))
set_option maxHeartbeats 4000000 in
set_option maxRecDepth 100000 in
theorem c_Heap_freeCells (l : Launch) (D : va_G) (cI : ClassId) (hp : Nat) (ow : Nat) (wo : Nat) (fo : lc_A) (fw : lc_A) (md : Nat)  : zz_MI l y_Heap_freeCells b_Heap_freeCells 3 .int ({ frames := 0, cells := 0, slots := 0, locals := 0 } : Room) D [(cI, .int)] [.ref hp] [(hp, .inr (1, [.ref ow, .ref wo, .int (nI md)])), (ow, .inl (cI, 48, .inl fo)), (wo, .inl (cI, 48, .inl fw))] (nI (lc_ct (fun u => decide (fo u = 0)) 48)) [(hp, .inr (1, [.ref ow, .ref wo, .int (nI md)])), (ow, .inl (cI, 48, .inl fo)), (wo, .inl (cI, 48, .inl fw))] := by
  refine zz_MI_of (by decide) (Nat.le_of_ble_eq_true rfl) (vp_nar_int _) ?_
  intro p e s m args below meth c A ls Q hx hb hml hown hts hK hP hD hS hA hl hret
  have hown : s.vm.findClass R_Heap = some m.cls := hown
  have hl : lv_has ls 3 [(0, .ref hp)] := hl
  refine lv_iconst (v := nI 0) hx hb d_Heap_freeCells_0 (by decide +kernel) ?_
  refine lv_istore_n (lv' := [(1, .int (nI 0)), (0, .ref hp)]) hx hb d_Heap_freeCells_1 rfl hl (by decide) rfl (fun ls hl => ?_)
  refine lv_iconst (v := nI 0) hx hb d_Heap_freeCells_2 (by decide +kernel) ?_
  refine lv_istore_n (lv' := [(2, .int (nI 0)), (1, .int (nI 0)), (0, .ref hp)]) hx hb d_Heap_freeCells_3 rfl hl (by decide) rfl (fun ls hl => ?_)
  have loop4 : ∀ (fu : Nat) (i : Nat), 48 - i < fu → (hi : i ≤ 48) → ∀ (H : Heap) (locs : List Loc), va_P D classes [(hp, .inr (1, [.ref ow, .ref wo, .int (nI md)])), (ow, .inl (cI, 48, .inl fo)), (wo, .inl (cI, 48, .inl fw))] H → va_D A [(hp, .inr (1, [.ref ow, .ref wo, .int (nI md)])), (ow, .inl (cI, 48, .inl fo)), (wo, .inl (cI, 48, .inl fw))] → va_S A s.heap H locs → ∀ (ls : Array Slot), lv_has ls 3 [(0, .ref hp), (1, .int (nI (lc_ct (fun u => decide (fo u = 0)) i))), (2, .int (nI i))] → W p l e ({ frames := 0, cells := 0, slots := 0, locals := 0 } : Room) s m args below meth c H locs 0 0 Q (F0 m 4 ls []) := by
    intro fu
    induction fu with
    | zero => intro i hf; omega
    | succ fu ih4 =>
      intro i hf hi H locs hP hD hS ls hl
      refine lv_iload_n hx hb d_Heap_freeCells_4 rfl (lv_at hl 2 rfl) ?_
      refine lv_bipush (v := nI 48) hx hb d_Heap_freeCells_5 (by decide +kernel) ?_
      refine zz_icmp_ge (tgt := 33) hx hb (by omega) (by omega) d_Heap_freeCells_7 (by decide) (fun c7 => ?_) (fun c7 => ?_)
      · skip
        refine lv_iload_n hx hb d_Heap_freeCells_33 rfl (lv_at hl 1 rfl) ?_
        refine zz_top (z := nI (lc_ct (fun u => decide (fo u = 0)) 48)) (by rw [show i = 48 by omega]) ?_
        exact hret _ _ _ _ d_Heap_freeCells_34 hP hD hS
      · skip
        refine lv_iload_n hx hb d_Heap_freeCells_10 rfl (lv_at hl 1 rfl) ?_
        refine lv_aload_n hx hb d_Heap_freeCells_11 rfl (lv_at hl 0 rfl) ?_
        refine va_get (D := D) (ci := 1) (v := .ref ow) (C := R_Heap) (T := F_Heap) (N := 3) hx hb hts i_Heap hown hK hP 0 rfl rfl 0 (by decide) (hts _ kw_0) (fun _ h9 => h9) rfl d_Heap_freeCells_12 ?_
        refine lv_iload_n hx hb d_Heap_freeCells_15 rfl (lv_at hl 2 rfl) ?_
        refine zz_iald hx hb hK hP 1 0 (f := fo) rfl rfl (i := i) (by omega) (by omega) d_Heap_freeCells_16 ?_
        refine lv_if_ne (tgt := 24) hx hb d_Heap_freeCells_17 (by decide) (fun c17 => ?_) (fun c17 => ?_)
        · skip
          refine lv_iconst (v := nI 0) hx hb d_Heap_freeCells_24 (by decide +kernel) ?_
          refine zz_iadd hx hb d_Heap_freeCells_25 ?_
          refine lv_istore_n (lv' := [(1, .int (nI ((lc_ct (fun u => decide (fo u = 0)) i) + 0))), (0, .ref hp), (2, .int (nI i))]) hx hb d_Heap_freeCells_26 rfl hl (by decide) rfl (fun ls hl => ?_)
          refine lv_iinc (v := nI (i + 1)) (lv' := [(2, .int (nI (i + 1))), (1, .int (nI ((lc_ct (fun u => decide (fo u = 0)) i) + 0))), (0, .ref hp)]) hx hb d_Heap_freeCells_27 hl (k := 2) rfl (nI_1 _) (by decide) rfl (fun ls hl => ?_)
          refine lv_goto (tgt := 4) hx hb d_Heap_freeCells_30 (by decide) ?_
          have eL1 : (lc_ct (fun u => decide (fo u = 0)) i) + 0 = lc_ct (fun u => decide (fo u = 0)) (i + 1) := by simp [lc_ct, *]
          exact ih4 (i + 1) (by omega) (by omega) _ _ hP hD hS _ (zz_hlc (lv_sub (l' := [(0, .ref hp), (1, .int (nI ((lc_ct (fun u => decide (fo u = 0)) i) + 0))), (2, .int (nI (i + 1)))]) hl [2, 1, 0] rfl) (zz_c1 rfl (zz_c1 (congrArg (fun v => ((1 : Nat), Value.int (nI v))) eL1) (zz_c1 rfl rfl))))
        · skip
          refine lv_iconst (v := nI 1) hx hb d_Heap_freeCells_20 (by decide +kernel) ?_
          refine lv_goto (tgt := 25) hx hb d_Heap_freeCells_21 (by decide) ?_
          refine zz_iadd hx hb d_Heap_freeCells_25 ?_
          refine lv_istore_n (lv' := [(1, .int (nI ((lc_ct (fun u => decide (fo u = 0)) i) + 1))), (0, .ref hp), (2, .int (nI i))]) hx hb d_Heap_freeCells_26 rfl hl (by decide) rfl (fun ls hl => ?_)
          refine lv_iinc (v := nI (i + 1)) (lv' := [(2, .int (nI (i + 1))), (1, .int (nI ((lc_ct (fun u => decide (fo u = 0)) i) + 1))), (0, .ref hp)]) hx hb d_Heap_freeCells_27 hl (k := 2) rfl (nI_1 _) (by decide) rfl (fun ls hl => ?_)
          refine lv_goto (tgt := 4) hx hb d_Heap_freeCells_30 (by decide) ?_
          have eL2 : (lc_ct (fun u => decide (fo u = 0)) i) + 1 = lc_ct (fun u => decide (fo u = 0)) (i + 1) := by simp [lc_ct, *]
          exact ih4 (i + 1) (by omega) (by omega) _ _ hP hD hS _ (zz_hlc (lv_sub (l' := [(0, .ref hp), (1, .int (nI ((lc_ct (fun u => decide (fo u = 0)) i) + 1))), (2, .int (nI (i + 1)))]) hl [2, 1, 0] rfl) (zz_c1 rfl (zz_c1 (congrArg (fun v => ((1 : Nat), Value.int (nI v))) eL2) (zz_c1 rfl rfl))))
  have eL3 : 0 = lc_ct (fun u => decide (fo u = 0)) 0 := by simp [lc_ct, *]
  exact loop4 49 0 (by omega) (by omega) _ _ hP hD hS _ (zz_hlc (lv_sub (l' := [(0, .ref hp), (1, .int (nI 0)), (2, .int (nI 0))]) hl [2, 1, 0] rfl) (zz_c1 rfl (zz_c1 (congrArg (fun v => ((1 : Nat), Value.int (nI v))) eL3) (zz_c1 rfl rfl))))
set_option maxHeartbeats 4000000 in
set_option maxRecDepth 100000 in
theorem c_Heap_addToCount (l : Launch) (D : va_G) (cI : ClassId) (hp : Nat) (ow : Nat) (wo : Nat) (fo : lc_A) (fw : lc_A) (md : Nat) (x : Int32) (d : Int32)  : zz_MV l y_Heap_addToCount b_Heap_addToCount 4 ({ frames := 1, cells := 0, slots := 0, locals := 22 } : Room) D [(cI, .int)] [.ref hp, .int x, .int d] [(hp, .inr (1, [.ref ow, .ref wo, .int (nI md)])), (ow, .inl (cI, 48, .inl fo)), (wo, .inl (cI, 48, .inl fw))] [(hp, .inr (1, [.ref ow, .ref wo, .int (nI md)])), (ow, .inl (cI, 48, .inl fo)), (wo, .inl (cI, 48, .inl (lc_add fo fw x d)))] := by
  refine zz_MV_of (by decide) (Nat.le_of_ble_eq_true rfl) ?_
  intro p e s m args below meth c A ls Q hx hb hml hown hts hK hP hD hS hA hl hret
  have hown : s.vm.findClass R_Heap = some m.cls := hown
  have hl : lv_has ls 4 [(0, .ref hp), (1, .int x), (2, .int d)] := hl
  refine lv_aload_n hx hb d_Heap_addToCount_0 rfl (lv_at hl 0 rfl) ?_
  refine lv_iload_n hx hb d_Heap_addToCount_1 rfl (lv_at hl 1 rfl) ?_
  refine zz_callI (np := 1) hx hb hml hown hts hK hP hD hS hA (c_Heap_firstCellOf l D cI hp ow wo fo fw md x ) (zz_gv kw_16 kw_17 kw_18 kw_6 kc_15) (by decide +kernel) rfl rfl ⟨Nat.le_of_ble_eq_true rfl, Nat.le_of_ble_eq_true rfl⟩ ⟨Nat.zero_le _, Nat.zero_le _⟩ [0] rfl 0 1 rfl rfl rfl [0, 1, 2] [] [0, 1, 2] rfl (by decide) (wr := []) rfl (by decide) (by decide) (ws' := [(hp, .inr (1, [.ref ow, .ref wo, .int (nI md)])), (ow, .inl (cI, 48, .inl fo)), (wo, .inl (cI, 48, .inl fw))]) rfl (by decide) rfl hl.1 rfl (Nat.le_of_ble_eq_true rfl) d_Heap_addToCount_2 (fun H locs hP hD hS => ?_)
  refine zz_oI (fun h2 => ?_) (fun k2 h2 => ?_)
  · skip
    refine lv_istore_n (lv' := [(3, .int (-1)), (0, .ref hp), (1, .int x), (2, .int d)]) hx hb d_Heap_addToCount_5 rfl hl (by decide) rfl (fun ls hl => ?_)
    refine lv_iload_n hx hb d_Heap_addToCount_6 rfl (lv_at hl 0 rfl) ?_
    refine lv_iconst (v := (-1)) hx hb d_Heap_addToCount_7 (by decide +kernel) ?_
    refine lv_icmp_eq (tgt := 21) hx hb d_Heap_addToCount_8 (by decide) (fun c8 => ?_) (fun c8 => ?_)
    · skip
      have eW : ([(hp, .inr (1, [.ref ow, .ref wo, .int (nI md)])), (ow, .inl (cI, 48, .inl fo)), (wo, .inl (cI, 48, .inl fw))] : va_W) = [(hp, .inr (1, [.ref ow, .ref wo, .int (nI md)])), (ow, .inl (cI, 48, .inl fo)), (wo, .inl (cI, 48, .inl (lc_add fo fw x d)))] := by simp only [lc_add, *]
      exact hret _ _ _ _ d_Heap_addToCount_21 (zz_toP eW hP) (zz_toD eW hD) hS
    · skip
      exact absurd rfl c8
  · skip
    have hk := (lc_first_lt h2).1
    refine lv_istore_n (lv' := [(3, .int (nI k2)), (0, .ref hp), (1, .int x), (2, .int d)]) hx hb d_Heap_addToCount_5 rfl hl (by decide) rfl (fun ls hl => ?_)
    refine lv_iload_n hx hb d_Heap_addToCount_6 rfl (lv_at hl 0 rfl) ?_
    refine lv_iconst (v := (-1)) hx hb d_Heap_addToCount_7 (by decide +kernel) ?_
    refine lv_icmp_eq (tgt := 21) hx hb d_Heap_addToCount_8 (by decide) (fun c8 => ?_) (fun c8 => ?_)
    · skip
      exact absurd c8 (zz_nm1 (by omega))
    · skip
      refine lv_aload_n hx hb d_Heap_addToCount_11 rfl (lv_at hl 1 rfl) ?_
      refine va_get (D := D) (ci := 1) (v := .ref wo) (C := R_Heap) (T := F_Heap) (N := 3) hx hb hts i_Heap hown hK hP 0 rfl rfl 1 (by decide) (hts _ kw_1) (fun _ h9 => h9) rfl d_Heap_addToCount_12 ?_
      refine lv_iload_n hx hb d_Heap_addToCount_15 rfl (lv_at hl 0 rfl) ?_
      refine lv_dup2_11 hx hb d_Heap_addToCount_16 rfl rfl ?_
      refine zz_iald hx hb hK hP 2 0 (f := fw) rfl rfl (i := k2) (by omega) (by omega) d_Heap_addToCount_17 ?_
      refine lv_iload_n hx hb d_Heap_addToCount_18 rfl (lv_at hl 3 rfl) ?_
      refine lv_iadd hx hb d_Heap_addToCount_19 ?_
      refine zz_iast hx hb hK hP hD hS 2 0 (f := fw) rfl rfl (i := k2) (by omega) (by omega) d_Heap_addToCount_20 (g := upd fw k2 ((fw k2) + d)) rfl (ws' := [(hp, .inr (1, [.ref ow, .ref wo, .int (nI md)])), (ow, .inl (cI, 48, .inl fo)), (wo, .inl (cI, 48, .inl (upd fw k2 ((fw k2) + d))))]) rfl (fun H locs hP hD hS => ?_)
      have eW : ([(hp, .inr (1, [.ref ow, .ref wo, .int (nI md)])), (ow, .inl (cI, 48, .inl fo)), (wo, .inl (cI, 48, .inl (upd fw k2 ((fw k2) + d))))] : va_W) = [(hp, .inr (1, [.ref ow, .ref wo, .int (nI md)])), (ow, .inl (cI, 48, .inl fo)), (wo, .inl (cI, 48, .inl (lc_add fo fw x d)))] := by simp only [lc_add, *]
      exact hret _ _ _ _ d_Heap_addToCount_21 (zz_toP eW hP) (zz_toD eW hD) hS
set_option maxHeartbeats 4000000 in
set_option maxRecDepth 100000 in
theorem c_Heap_layNew (l : Launch) (D : va_G) (cI : ClassId) (hp : Nat) (ow : Nat) (wo : Nat) (fo : lc_A) (fw : lc_A) (md : Nat) (a : Nat) (n : Nat) (hn : a + n < 48) : zz_MI l y_Heap_layNew b_Heap_layNew 4 .int ({ frames := 0, cells := 0, slots := 0, locals := 0 } : Room) D [(cI, .int)] [.ref hp, .int (nI a), .int (nI n)] [(hp, .inr (1, [.ref ow, .ref wo, .int (nI md)])), (ow, .inl (cI, 48, .inl fo)), (wo, .inl (cI, 48, .inl fw))] (nI (md + 1)) [(hp, .inr (1, [.ref ow, .ref wo, .int (nI (md + 1))])), (ow, .inl (cI, 48, .inl (lc_fill fo a (n + 1) (nI (md + 1))))), (wo, .inl (cI, 48, .inl (lc_fill fw a (n + 1) 0)))] := by
  refine zz_MI_of (by decide) (Nat.le_of_ble_eq_true rfl) (vp_nar_int _) ?_
  intro p e s m args below meth c A ls Q hx hb hml hown hts hK hP hD hS hA hl hret
  have hown : s.vm.findClass R_Heap = some m.cls := hown
  have hl : lv_has ls 4 [(0, .ref hp), (1, .int (nI a)), (2, .int (nI n))] := hl
  refine lv_aload_n hx hb d_Heap_layNew_0 rfl (lv_at hl 0 rfl) ?_
  refine lv_dup hx hb d_Heap_layNew_1 rfl ?_
  refine va_get (D := D) (ci := 1) (v := .int (nI md)) (C := R_Heap) (T := F_Heap) (N := 3) hx hb hts i_Heap hown hK hP 0 rfl rfl 2 (by decide) (hts _ kw_19) (fun _ h9 => h9) rfl d_Heap_layNew_2 ?_
  refine lv_iconst (v := nI 1) hx hb d_Heap_layNew_5 (by decide +kernel) ?_
  refine zz_iadd hx hb d_Heap_layNew_6 ?_
  refine va_put (D := D) (ci := 1) (v := .int (nI (md + 1))) (ty := .int) (C := R_Heap) (T := F_Heap) (N := 3) hx hb hts i_Heap t_Heap t_Heap_ok n_Heap hown hK hP hD hS 0 rfl rfl 2 (by decide) (hts _ kw_19) (fun _ h9 => h9) rfl (by decide +kernel) rfl rfl (Nat.le_of_ble_eq_true rfl) d_Heap_layNew_7 (fun H locs hP hD hS => ?_)
  have hP : va_P D classes [(hp, .inr (1, [.ref ow, .ref wo, .int (nI (md + 1))])), (ow, .inl (cI, 48, .inl fo)), (wo, .inl (cI, 48, .inl fw))] H := hP
  have hD : va_D A [(hp, .inr (1, [.ref ow, .ref wo, .int (nI (md + 1))])), (ow, .inl (cI, 48, .inl fo)), (wo, .inl (cI, 48, .inl fw))] := hD
  refine lv_iload_n hx hb d_Heap_layNew_10 rfl (lv_at hl 1 rfl) ?_
  refine lv_istore_n (lv' := [(3, .int (nI a)), (0, .ref hp), (1, .int (nI a)), (2, .int (nI n))]) hx hb d_Heap_layNew_11 rfl hl (by decide) rfl (fun ls hl => ?_)
  have loop12 : ∀ (fu : Nat) (j : Nat), 48 - j < fu → (hj : j ≤ n + 1) → ∀ (H : Heap) (locs : List Loc), va_P D classes [(hp, .inr (1, [.ref ow, .ref wo, .int (nI (md + 1))])), (ow, .inl (cI, 48, .inl (lc_fill fo a j (nI (md + 1))))), (wo, .inl (cI, 48, .inl (lc_fill fw a j 0)))] H → va_D A [(hp, .inr (1, [.ref ow, .ref wo, .int (nI (md + 1))])), (ow, .inl (cI, 48, .inl (lc_fill fo a j (nI (md + 1))))), (wo, .inl (cI, 48, .inl (lc_fill fw a j 0)))] → va_S A s.heap H locs → ∀ (ls : Array Slot), lv_has ls 4 [(0, .ref hp), (1, .int (nI a)), (2, .int (nI n)), (3, .int (nI (a + j)))] → W p l e ({ frames := 0, cells := 0, slots := 0, locals := 0 } : Room) s m args below meth c H locs 0 0 Q (F0 m 12 ls []) := by
    intro fu
    induction fu with
    | zero => intro j hf; omega
    | succ fu ih12 =>
      intro j hf hj H locs hP hD hS ls hl
      refine lv_iload_n hx hb d_Heap_layNew_12 rfl (lv_at hl 3 rfl) ?_
      refine lv_iload_n hx hb d_Heap_layNew_13 rfl (lv_at hl 1 rfl) ?_
      refine lv_iload_n hx hb d_Heap_layNew_14 rfl (lv_at hl 2 rfl) ?_
      refine zz_iadd hx hb d_Heap_layNew_15 ?_
      refine zz_icmp_gt (tgt := 42) hx hb (by omega) (by omega) d_Heap_layNew_16 (by decide) (fun c16 => ?_) (fun c16 => ?_)
      · skip
        refine lv_aload_n hx hb d_Heap_layNew_42 rfl (lv_at hl 0 rfl) ?_
        refine va_get (D := D) (ci := 1) (v := .int (nI (md + 1))) (C := R_Heap) (T := F_Heap) (N := 3) hx hb hts i_Heap hown hK hP 0 rfl rfl 2 (by decide) (hts _ kw_19) (fun _ h9 => h9) rfl d_Heap_layNew_43 ?_
        have eW : ([(hp, .inr (1, [.ref ow, .ref wo, .int (nI (md + 1))])), (ow, .inl (cI, 48, .inl (lc_fill fo a j (nI (md + 1))))), (wo, .inl (cI, 48, .inl (lc_fill fw a j 0)))] : va_W) = [(hp, .inr (1, [.ref ow, .ref wo, .int (nI (md + 1))])), (ow, .inl (cI, 48, .inl (lc_fill fo a (n + 1) (nI (md + 1))))), (wo, .inl (cI, 48, .inl (lc_fill fw a (n + 1) 0)))] := by rw [show j = n + 1 by omega]
        exact hret _ _ _ _ d_Heap_layNew_46 (zz_toP eW hP) (zz_toD eW hD) hS
      · skip
        refine lv_aload_n hx hb d_Heap_layNew_19 rfl (lv_at hl 0 rfl) ?_
        refine va_get (D := D) (ci := 1) (v := .ref ow) (C := R_Heap) (T := F_Heap) (N := 3) hx hb hts i_Heap hown hK hP 0 rfl rfl 0 (by decide) (hts _ kw_0) (fun _ h9 => h9) rfl d_Heap_layNew_20 ?_
        refine lv_iload_n hx hb d_Heap_layNew_23 rfl (lv_at hl 3 rfl) ?_
        refine lv_aload_n hx hb d_Heap_layNew_24 rfl (lv_at hl 0 rfl) ?_
        refine va_get (D := D) (ci := 1) (v := .int (nI (md + 1))) (C := R_Heap) (T := F_Heap) (N := 3) hx hb hts i_Heap hown hK hP 0 rfl rfl 2 (by decide) (hts _ kw_19) (fun _ h9 => h9) rfl d_Heap_layNew_25 ?_
        refine zz_iast hx hb hK hP hD hS 1 0 (f := lc_fill fo a j (nI (md + 1))) rfl rfl (i := a + j) (by omega) (by omega) d_Heap_layNew_28 (g := lc_fill fo a (j + 1) (nI (md + 1))) (lc_fill_s _ _ _ _) (ws' := [(hp, .inr (1, [.ref ow, .ref wo, .int (nI (md + 1))])), (ow, .inl (cI, 48, .inl (lc_fill fo a (j + 1) (nI (md + 1))))), (wo, .inl (cI, 48, .inl (lc_fill fw a j 0)))]) rfl (fun H locs hP hD hS => ?_)
        refine lv_aload_n hx hb d_Heap_layNew_29 rfl (lv_at hl 0 rfl) ?_
        refine va_get (D := D) (ci := 1) (v := .ref wo) (C := R_Heap) (T := F_Heap) (N := 3) hx hb hts i_Heap hown hK hP 0 rfl rfl 1 (by decide) (hts _ kw_1) (fun _ h9 => h9) rfl d_Heap_layNew_30 ?_
        refine lv_iload_n hx hb d_Heap_layNew_33 rfl (lv_at hl 3 rfl) ?_
        refine lv_iconst (v := nI 0) hx hb d_Heap_layNew_34 (by decide +kernel) ?_
        refine zz_iast hx hb hK hP hD hS 2 0 (f := lc_fill fw a j 0) rfl rfl (i := a + j) (by omega) (by omega) d_Heap_layNew_35 (g := lc_fill fw a (j + 1) 0) (by rw [nI_0]; exact lc_fill_s _ _ _ _) (ws' := [(hp, .inr (1, [.ref ow, .ref wo, .int (nI (md + 1))])), (ow, .inl (cI, 48, .inl (lc_fill fo a (j + 1) (nI (md + 1))))), (wo, .inl (cI, 48, .inl (lc_fill fw a (j + 1) 0)))]) rfl (fun H locs hP hD hS => ?_)
        refine lv_iinc (v := nI ((a + j) + 1)) (lv' := [(3, .int (nI ((a + j) + 1))), (0, .ref hp), (1, .int (nI a)), (2, .int (nI n))]) hx hb d_Heap_layNew_36 hl (k := 3) rfl (nI_1 _) (by decide) rfl (fun ls hl => ?_)
        refine lv_goto (tgt := 12) hx hb d_Heap_layNew_39 (by decide) ?_
        have eL1 : (a + j) + 1 = a + (j + 1) := by omega
        exact ih12 (j + 1) (by omega) (by omega) _ _ hP hD hS _ (zz_hlc (lv_sub (l' := [(0, .ref hp), (1, .int (nI a)), (2, .int (nI n)), (3, .int (nI ((a + j) + 1)))]) hl [1, 2, 3, 0] rfl) (zz_c1 rfl (zz_c1 rfl (zz_c1 rfl (zz_c1 (congrArg (fun v => ((3 : Nat), Value.int (nI v))) eL1) rfl)))))
  have eL2 : a = a + 0 := by omega
  have eW3 : ([(hp, .inr (1, [.ref ow, .ref wo, .int (nI (md + 1))])), (ow, .inl (cI, 48, .inl fo)), (wo, .inl (cI, 48, .inl fw))] : va_W) = [(hp, .inr (1, [.ref ow, .ref wo, .int (nI (md + 1))])), (ow, .inl (cI, 48, .inl (lc_fill fo a 0 (nI (md + 1))))), (wo, .inl (cI, 48, .inl (lc_fill fw a 0 0)))] := by simp only [lc_fill_0]
  have hP := zz_toP eW3 hP
  have hD := zz_toD eW3 hD
  exact loop12 49 0 (by omega) (by omega) _ _ hP hD hS _ (zz_hlc (lv_sub (l' := [(0, .ref hp), (1, .int (nI a)), (2, .int (nI n)), (3, .int (nI a))]) hl [1, 2, 3, 0] rfl) (zz_c1 rfl (zz_c1 rfl (zz_c1 rfl (zz_c1 (congrArg (fun v => ((3 : Nat), Value.int (nI v))) eL2) rfl)))))
set_option maxHeartbeats 4000000 in
set_option maxRecDepth 100000 in
theorem c_Heap_giveBack (l : Launch) (D : va_G) (cI : ClassId) (hp : Nat) (ow : Nat) (wo : Nat) (fo : lc_A) (fw : lc_A) (md : Nat) (a : Nat) (ha : a < 48) : zz_MV l y_Heap_giveBack b_Heap_giveBack 4 ({ frames := 2, cells := 0, slots := 0, locals := 45 } : Room) D [(cI, .int)] [.ref hp, .int (nI a)] [(hp, .inr (1, [.ref ow, .ref wo, .int (nI md)])), (ow, .inl (cI, 48, .inl fo)), (wo, .inl (cI, 48, .inl fw))] [(hp, .inr (1, [.ref ow, .ref wo, .int (nI md)])), (ow, .inl (cI, 48, .inl (lc_fill fo a (lc_sa fo a + 1) 0))), (wo, .inl (cI, 48, .inl (lc_gb fo fw a (lc_sa fo a))))] := by
  refine zz_MV_of (by decide) (Nat.le_of_ble_eq_true rfl) ?_
  intro p e s m args below meth c A ls Q hx hb hml hown hts hK hP hD hS hA hl hret
  have hown : s.vm.findClass R_Heap = some m.cls := hown
  have hl : lv_has ls 4 [(0, .ref hp), (1, .int (nI a))] := hl
  have hsa := lc_sa_le fo a
  refine lv_aload_n hx hb d_Heap_giveBack_0 rfl (lv_at hl 0 rfl) ?_
  refine lv_iload_n hx hb d_Heap_giveBack_1 rfl (lv_at hl 1 rfl) ?_
  refine zz_callI (np := 1) hx hb hml hown hts hK hP hD hS hA (c_Heap_slotsAt_s l D cI hp ow wo fo fw md a (by omega)) (zz_gv kw_8 kw_9 kw_10 kw_6 kc_7) (by decide +kernel) rfl rfl ⟨Nat.le_of_ble_eq_true rfl, Nat.le_of_ble_eq_true rfl⟩ ⟨Nat.zero_le _, Nat.zero_le _⟩ [0] rfl 0 1 rfl rfl rfl [0, 1, 2] [] [0, 1, 2] rfl (by decide) (wr := []) rfl (by decide) (by decide) (ws' := [(hp, .inr (1, [.ref ow, .ref wo, .int (nI md)])), (ow, .inl (cI, 48, .inl fo)), (wo, .inl (cI, 48, .inl fw))]) rfl (by decide) rfl hl.1 rfl (Nat.le_of_ble_eq_true rfl) d_Heap_giveBack_2 (fun H locs hP hD hS => ?_)
  refine lv_istore_n (lv' := [(2, .int (nI (lc_sa fo a))), (0, .ref hp), (1, .int (nI a))]) hx hb d_Heap_giveBack_5 rfl hl (by decide) rfl (fun ls hl => ?_)
  refine lv_iconst (v := nI 0) hx hb d_Heap_giveBack_6 (by decide +kernel) ?_
  refine lv_istore_n (lv' := [(3, .int (nI 0)), (2, .int (nI (lc_sa fo a))), (0, .ref hp), (1, .int (nI a))]) hx hb d_Heap_giveBack_7 rfl hl (by decide) rfl (fun ls hl => ?_)
  have loop8 : ∀ (fu : Nat) (j : Nat), 48 - j < fu → (hj : j ≤ lc_sa fo a) → ∀ (H : Heap) (locs : List Loc), va_P D classes [(hp, .inr (1, [.ref ow, .ref wo, .int (nI md)])), (ow, .inl (cI, 48, .inl fo)), (wo, .inl (cI, 48, .inl (lc_gb fo fw a j)))] H → va_D A [(hp, .inr (1, [.ref ow, .ref wo, .int (nI md)])), (ow, .inl (cI, 48, .inl fo)), (wo, .inl (cI, 48, .inl (lc_gb fo fw a j)))] → va_S A s.heap H locs → ∀ (ls : Array Slot), lv_has ls 4 [(0, .ref hp), (1, .int (nI a)), (2, .int (nI (lc_sa fo a))), (3, .int (nI j))] → W p l e ({ frames := 2, cells := 0, slots := 0, locals := 45 } : Room) s m args below meth c H locs 0 0 Q (F0 m 8 ls []) := by
    intro fu
    induction fu with
    | zero => intro j hf; omega
    | succ fu ih8 =>
      intro j hf hj H locs hP hD hS ls hl
      refine lv_iload_n hx hb d_Heap_giveBack_8 rfl (lv_at hl 3 rfl) ?_
      refine lv_iload_n hx hb d_Heap_giveBack_9 rfl (lv_at hl 2 rfl) ?_
      refine zz_icmp_ge (tgt := 30) hx hb (by omega) (by omega) d_Heap_giveBack_10 (by decide) (fun c10 => ?_) (fun c10 => ?_)
      · skip
        refine lv_iload_n hx hb d_Heap_giveBack_30 rfl (lv_at hl 1 rfl) ?_
        refine lv_istore_n (lv' := [(3, .int (nI a)), (0, .ref hp), (1, .int (nI a)), (2, .int (nI (lc_sa fo a)))]) hx hb d_Heap_giveBack_31 rfl hl (by decide) rfl (fun ls hl => ?_)
        have loop32 : ∀ (fu : Nat) (i : Nat), 48 - i < fu → (hi : i ≤ lc_sa fo a + 1) → ∀ (H : Heap) (locs : List Loc), va_P D classes [(hp, .inr (1, [.ref ow, .ref wo, .int (nI md)])), (ow, .inl (cI, 48, .inl (lc_fill fo a i 0))), (wo, .inl (cI, 48, .inl (lc_gb fo fw a (lc_sa fo a))))] H → va_D A [(hp, .inr (1, [.ref ow, .ref wo, .int (nI md)])), (ow, .inl (cI, 48, .inl (lc_fill fo a i 0))), (wo, .inl (cI, 48, .inl (lc_gb fo fw a (lc_sa fo a))))] → va_S A s.heap H locs → ∀ (ls : Array Slot), lv_has ls 4 [(0, .ref hp), (1, .int (nI a)), (2, .int (nI (lc_sa fo a))), (3, .int (nI (a + i)))] → W p l e ({ frames := 2, cells := 0, slots := 0, locals := 45 } : Room) s m args below meth c H locs 0 0 Q (F0 m 32 ls []) := by
          intro fu
          induction fu with
          | zero => intro i hf; omega
          | succ fu ih32 =>
            intro i hf hi H locs hP hD hS ls hl
            refine lv_iload_n hx hb d_Heap_giveBack_32 rfl (lv_at hl 3 rfl) ?_
            refine lv_iload_n hx hb d_Heap_giveBack_33 rfl (lv_at hl 1 rfl) ?_
            refine lv_iload_n hx hb d_Heap_giveBack_34 rfl (lv_at hl 2 rfl) ?_
            refine zz_iadd hx hb d_Heap_giveBack_35 ?_
            refine zz_icmp_gt (tgt := 52) hx hb (by omega) (by omega) d_Heap_giveBack_36 (by decide) (fun c36 => ?_) (fun c36 => ?_)
            · skip
              have eW : ([(hp, .inr (1, [.ref ow, .ref wo, .int (nI md)])), (ow, .inl (cI, 48, .inl (lc_fill fo a i 0))), (wo, .inl (cI, 48, .inl (lc_gb fo fw a (lc_sa fo a))))] : va_W) = [(hp, .inr (1, [.ref ow, .ref wo, .int (nI md)])), (ow, .inl (cI, 48, .inl (lc_fill fo a (lc_sa fo a + 1) 0))), (wo, .inl (cI, 48, .inl (lc_gb fo fw a (lc_sa fo a))))] := by rw [show i = lc_sa fo a + 1 by omega]
              exact hret _ _ _ _ d_Heap_giveBack_52 (zz_toP eW hP) (zz_toD eW hD) hS
            · skip
              refine lv_aload_n hx hb d_Heap_giveBack_39 rfl (lv_at hl 0 rfl) ?_
              refine va_get (D := D) (ci := 1) (v := .ref ow) (C := R_Heap) (T := F_Heap) (N := 3) hx hb hts i_Heap hown hK hP 0 rfl rfl 0 (by decide) (hts _ kw_0) (fun _ h9 => h9) rfl d_Heap_giveBack_40 ?_
              refine lv_iload_n hx hb d_Heap_giveBack_43 rfl (lv_at hl 3 rfl) ?_
              refine lv_iconst (v := nI 0) hx hb d_Heap_giveBack_44 (by decide +kernel) ?_
              refine zz_iast hx hb hK hP hD hS 1 0 (f := lc_fill fo a i 0) rfl rfl (i := a + i) (by omega) (by omega) d_Heap_giveBack_45 (g := lc_fill fo a (i + 1) 0) (by rw [nI_0]; exact lc_fill_s _ _ _ _) (ws' := [(hp, .inr (1, [.ref ow, .ref wo, .int (nI md)])), (ow, .inl (cI, 48, .inl (lc_fill fo a (i + 1) 0))), (wo, .inl (cI, 48, .inl (lc_gb fo fw a (lc_sa fo a))))]) rfl (fun H locs hP hD hS => ?_)
              refine lv_iinc (v := nI ((a + i) + 1)) (lv' := [(3, .int (nI ((a + i) + 1))), (0, .ref hp), (1, .int (nI a)), (2, .int (nI (lc_sa fo a)))]) hx hb d_Heap_giveBack_46 hl (k := 3) rfl (nI_1 _) (by decide) rfl (fun ls hl => ?_)
              refine lv_goto (tgt := 32) hx hb d_Heap_giveBack_49 (by decide) ?_
              have eL1 : (a + i) + 1 = a + (i + 1) := by omega
              exact ih32 (i + 1) (by omega) (by omega) _ _ hP hD hS _ (zz_hlc (lv_sub (l' := [(0, .ref hp), (1, .int (nI a)), (2, .int (nI (lc_sa fo a))), (3, .int (nI ((a + i) + 1)))]) hl [1, 2, 3, 0] rfl) (zz_c1 rfl (zz_c1 rfl (zz_c1 rfl (zz_c1 (congrArg (fun v => ((3 : Nat), Value.int (nI v))) eL1) rfl)))))
        have eL2 : a = a + 0 := by omega
        have eW3 : ([(hp, .inr (1, [.ref ow, .ref wo, .int (nI md)])), (ow, .inl (cI, 48, .inl fo)), (wo, .inl (cI, 48, .inl (lc_gb fo fw a j)))] : va_W) = [(hp, .inr (1, [.ref ow, .ref wo, .int (nI md)])), (ow, .inl (cI, 48, .inl (lc_fill fo a 0 0))), (wo, .inl (cI, 48, .inl (lc_gb fo fw a (lc_sa fo a))))] := by rw [lc_fill_0, show j = lc_sa fo a by omega]
        have hP := zz_toP eW3 hP
        have hD := zz_toD eW3 hD
        exact loop32 49 0 (by omega) (by omega) _ _ hP hD hS _ (zz_hlc (lv_sub (l' := [(0, .ref hp), (1, .int (nI a)), (2, .int (nI (lc_sa fo a))), (3, .int (nI a))]) hl [1, 2, 3, 0] rfl) (zz_c1 rfl (zz_c1 rfl (zz_c1 rfl (zz_c1 (congrArg (fun v => ((3 : Nat), Value.int (nI v))) eL2) rfl)))))
      · skip
        refine lv_aload_n hx hb d_Heap_giveBack_13 rfl (lv_at hl 0 rfl) ?_
        refine lv_aload_n hx hb d_Heap_giveBack_14 rfl (lv_at hl 0 rfl) ?_
        refine lv_iload_n hx hb d_Heap_giveBack_15 rfl (lv_at hl 1 rfl) ?_
        refine lv_iload_n hx hb d_Heap_giveBack_16 rfl (lv_at hl 3 rfl) ?_
        refine zz_callI (np := 2) hx hb hml hown hts hK hP hD hS hA (c_Heap_inSlot l D cI hp ow wo fo (lc_gb fo fw a j) md a j (by omega)) (zz_gv kw_21 kw_22 kw_23 kw_6 kc_20) (by decide +kernel) rfl rfl ⟨Nat.le_of_ble_eq_true rfl, Nat.le_of_ble_eq_true rfl⟩ ⟨Nat.zero_le _, Nat.zero_le _⟩ [0] rfl 0 1 rfl rfl rfl [0, 1, 2] [] [0, 1, 2] rfl (by decide) (wr := []) rfl (by decide) (by decide) (ws' := [(hp, .inr (1, [.ref ow, .ref wo, .int (nI md)])), (ow, .inl (cI, 48, .inl fo)), (wo, .inl (cI, 48, .inl (lc_gb fo fw a j)))]) rfl (by decide) rfl hl.1 rfl (Nat.le_of_ble_eq_true rfl) d_Heap_giveBack_17 (fun H locs hP hD hS => ?_)
        refine lv_iconst (v := (-1)) hx hb d_Heap_giveBack_20 (by decide +kernel) ?_
        refine zz_callV (np := 2) hx hb hml hown hts hK hP hD hS hA (c_Heap_addToCount l D cI hp ow wo fo (lc_gb fo fw a j) md ((lc_gb fo fw a j) (a + 1 + j)) (-1) ) (zz_gv kw_25 kw_26 kw_27 kw_6 kc_24) (by decide +kernel) rfl rfl ⟨Nat.le_of_ble_eq_true rfl, Nat.le_of_ble_eq_true rfl⟩ ⟨Nat.zero_le _, Nat.zero_le _⟩ [0] rfl 0 1 rfl rfl rfl [0, 1, 2] [] [0, 1, 2] rfl (by decide) (wr := []) rfl (by decide) (by decide) (ws' := [(hp, .inr (1, [.ref ow, .ref wo, .int (nI md)])), (ow, .inl (cI, 48, .inl fo)), (wo, .inl (cI, 48, .inl (lc_add fo (lc_gb fo fw a j) ((lc_gb fo fw a j) (a + 1 + j)) (-1))))]) rfl (by decide) rfl hl.1 rfl (Nat.le_of_ble_eq_true rfl) d_Heap_giveBack_21 (fun H locs hP hD hS => ?_)
        refine lv_iinc (v := nI (j + 1)) (lv' := [(3, .int (nI (j + 1))), (0, .ref hp), (1, .int (nI a)), (2, .int (nI (lc_sa fo a)))]) hx hb d_Heap_giveBack_24 hl (k := 3) rfl (nI_1 _) (by decide) rfl (fun ls hl => ?_)
        refine lv_goto (tgt := 8) hx hb d_Heap_giveBack_27 (by decide) ?_
        have eW4 : ([(hp, .inr (1, [.ref ow, .ref wo, .int (nI md)])), (ow, .inl (cI, 48, .inl fo)), (wo, .inl (cI, 48, .inl (lc_add fo (lc_gb fo fw a j) ((lc_gb fo fw a j) (a + 1 + j)) (-1))))] : va_W) = [(hp, .inr (1, [.ref ow, .ref wo, .int (nI md)])), (ow, .inl (cI, 48, .inl fo)), (wo, .inl (cI, 48, .inl (lc_gb fo fw a (j + 1))))] := by rfl
        have hP := zz_toP eW4 hP
        have hD := zz_toD eW4 hD
        exact ih8 (j + 1) (by omega) (by omega) _ _ hP hD hS _ (lv_sub hl [1, 2, 3, 0] rfl)
  have eW5 : ([(hp, .inr (1, [.ref ow, .ref wo, .int (nI md)])), (ow, .inl (cI, 48, .inl fo)), (wo, .inl (cI, 48, .inl fw))] : va_W) = [(hp, .inr (1, [.ref ow, .ref wo, .int (nI md)])), (ow, .inl (cI, 48, .inl fo)), (wo, .inl (cI, 48, .inl (lc_gb fo fw a 0)))] := by rfl
  have hP := zz_toP eW5 hP
  have hD := zz_toD eW5 hD
  exact loop8 49 0 (by omega) (by omega) _ _ hP hD hS _ (lv_sub hl [2, 3, 1, 0] rfl)
