set_option maxHeartbeats 4000000 in
set_option maxRecDepth 100000 in
theorem c_Places_size (l : Launch) (D : va_G) (cI : ClassId) (pl : Nat) (po : Nat) (fp : lc_A) (ht : Nat)  : zz_MI l y_Places_size b_Places_size 1 .int ({ frames := 0, cells := 0, slots := 0, locals := 0 } : Room) D [(cI, .int)] [.ref pl] [(pl, .inr (2, [.ref po, .int (nI ht)])), (po, .inl (cI, 8, .inl fp))] (nI ht) [(pl, .inr (2, [.ref po, .int (nI ht)])), (po, .inl (cI, 8, .inl fp))] := by
  refine zz_MI_of (by decide) (Nat.le_of_ble_eq_true rfl) (vp_nar_int _) ?_
  intro p e s m args below meth c A ls Q hx hb hml hown hts hK hP hD hS hA hl hret
  have hown : s.vm.findClass R_Places = some m.cls := hown
  have hl : lv_has ls 1 [(0, .ref pl)] := hl
  refine lv_aload_n hx hb d_Places_size_0 rfl (lv_at hl 0 rfl) ?_
  refine va_get (D := D) (ci := 2) (v := .int (nI ht)) (C := R_Places) (T := F_Places) (N := 2) hx hb hts i_Places hown hK hP 0 rfl rfl 1 (by decide) (hts _ kw_28) (fun _ h9 => h9) rfl d_Places_size_1 ?_
  exact hret _ _ _ _ d_Places_size_4 hP hD hS
set_option maxHeartbeats 4000000 in
set_option maxRecDepth 100000 in
theorem c_Places_areFull (l : Launch) (D : va_G) (cI : ClassId) (pl : Nat) (po : Nat) (fp : lc_A) (ht : Nat) (hh : ht ≤ 8) : zz_MI l y_Places_areFull b_Places_areFull 1 .boolean ({ frames := 0, cells := 0, slots := 0, locals := 0 } : Room) D [(cI, .int)] [.ref pl] [(pl, .inr (2, [.ref po, .int (nI ht)])), (po, .inl (cI, 8, .inl fp))] (lc_bI (decide (ht = 8))) [(pl, .inr (2, [.ref po, .int (nI ht)])), (po, .inl (cI, 8, .inl fp))] := by
  refine zz_MI_of (by decide) (Nat.le_of_ble_eq_true rfl) (zz_narB _) ?_
  intro p e s m args below meth c A ls Q hx hb hml hown hts hK hP hD hS hA hl hret
  have hown : s.vm.findClass R_Places = some m.cls := hown
  have hl : lv_has ls 1 [(0, .ref pl)] := hl
  refine lv_aload_n hx hb d_Places_areFull_0 rfl (lv_at hl 0 rfl) ?_
  refine va_get (D := D) (ci := 2) (v := .int (nI ht)) (C := R_Places) (T := F_Places) (N := 2) hx hb hts i_Places hown hK hP 0 rfl rfl 1 (by decide) (hts _ kw_28) (fun _ h9 => h9) rfl d_Places_areFull_1 ?_
  refine lv_bipush (v := nI 8) hx hb d_Places_areFull_4 (by decide +kernel) ?_
  refine zz_icmp_ne (tgt := 13) hx hb (by omega) (by omega) d_Places_areFull_6 (by decide) (fun c6 => ?_) (fun c6 => ?_)
  · skip
    refine lv_iconst (v := nI 0) hx hb d_Places_areFull_13 (by decide +kernel) ?_
    refine zz_top (z := lc_bI (decide (ht = 8))) (by simp [lc_bI, *]) ?_
    exact hret _ _ _ _ d_Places_areFull_14 hP hD hS
  · skip
    refine lv_iconst (v := nI 1) hx hb d_Places_areFull_9 (by decide +kernel) ?_
    refine lv_goto (tgt := 14) hx hb d_Places_areFull_10 (by decide) ?_
    refine zz_top (z := lc_bI (decide (ht = 8))) (by simp [lc_bI, *]) ?_
    exact hret _ _ _ _ d_Places_areFull_14 hP hD hS
set_option maxHeartbeats 4000000 in
set_option maxRecDepth 100000 in
theorem c_Places_has (l : Launch) (D : va_G) (cI : ClassId) (pl : Nat) (po : Nat) (fp : lc_A) (ht : Nat) (x : Int32)  : zz_MI l y_Places_has b_Places_has 2 .boolean ({ frames := 0, cells := 0, slots := 0, locals := 0 } : Room) D [(cI, .int)] [.ref pl, .int x] [(pl, .inr (2, [.ref po, .int (nI ht)])), (po, .inl (cI, 8, .inl fp))] (lc_bI (lc_pl x ht).isSome) [(pl, .inr (2, [.ref po, .int (nI ht)])), (po, .inl (cI, 8, .inl fp))] := by
  refine zz_MI_of (by decide) (Nat.le_of_ble_eq_true rfl) (zz_narB _) ?_
  intro p e s m args below meth c A ls Q hx hb hml hown hts hK hP hD hS hA hl hret
  have hown : s.vm.findClass R_Places = some m.cls := hown
  have hl : lv_has ls 2 [(0, .ref pl), (1, .int x)] := hl
  refine lv_iload_n hx hb d_Places_has_0 rfl (lv_at hl 1 rfl) ?_
  refine lv_if_lt (tgt := 16) hx hb d_Places_has_1 (by decide) (fun c1 => ?_) (fun c1 => ?_)
  · skip
    refine lv_iconst (v := nI 0) hx hb d_Places_has_16 (by decide +kernel) ?_
    refine zz_top (z := lc_bI (lc_pl x ht).isSome) (by first | exact lc_has1 (by assumption) (by assumption) | exact lc_has0 (by assumption) | exact lc_has2 (by assumption)) ?_
    exact hret _ _ _ _ d_Places_has_17 hP hD hS
  · skip
    refine lv_iload_n hx hb d_Places_has_4 rfl (lv_at hl 1 rfl) ?_
    refine lv_aload_n hx hb d_Places_has_5 rfl (lv_at hl 0 rfl) ?_
    refine va_get (D := D) (ci := 2) (v := .int (nI ht)) (C := R_Places) (T := F_Places) (N := 2) hx hb hts i_Places hown hK hP 0 rfl rfl 1 (by decide) (hts _ kw_28) (fun _ h9 => h9) rfl d_Places_has_6 ?_
    refine lv_icmp_ge (tgt := 16) hx hb d_Places_has_9 (by decide) (fun c9 => ?_) (fun c9 => ?_)
    · skip
      refine lv_iconst (v := nI 0) hx hb d_Places_has_16 (by decide +kernel) ?_
      refine zz_top (z := lc_bI (lc_pl x ht).isSome) (by first | exact lc_has1 (by assumption) (by assumption) | exact lc_has0 (by assumption) | exact lc_has2 (by assumption)) ?_
      exact hret _ _ _ _ d_Places_has_17 hP hD hS
    · skip
      refine lv_iconst (v := nI 1) hx hb d_Places_has_12 (by decide +kernel) ?_
      refine lv_goto (tgt := 17) hx hb d_Places_has_13 (by decide) ?_
      refine zz_top (z := lc_bI (lc_pl x ht).isSome) (by first | exact lc_has1 (by assumption) (by assumption) | exact lc_has0 (by assumption) | exact lc_has2 (by assumption)) ?_
      exact hret _ _ _ _ d_Places_has_17 hP hD hS
set_option maxHeartbeats 4000000 in
set_option maxRecDepth 100000 in
theorem c_Places_at (l : Launch) (D : va_G) (cI : ClassId) (pl : Nat) (po : Nat) (fp : lc_A) (ht : Nat) (j : Nat) (hj : j < 8) : zz_MI l y_Places_at b_Places_at 2 .int ({ frames := 0, cells := 0, slots := 0, locals := 0 } : Room) D [(cI, .int)] [.ref pl, .int (nI j)] [(pl, .inr (2, [.ref po, .int (nI ht)])), (po, .inl (cI, 8, .inl fp))] (fp j) [(pl, .inr (2, [.ref po, .int (nI ht)])), (po, .inl (cI, 8, .inl fp))] := by
  refine zz_MI_of (by decide) (Nat.le_of_ble_eq_true rfl) (vp_nar_int _) ?_
  intro p e s m args below meth c A ls Q hx hb hml hown hts hK hP hD hS hA hl hret
  have hown : s.vm.findClass R_Places = some m.cls := hown
  have hl : lv_has ls 2 [(0, .ref pl), (1, .int (nI j))] := hl
  refine lv_aload_n hx hb d_Places_at_0 rfl (lv_at hl 0 rfl) ?_
  refine va_get (D := D) (ci := 2) (v := .ref po) (C := R_Places) (T := F_Places) (N := 2) hx hb hts i_Places hown hK hP 0 rfl rfl 0 (by decide) (hts _ kw_29) (fun _ h9 => h9) rfl d_Places_at_1 ?_
  refine lv_iload_n hx hb d_Places_at_4 rfl (lv_at hl 1 rfl) ?_
  refine zz_iald hx hb hK hP 1 0 (f := fp) rfl rfl (i := j) (by omega) (by omega) d_Places_at_5 ?_
  exact hret _ _ _ _ d_Places_at_6 hP hD hS
set_option maxHeartbeats 4000000 in
set_option maxRecDepth 100000 in
theorem c_Places_push (l : Launch) (D : va_G) (cI : ClassId) (pl : Nat) (po : Nat) (fp : lc_A) (ht : Nat) (x : Int32) (hh : ht < 8) : zz_MI l y_Places_push b_Places_push 2 .int ({ frames := 0, cells := 0, slots := 0, locals := 0 } : Room) D [(cI, .int)] [.ref pl, .int x] [(pl, .inr (2, [.ref po, .int (nI ht)])), (po, .inl (cI, 8, .inl fp))] x [(pl, .inr (2, [.ref po, .int (nI (ht + 1))])), (po, .inl (cI, 8, .inl (upd fp ht x)))] := by
  refine zz_MI_of (by decide) (Nat.le_of_ble_eq_true rfl) (vp_nar_int _) ?_
  intro p e s m args below meth c A ls Q hx hb hml hown hts hK hP hD hS hA hl hret
  have hown : s.vm.findClass R_Places = some m.cls := hown
  have hl : lv_has ls 2 [(0, .ref pl), (1, .int x)] := hl
  refine lv_aload_n hx hb d_Places_push_0 rfl (lv_at hl 0 rfl) ?_
  refine va_get (D := D) (ci := 2) (v := .ref po) (C := R_Places) (T := F_Places) (N := 2) hx hb hts i_Places hown hK hP 0 rfl rfl 0 (by decide) (hts _ kw_29) (fun _ h9 => h9) rfl d_Places_push_1 ?_
  refine lv_aload_n hx hb d_Places_push_4 rfl (lv_at hl 0 rfl) ?_
  refine va_get (D := D) (ci := 2) (v := .int (nI ht)) (C := R_Places) (T := F_Places) (N := 2) hx hb hts i_Places hown hK hP 0 rfl rfl 1 (by decide) (hts _ kw_28) (fun _ h9 => h9) rfl d_Places_push_5 ?_
  refine lv_iload_n hx hb d_Places_push_8 rfl (lv_at hl 1 rfl) ?_
  refine zz_iast hx hb hK hP hD hS 1 0 (f := fp) rfl rfl (i := ht) (by omega) (by omega) d_Places_push_9 (g := upd fp ht x) rfl (ws' := [(pl, .inr (2, [.ref po, .int (nI ht)])), (po, .inl (cI, 8, .inl (upd fp ht x)))]) rfl (fun H locs hP hD hS => ?_)
  refine lv_aload_n hx hb d_Places_push_10 rfl (lv_at hl 0 rfl) ?_
  refine lv_dup hx hb d_Places_push_11 rfl ?_
  refine va_get (D := D) (ci := 2) (v := .int (nI ht)) (C := R_Places) (T := F_Places) (N := 2) hx hb hts i_Places hown hK hP 0 rfl rfl 1 (by decide) (hts _ kw_28) (fun _ h9 => h9) rfl d_Places_push_12 ?_
  refine lv_iconst (v := nI 1) hx hb d_Places_push_15 (by decide +kernel) ?_
  refine zz_iadd hx hb d_Places_push_16 ?_
  refine va_put (D := D) (ci := 2) (v := .int (nI (ht + 1))) (ty := .int) (C := R_Places) (T := F_Places) (N := 2) hx hb hts i_Places t_Places t_Places_ok n_Places hown hK hP hD hS 0 rfl rfl 1 (by decide) (hts _ kw_28) (fun _ h9 => h9) rfl (by decide +kernel) rfl rfl (Nat.le_of_ble_eq_true rfl) d_Places_push_17 (fun H locs hP hD hS => ?_)
  have hP : va_P D classes [(pl, .inr (2, [.ref po, .int (nI (ht + 1))])), (po, .inl (cI, 8, .inl (upd fp ht x)))] H := hP
  have hD : va_D A [(pl, .inr (2, [.ref po, .int (nI (ht + 1))])), (po, .inl (cI, 8, .inl (upd fp ht x)))] := hD
  refine lv_iload_n hx hb d_Places_push_20 rfl (lv_at hl 1 rfl) ?_
  exact hret _ _ _ _ d_Places_push_21 hP hD hS
set_option maxHeartbeats 4000000 in
set_option maxRecDepth 100000 in
theorem c_Places_pop (l : Launch) (D : va_G) (cI : ClassId) (pl : Nat) (po : Nat) (fp : lc_A) (ht : Nat) (hh : 0 < ht) (hh8 : ht ≤ 8) : zz_MI l y_Places_pop b_Places_pop 1 .int ({ frames := 0, cells := 0, slots := 0, locals := 0 } : Room) D [(cI, .int)] [.ref pl] [(pl, .inr (2, [.ref po, .int (nI ht)])), (po, .inl (cI, 8, .inl fp))] (fp (ht - 1)) [(pl, .inr (2, [.ref po, .int (nI (ht - 1))])), (po, .inl (cI, 8, .inl fp))] := by
  refine zz_MI_of (by decide) (Nat.le_of_ble_eq_true rfl) (vp_nar_int _) ?_
  intro p e s m args below meth c A ls Q hx hb hml hown hts hK hP hD hS hA hl hret
  have hown : s.vm.findClass R_Places = some m.cls := hown
  have hl : lv_has ls 1 [(0, .ref pl)] := hl
  refine lv_aload_n hx hb d_Places_pop_0 rfl (lv_at hl 0 rfl) ?_
  refine lv_dup hx hb d_Places_pop_1 rfl ?_
  refine va_get (D := D) (ci := 2) (v := .int (nI ht)) (C := R_Places) (T := F_Places) (N := 2) hx hb hts i_Places hown hK hP 0 rfl rfl 1 (by decide) (hts _ kw_28) (fun _ h9 => h9) rfl d_Places_pop_2 ?_
  refine lv_iconst (v := nI 1) hx hb d_Places_pop_5 (by decide +kernel) ?_
  refine zz_isub hx hb (by omega) d_Places_pop_6 ?_
  refine va_put (D := D) (ci := 2) (v := .int (nI (ht - 1))) (ty := .int) (C := R_Places) (T := F_Places) (N := 2) hx hb hts i_Places t_Places t_Places_ok n_Places hown hK hP hD hS 0 rfl rfl 1 (by decide) (hts _ kw_28) (fun _ h9 => h9) rfl (by decide +kernel) rfl rfl (Nat.le_of_ble_eq_true rfl) d_Places_pop_7 (fun H locs hP hD hS => ?_)
  have hP : va_P D classes [(pl, .inr (2, [.ref po, .int (nI (ht - 1))])), (po, .inl (cI, 8, .inl fp))] H := hP
  have hD : va_D A [(pl, .inr (2, [.ref po, .int (nI (ht - 1))])), (po, .inl (cI, 8, .inl fp))] := hD
  refine lv_aload_n hx hb d_Places_pop_10 rfl (lv_at hl 0 rfl) ?_
  refine va_get (D := D) (ci := 2) (v := .ref po) (C := R_Places) (T := F_Places) (N := 2) hx hb hts i_Places hown hK hP 0 rfl rfl 0 (by decide) (hts _ kw_29) (fun _ h9 => h9) rfl d_Places_pop_11 ?_
  refine lv_aload_n hx hb d_Places_pop_14 rfl (lv_at hl 0 rfl) ?_
  refine va_get (D := D) (ci := 2) (v := .int (nI (ht - 1))) (C := R_Places) (T := F_Places) (N := 2) hx hb hts i_Places hown hK hP 0 rfl rfl 1 (by decide) (hts _ kw_28) (fun _ h9 => h9) rfl d_Places_pop_15 ?_
  refine zz_iald hx hb hK hP 1 0 (f := fp) rfl rfl (i := ht - 1) (by omega) (by omega) d_Places_pop_18 ?_
  exact hret _ _ _ _ d_Places_pop_19 hP hD hS
set_option maxHeartbeats 4000000 in
set_option maxRecDepth 100000 in
theorem c_Places_hold (l : Launch) (D : va_G) (cI : ClassId) (pl : Nat) (po : Nat) (fp : lc_A) (ht : Nat) (x : Int32) (hh : ht ≤ 8) : zz_MI l y_Places_hold b_Places_hold 3 .boolean ({ frames := 0, cells := 0, slots := 0, locals := 0 } : Room) D [(cI, .int)] [.ref pl, .int x] [(pl, .inr (2, [.ref po, .int (nI ht)])), (po, .inl (cI, 8, .inl fp))] (lc_bI (lc_on fp ht x)) [(pl, .inr (2, [.ref po, .int (nI ht)])), (po, .inl (cI, 8, .inl fp))] := by
  refine zz_MI_of (by decide) (Nat.le_of_ble_eq_true rfl) (zz_narB _) ?_
  intro p e s m args below meth c A ls Q hx hb hml hown hts hK hP hD hS hA hl hret
  have hown : s.vm.findClass R_Places = some m.cls := hown
  have hl : lv_has ls 3 [(0, .ref pl), (1, .int x)] := hl
  refine lv_iconst (v := nI 0) hx hb d_Places_hold_0 (by decide +kernel) ?_
  refine lv_istore_n (lv' := [(2, .int (nI 0)), (0, .ref pl), (1, .int x)]) hx hb d_Places_hold_1 rfl hl (by decide) rfl (fun ls hl => ?_)
  have loop2 : ∀ (fu : Nat) (i : Nat), 8 - i < fu → (hi : i ≤ ht) → (hn : ∀ j, j < i → fp j ≠ x) → ∀ (H : Heap) (locs : List Loc), va_P D classes [(pl, .inr (2, [.ref po, .int (nI ht)])), (po, .inl (cI, 8, .inl fp))] H → va_D A [(pl, .inr (2, [.ref po, .int (nI ht)])), (po, .inl (cI, 8, .inl fp))] → va_S A s.heap H locs → ∀ (ls : Array Slot), lv_has ls 3 [(0, .ref pl), (1, .int x), (2, .int (nI i))] → W p l e ({ frames := 0, cells := 0, slots := 0, locals := 0 } : Room) s m args below meth c H locs 0 0 Q (F0 m 2 ls []) := by
    intro fu
    induction fu with
    | zero => intro i hf; omega
    | succ fu ih2 =>
      intro i hf hi hn H locs hP hD hS ls hl
      refine lv_iload_n hx hb d_Places_hold_2 rfl (lv_at hl 2 rfl) ?_
      refine lv_aload_n hx hb d_Places_hold_3 rfl (lv_at hl 0 rfl) ?_
      refine va_get (D := D) (ci := 2) (v := .int (nI ht)) (C := R_Places) (T := F_Places) (N := 2) hx hb hts i_Places hown hK hP 0 rfl rfl 1 (by decide) (hts _ kw_28) (fun _ h9 => h9) rfl d_Places_hold_4 ?_
      refine zz_icmp_ge (tgt := 28) hx hb (by omega) (by omega) d_Places_hold_7 (by decide) (fun c7 => ?_) (fun c7 => ?_)
      · skip
        refine lv_iconst (v := nI 0) hx hb d_Places_hold_28 (by decide +kernel) ?_
        refine zz_top (z := lc_bI (lc_on fp ht x)) (by first | exact lc_on_t (by omega) (by assumption) | exact lc_on_f (by omega) hn) ?_
        exact hret _ _ _ _ d_Places_hold_29 hP hD hS
      · skip
        refine lv_aload_n hx hb d_Places_hold_10 rfl (lv_at hl 0 rfl) ?_
        refine va_get (D := D) (ci := 2) (v := .ref po) (C := R_Places) (T := F_Places) (N := 2) hx hb hts i_Places hown hK hP 0 rfl rfl 0 (by decide) (hts _ kw_29) (fun _ h9 => h9) rfl d_Places_hold_11 ?_
        refine lv_iload_n hx hb d_Places_hold_14 rfl (lv_at hl 2 rfl) ?_
        refine zz_iald hx hb hK hP 1 0 (f := fp) rfl rfl (i := i) (by omega) (by omega) d_Places_hold_15 ?_
        refine lv_iload_n hx hb d_Places_hold_16 rfl (lv_at hl 1 rfl) ?_
        refine lv_icmp_ne (tgt := 22) hx hb d_Places_hold_17 (by decide) (fun c17 => ?_) (fun c17 => ?_)
        · skip
          refine lv_iinc (v := nI (i + 1)) (lv' := [(2, .int (nI (i + 1))), (0, .ref pl), (1, .int x)]) hx hb d_Places_hold_22 hl (k := 2) rfl (nI_1 _) (by decide) rfl (fun ls hl => ?_)
          refine lv_goto (tgt := 2) hx hb d_Places_hold_25 (by decide) ?_
          exact ih2 (i + 1) (by omega) (by omega) (lc_lt1 hn (by assumption)) _ _ hP hD hS _ (lv_sub hl [1, 2, 0] rfl)
        · skip
          refine lv_iconst (v := nI 1) hx hb d_Places_hold_20 (by decide +kernel) ?_
          refine zz_top (z := lc_bI (lc_on fp ht x)) (by first | exact lc_on_t (by omega) (by assumption) | exact lc_on_f (by omega) hn) ?_
          exact hret _ _ _ _ d_Places_hold_21 hP hD hS
  exact loop2 9 0 (by omega) (by omega) (fun j hj => by omega) _ _ hP hD hS _ (lv_sub hl [1, 2, 0] rfl)
