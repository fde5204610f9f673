set_option maxHeartbeats 4000000 in
set_option maxRecDepth 100000 in
theorem c_Entries_size (l : Launch) (D : va_G) (cI : ClassId) (cG : ClassId) (en : Nat) (eo : Nat) (sb : Nat) (rr : Nat → Nat) (fe : lc_A) (M : Nat → lc_A) (len : Nat)  : zz_MI l y_Entries_size b_Entries_size 1 .int ({ frames := 0, cells := 0, slots := 0, locals := 0 } : Room) D [(cI, .int), (cG, .array .int)] [.ref en] [(en, .inr (3, [.ref eo, .ref sb, .int (nI len)])), (eo, .inl (cI, 5, .inl fe)), (sb, .inl (cG, 5, .inr (.inr (.inr (.inr (fun uu => if uu < 5 then some (rr uu) else none)))))), (rr 0, .inl (cI, 4, .inl (M 0))), (rr 1, .inl (cI, 4, .inl (M 1))), (rr 2, .inl (cI, 4, .inl (M 2))), (rr 3, .inl (cI, 4, .inl (M 3))), (rr 4, .inl (cI, 4, .inl (M 4)))] (nI len) [(en, .inr (3, [.ref eo, .ref sb, .int (nI len)])), (eo, .inl (cI, 5, .inl fe)), (sb, .inl (cG, 5, .inr (.inr (.inr (.inr (fun uu => if uu < 5 then some (rr uu) else none)))))), (rr 0, .inl (cI, 4, .inl (M 0))), (rr 1, .inl (cI, 4, .inl (M 1))), (rr 2, .inl (cI, 4, .inl (M 2))), (rr 3, .inl (cI, 4, .inl (M 3))), (rr 4, .inl (cI, 4, .inl (M 4)))] := by
  refine zz_MI_of (by decide) (Nat.le_of_ble_eq_true rfl) (vp_nar_int _) ?_
  intro p e s m args below meth c A ls Q hx hb hml hown hts hK hP hD hS hA hl hret
  have hown : s.vm.findClass R_Entries = some m.cls := hown
  have hl : lv_has ls 1 [(0, .ref en)] := hl
  refine lv_aload_n hx hb d_Entries_size_0 rfl (lv_at hl 0 rfl) ?_
  refine va_get (D := D) (ci := 3) (v := .int (nI len)) (C := R_Entries) (T := F_Entries) (N := 3) hx hb hts i_Entries hown hK hP 0 rfl rfl 2 (by decide) (hts _ kw_30) (fun _ h9 => h9) rfl d_Entries_size_1 ?_
  exact hret _ _ _ _ d_Entries_size_4 hP hD hS
set_option maxHeartbeats 4000000 in
set_option maxRecDepth 100000 in
theorem c_Entries_areFull (l : Launch) (D : va_G) (cI : ClassId) (cG : ClassId) (en : Nat) (eo : Nat) (sb : Nat) (rr : Nat → Nat) (fe : lc_A) (M : Nat → lc_A) (len : Nat) (hh : len ≤ 5) : zz_MI l y_Entries_areFull b_Entries_areFull 1 .boolean ({ frames := 0, cells := 0, slots := 0, locals := 0 } : Room) D [(cI, .int), (cG, .array .int)] [.ref en] [(en, .inr (3, [.ref eo, .ref sb, .int (nI len)])), (eo, .inl (cI, 5, .inl fe)), (sb, .inl (cG, 5, .inr (.inr (.inr (.inr (fun uu => if uu < 5 then some (rr uu) else none)))))), (rr 0, .inl (cI, 4, .inl (M 0))), (rr 1, .inl (cI, 4, .inl (M 1))), (rr 2, .inl (cI, 4, .inl (M 2))), (rr 3, .inl (cI, 4, .inl (M 3))), (rr 4, .inl (cI, 4, .inl (M 4)))] (lc_bI (decide (len = 5))) [(en, .inr (3, [.ref eo, .ref sb, .int (nI len)])), (eo, .inl (cI, 5, .inl fe)), (sb, .inl (cG, 5, .inr (.inr (.inr (.inr (fun uu => if uu < 5 then some (rr uu) else none)))))), (rr 0, .inl (cI, 4, .inl (M 0))), (rr 1, .inl (cI, 4, .inl (M 1))), (rr 2, .inl (cI, 4, .inl (M 2))), (rr 3, .inl (cI, 4, .inl (M 3))), (rr 4, .inl (cI, 4, .inl (M 4)))] := by
  refine zz_MI_of (by decide) (Nat.le_of_ble_eq_true rfl) (zz_narB _) ?_
  intro p e s m args below meth c A ls Q hx hb hml hown hts hK hP hD hS hA hl hret
  have hown : s.vm.findClass R_Entries = some m.cls := hown
  have hl : lv_has ls 1 [(0, .ref en)] := hl
  refine lv_aload_n hx hb d_Entries_areFull_0 rfl (lv_at hl 0 rfl) ?_
  refine va_get (D := D) (ci := 3) (v := .int (nI len)) (C := R_Entries) (T := F_Entries) (N := 3) hx hb hts i_Entries hown hK hP 0 rfl rfl 2 (by decide) (hts _ kw_30) (fun _ h9 => h9) rfl d_Entries_areFull_1 ?_
  refine lv_iconst (v := nI 5) hx hb d_Entries_areFull_4 (by decide +kernel) ?_
  refine zz_icmp_ne (tgt := 12) hx hb (by omega) (by omega) d_Entries_areFull_5 (by decide) (fun c5 => ?_) (fun c5 => ?_)
  · skip
    refine lv_iconst (v := nI 0) hx hb d_Entries_areFull_12 (by decide +kernel) ?_
    refine zz_top (z := lc_bI (decide (len = 5))) (by simp [lc_bI, *]) ?_
    exact hret _ _ _ _ d_Entries_areFull_13 hP hD hS
  · skip
    refine lv_iconst (v := nI 1) hx hb d_Entries_areFull_8 (by decide +kernel) ?_
    refine lv_goto (tgt := 13) hx hb d_Entries_areFull_9 (by decide) ?_
    refine zz_top (z := lc_bI (decide (len = 5))) (by simp [lc_bI, *]) ?_
    exact hret _ _ _ _ d_Entries_areFull_13 hP hD hS
set_option maxHeartbeats 4000000 in
set_option maxRecDepth 100000 in
theorem c_Entries_has (l : Launch) (D : va_G) (cI : ClassId) (cG : ClassId) (en : Nat) (eo : Nat) (sb : Nat) (rr : Nat → Nat) (fe : lc_A) (M : Nat → lc_A) (len : Nat) (x : Int32)  : zz_MI l y_Entries_has b_Entries_has 2 .boolean ({ frames := 0, cells := 0, slots := 0, locals := 0 } : Room) D [(cI, .int), (cG, .array .int)] [.ref en, .int x] [(en, .inr (3, [.ref eo, .ref sb, .int (nI len)])), (eo, .inl (cI, 5, .inl fe)), (sb, .inl (cG, 5, .inr (.inr (.inr (.inr (fun uu => if uu < 5 then some (rr uu) else none)))))), (rr 0, .inl (cI, 4, .inl (M 0))), (rr 1, .inl (cI, 4, .inl (M 1))), (rr 2, .inl (cI, 4, .inl (M 2))), (rr 3, .inl (cI, 4, .inl (M 3))), (rr 4, .inl (cI, 4, .inl (M 4)))] (lc_bI (lc_pl x len).isSome) [(en, .inr (3, [.ref eo, .ref sb, .int (nI len)])), (eo, .inl (cI, 5, .inl fe)), (sb, .inl (cG, 5, .inr (.inr (.inr (.inr (fun uu => if uu < 5 then some (rr uu) else none)))))), (rr 0, .inl (cI, 4, .inl (M 0))), (rr 1, .inl (cI, 4, .inl (M 1))), (rr 2, .inl (cI, 4, .inl (M 2))), (rr 3, .inl (cI, 4, .inl (M 3))), (rr 4, .inl (cI, 4, .inl (M 4)))] := by
  refine zz_MI_of (by decide) (Nat.le_of_ble_eq_true rfl) (zz_narB _) ?_
  intro p e s m args below meth c A ls Q hx hb hml hown hts hK hP hD hS hA hl hret
  have hown : s.vm.findClass R_Entries = some m.cls := hown
  have hl : lv_has ls 2 [(0, .ref en), (1, .int x)] := hl
  refine lv_iload_n hx hb d_Entries_has_0 rfl (lv_at hl 1 rfl) ?_
  refine lv_if_lt (tgt := 16) hx hb d_Entries_has_1 (by decide) (fun c1 => ?_) (fun c1 => ?_)
  · skip
    refine lv_iconst (v := nI 0) hx hb d_Entries_has_16 (by decide +kernel) ?_
    refine zz_top (z := lc_bI (lc_pl x len).isSome) (by first | exact lc_has1 (by assumption) (by assumption) | exact lc_has0 (by assumption) | exact lc_has2 (by assumption)) ?_
    exact hret _ _ _ _ d_Entries_has_17 hP hD hS
  · skip
    refine lv_iload_n hx hb d_Entries_has_4 rfl (lv_at hl 1 rfl) ?_
    refine lv_aload_n hx hb d_Entries_has_5 rfl (lv_at hl 0 rfl) ?_
    refine va_get (D := D) (ci := 3) (v := .int (nI len)) (C := R_Entries) (T := F_Entries) (N := 3) hx hb hts i_Entries hown hK hP 0 rfl rfl 2 (by decide) (hts _ kw_30) (fun _ h9 => h9) rfl d_Entries_has_6 ?_
    refine lv_icmp_ge (tgt := 16) hx hb d_Entries_has_9 (by decide) (fun c9 => ?_) (fun c9 => ?_)
    · skip
      refine lv_iconst (v := nI 0) hx hb d_Entries_has_16 (by decide +kernel) ?_
      refine zz_top (z := lc_bI (lc_pl x len).isSome) (by first | exact lc_has1 (by assumption) (by assumption) | exact lc_has0 (by assumption) | exact lc_has2 (by assumption)) ?_
      exact hret _ _ _ _ d_Entries_has_17 hP hD hS
    · skip
      refine lv_iconst (v := nI 1) hx hb d_Entries_has_12 (by decide +kernel) ?_
      refine lv_goto (tgt := 17) hx hb d_Entries_has_13 (by decide) ?_
      refine zz_top (z := lc_bI (lc_pl x len).isSome) (by first | exact lc_has1 (by assumption) (by assumption) | exact lc_has0 (by assumption) | exact lc_has2 (by assumption)) ?_
      exact hret _ _ _ _ d_Entries_has_17 hP hD hS
set_option maxHeartbeats 4000000 in
set_option maxRecDepth 100000 in
theorem c_Entries_tellOf (l : Launch) (D : va_G) (cI : ClassId) (cG : ClassId) (en : Nat) (eo : Nat) (sb : Nat) (rr : Nat → Nat) (fe : lc_A) (M : Nat → lc_A) (len : Nat) (x : Int32) (hh : len ≤ 5) : zz_MI l y_Entries_tellOf b_Entries_tellOf 3 .boolean ({ frames := 0, cells := 0, slots := 0, locals := 0 } : Room) D [(cI, .int), (cG, .array .int)] [.ref en, .int x] [(en, .inr (3, [.ref eo, .ref sb, .int (nI len)])), (eo, .inl (cI, 5, .inl fe)), (sb, .inl (cG, 5, .inr (.inr (.inr (.inr (fun uu => if uu < 5 then some (rr uu) else none)))))), (rr 0, .inl (cI, 4, .inl (M 0))), (rr 1, .inl (cI, 4, .inl (M 1))), (rr 2, .inl (cI, 4, .inl (M 2))), (rr 3, .inl (cI, 4, .inl (M 3))), (rr 4, .inl (cI, 4, .inl (M 4)))] (lc_bI (lc_on fe len x)) [(en, .inr (3, [.ref eo, .ref sb, .int (nI len)])), (eo, .inl (cI, 5, .inl fe)), (sb, .inl (cG, 5, .inr (.inr (.inr (.inr (fun uu => if uu < 5 then some (rr uu) else none)))))), (rr 0, .inl (cI, 4, .inl (M 0))), (rr 1, .inl (cI, 4, .inl (M 1))), (rr 2, .inl (cI, 4, .inl (M 2))), (rr 3, .inl (cI, 4, .inl (M 3))), (rr 4, .inl (cI, 4, .inl (M 4)))] := by
  refine zz_MI_of (by decide) (Nat.le_of_ble_eq_true rfl) (zz_narB _) ?_
  intro p e s m args below meth c A ls Q hx hb hml hown hts hK hP hD hS hA hl hret
  have hown : s.vm.findClass R_Entries = some m.cls := hown
  have hl : lv_has ls 3 [(0, .ref en), (1, .int x)] := hl
  refine lv_iconst (v := nI 0) hx hb d_Entries_tellOf_0 (by decide +kernel) ?_
  refine lv_istore_n (lv' := [(2, .int (nI 0)), (0, .ref en), (1, .int x)]) hx hb d_Entries_tellOf_1 rfl hl (by decide) rfl (fun ls hl => ?_)
  have loop2 : ∀ (fu : Nat) (i : Nat), 8 - i < fu → (hi : i ≤ len) → (hn : ∀ j, j < i → fe j ≠ x) → ∀ (H : Heap) (locs : List Loc), va_P D classes [(en, .inr (3, [.ref eo, .ref sb, .int (nI len)])), (eo, .inl (cI, 5, .inl fe)), (sb, .inl (cG, 5, .inr (.inr (.inr (.inr (fun uu => if uu < 5 then some (rr uu) else none)))))), (rr 0, .inl (cI, 4, .inl (M 0))), (rr 1, .inl (cI, 4, .inl (M 1))), (rr 2, .inl (cI, 4, .inl (M 2))), (rr 3, .inl (cI, 4, .inl (M 3))), (rr 4, .inl (cI, 4, .inl (M 4)))] H → va_D A [(en, .inr (3, [.ref eo, .ref sb, .int (nI len)])), (eo, .inl (cI, 5, .inl fe)), (sb, .inl (cG, 5, .inr (.inr (.inr (.inr (fun uu => if uu < 5 then some (rr uu) else none)))))), (rr 0, .inl (cI, 4, .inl (M 0))), (rr 1, .inl (cI, 4, .inl (M 1))), (rr 2, .inl (cI, 4, .inl (M 2))), (rr 3, .inl (cI, 4, .inl (M 3))), (rr 4, .inl (cI, 4, .inl (M 4)))] → va_S A s.heap H locs → ∀ (ls : Array Slot), lv_has ls 3 [(0, .ref en), (1, .int x), (2, .int (nI i))] → W p l e ({ frames := 0, cells := 0, slots := 0, locals := 0 } : Room) s m args below meth c H locs 0 0 Q (F0 m 2 ls []) := by
    intro fu
    induction fu with
    | zero => intro i hf; omega
    | succ fu ih2 =>
      intro i hf hi hn H locs hP hD hS ls hl
      refine lv_iload_n hx hb d_Entries_tellOf_2 rfl (lv_at hl 2 rfl) ?_
      refine lv_aload_n hx hb d_Entries_tellOf_3 rfl (lv_at hl 0 rfl) ?_
      refine va_get (D := D) (ci := 3) (v := .int (nI len)) (C := R_Entries) (T := F_Entries) (N := 3) hx hb hts i_Entries hown hK hP 0 rfl rfl 2 (by decide) (hts _ kw_30) (fun _ h9 => h9) rfl d_Entries_tellOf_4 ?_
      refine zz_icmp_ge (tgt := 28) hx hb (by omega) (by omega) d_Entries_tellOf_7 (by decide) (fun c7 => ?_) (fun c7 => ?_)
      · skip
        refine lv_iconst (v := nI 0) hx hb d_Entries_tellOf_28 (by decide +kernel) ?_
        refine zz_top (z := lc_bI (lc_on fe len x)) (by first | exact lc_on_t (by omega) (by assumption) | exact lc_on_f (by omega) hn) ?_
        exact hret _ _ _ _ d_Entries_tellOf_29 hP hD hS
      · skip
        refine lv_aload_n hx hb d_Entries_tellOf_10 rfl (lv_at hl 0 rfl) ?_
        refine va_get (D := D) (ci := 3) (v := .ref eo) (C := R_Entries) (T := F_Entries) (N := 3) hx hb hts i_Entries hown hK hP 0 rfl rfl 0 (by decide) (hts _ kw_31) (fun _ h9 => h9) rfl d_Entries_tellOf_11 ?_
        refine lv_iload_n hx hb d_Entries_tellOf_14 rfl (lv_at hl 2 rfl) ?_
        refine zz_iald hx hb hK hP 1 0 (f := fe) rfl rfl (i := i) (by omega) (by omega) d_Entries_tellOf_15 ?_
        refine lv_iload_n hx hb d_Entries_tellOf_16 rfl (lv_at hl 1 rfl) ?_
        refine lv_icmp_ne (tgt := 22) hx hb d_Entries_tellOf_17 (by decide) (fun c17 => ?_) (fun c17 => ?_)
        · skip
          refine lv_iinc (v := nI (i + 1)) (lv' := [(2, .int (nI (i + 1))), (0, .ref en), (1, .int x)]) hx hb d_Entries_tellOf_22 hl (k := 2) rfl (nI_1 _) (by decide) rfl (fun ls hl => ?_)
          refine lv_goto (tgt := 2) hx hb d_Entries_tellOf_25 (by decide) ?_
          exact ih2 (i + 1) (by omega) (by omega) (lc_lt1 hn (by assumption)) _ _ hP hD hS _ (lv_sub hl [1, 2, 0] rfl)
        · skip
          refine lv_iconst (v := nI 1) hx hb d_Entries_tellOf_20 (by decide +kernel) ?_
          refine zz_top (z := lc_bI (lc_on fe len x)) (by first | exact lc_on_t (by omega) (by assumption) | exact lc_on_f (by omega) hn) ?_
          exact hret _ _ _ _ d_Entries_tellOf_21 hP hD hS
  exact loop2 9 0 (by omega) (by omega) (fun j hj => by omega) _ _ hP hD hS _ (lv_sub hl [1, 2, 0] rfl)
set_option maxHeartbeats 4000000 in
set_option maxRecDepth 100000 in
theorem c_Entries_objectOf (l : Launch) (D : va_G) (cI : ClassId) (cG : ClassId) (en : Nat) (eo : Nat) (sb : Nat) (rr : Nat → Nat) (fe : lc_A) (M : Nat → lc_A) (len : Nat) (k : Nat) (hk : k < 5) : zz_MI l y_Entries_objectOf b_Entries_objectOf 2 .int ({ frames := 0, cells := 0, slots := 0, locals := 0 } : Room) D [(cI, .int), (cG, .array .int)] [.ref en, .int (nI k)] [(en, .inr (3, [.ref eo, .ref sb, .int (nI len)])), (eo, .inl (cI, 5, .inl fe)), (sb, .inl (cG, 5, .inr (.inr (.inr (.inr (fun uu => if uu < 5 then some (rr uu) else none)))))), (rr 0, .inl (cI, 4, .inl (M 0))), (rr 1, .inl (cI, 4, .inl (M 1))), (rr 2, .inl (cI, 4, .inl (M 2))), (rr 3, .inl (cI, 4, .inl (M 3))), (rr 4, .inl (cI, 4, .inl (M 4)))] (fe k) [(en, .inr (3, [.ref eo, .ref sb, .int (nI len)])), (eo, .inl (cI, 5, .inl fe)), (sb, .inl (cG, 5, .inr (.inr (.inr (.inr (fun uu => if uu < 5 then some (rr uu) else none)))))), (rr 0, .inl (cI, 4, .inl (M 0))), (rr 1, .inl (cI, 4, .inl (M 1))), (rr 2, .inl (cI, 4, .inl (M 2))), (rr 3, .inl (cI, 4, .inl (M 3))), (rr 4, .inl (cI, 4, .inl (M 4)))] := by
  refine zz_MI_of (by decide) (Nat.le_of_ble_eq_true rfl) (vp_nar_int _) ?_
  intro p e s m args below meth c A ls Q hx hb hml hown hts hK hP hD hS hA hl hret
  have hown : s.vm.findClass R_Entries = some m.cls := hown
  have hl : lv_has ls 2 [(0, .ref en), (1, .int (nI k))] := hl
  refine lv_aload_n hx hb d_Entries_objectOf_0 rfl (lv_at hl 0 rfl) ?_
  refine va_get (D := D) (ci := 3) (v := .ref eo) (C := R_Entries) (T := F_Entries) (N := 3) hx hb hts i_Entries hown hK hP 0 rfl rfl 0 (by decide) (hts _ kw_31) (fun _ h9 => h9) rfl d_Entries_objectOf_1 ?_
  refine lv_iload_n hx hb d_Entries_objectOf_4 rfl (lv_at hl 1 rfl) ?_
  refine zz_iald hx hb hK hP 1 0 (f := fe) rfl rfl (i := k) (by omega) (by omega) d_Entries_objectOf_5 ?_
  exact hret _ _ _ _ d_Entries_objectOf_6 hP hD hS
set_option maxHeartbeats 4000000 in
set_option maxRecDepth 100000 in
theorem c_Entries_before (l : Launch) (D : va_G) (cI : ClassId) (cG : ClassId) (en : Nat) (eo : Nat) (sb : Nat) (rr : Nat → Nat) (fe : lc_A) (M : Nat → lc_A) (len : Nat) (k : Nat) (j : Nat) (hk : k < 5) (hj : j < 4) : zz_MI l y_Entries_before b_Entries_before 3 .int ({ frames := 0, cells := 0, slots := 0, locals := 0 } : Room) D [(cI, .int), (cG, .array .int)] [.ref en, .int (nI k), .int (nI j)] [(en, .inr (3, [.ref eo, .ref sb, .int (nI len)])), (eo, .inl (cI, 5, .inl fe)), (sb, .inl (cG, 5, .inr (.inr (.inr (.inr (fun uu => if uu < 5 then some (rr uu) else none)))))), (rr 0, .inl (cI, 4, .inl (M 0))), (rr 1, .inl (cI, 4, .inl (M 1))), (rr 2, .inl (cI, 4, .inl (M 2))), (rr 3, .inl (cI, 4, .inl (M 3))), (rr 4, .inl (cI, 4, .inl (M 4)))] (M k j) [(en, .inr (3, [.ref eo, .ref sb, .int (nI len)])), (eo, .inl (cI, 5, .inl fe)), (sb, .inl (cG, 5, .inr (.inr (.inr (.inr (fun uu => if uu < 5 then some (rr uu) else none)))))), (rr 0, .inl (cI, 4, .inl (M 0))), (rr 1, .inl (cI, 4, .inl (M 1))), (rr 2, .inl (cI, 4, .inl (M 2))), (rr 3, .inl (cI, 4, .inl (M 3))), (rr 4, .inl (cI, 4, .inl (M 4)))] := by
  refine zz_MI_of (by decide) (Nat.le_of_ble_eq_true rfl) (vp_nar_int _) ?_
  intro p e s m args below meth c A ls Q hx hb hml hown hts hK hP hD hS hA hl hret
  have hown : s.vm.findClass R_Entries = some m.cls := hown
  have hl : lv_has ls 3 [(0, .ref en), (1, .int (nI k)), (2, .int (nI j))] := hl
  refine lv_aload_n hx hb d_Entries_before_0 rfl (lv_at hl 0 rfl) ?_
  refine va_get (D := D) (ci := 3) (v := .ref sb) (C := R_Entries) (T := F_Entries) (N := 3) hx hb hts i_Entries hown hK hP 0 rfl rfl 1 (by decide) (hts _ kw_32) (fun _ h9 => h9) rfl d_Entries_before_1 ?_
  refine lv_iload_n hx hb d_Entries_before_4 rfl (lv_at hl 1 rfl) ?_
  refine zz_aald hx hb hK hP 2 1 (f := (fun uu => if uu < 5 then some (rr uu) else none)) rfl rfl (i := k) (by omega) (by omega) (if_pos (by omega)) d_Entries_before_5 ?_
  refine lv_iload_n hx hb d_Entries_before_6 rfl (lv_at hl 2 rfl) ?_
  refine zz_iald hx hb hK hP (3 + k) 0 (f := M k) (zz_rowget (by omega)) rfl (i := j) (by omega) (by omega) d_Entries_before_7 ?_
  exact hret _ _ _ _ d_Entries_before_8 hP hD hS
set_option maxHeartbeats 4000000 in
set_option maxRecDepth 100000 in
theorem c_Entries_setBefore (l : Launch) (D : va_G) (cI : ClassId) (cG : ClassId) (en : Nat) (eo : Nat) (sb : Nat) (rr : Nat → Nat) (fe : lc_A) (M : Nat → lc_A) (len : Nat) (k : Nat) (j : Nat) (x : Int32) (hk : k < 5) (hj : j < 4) : zz_MV l y_Entries_setBefore b_Entries_setBefore 4 ({ frames := 0, cells := 0, slots := 0, locals := 0 } : Room) D [(cI, .int), (cG, .array .int)] [.ref en, .int (nI k), .int (nI j), .int x] [(en, .inr (3, [.ref eo, .ref sb, .int (nI len)])), (eo, .inl (cI, 5, .inl fe)), (sb, .inl (cG, 5, .inr (.inr (.inr (.inr (fun uu => if uu < 5 then some (rr uu) else none)))))), (rr 0, .inl (cI, 4, .inl (M 0))), (rr 1, .inl (cI, 4, .inl (M 1))), (rr 2, .inl (cI, 4, .inl (M 2))), (rr 3, .inl (cI, 4, .inl (M 3))), (rr 4, .inl (cI, 4, .inl (M 4)))] [(en, .inr (3, [.ref eo, .ref sb, .int (nI len)])), (eo, .inl (cI, 5, .inl fe)), (sb, .inl (cG, 5, .inr (.inr (.inr (.inr (fun uu => if uu < 5 then some (rr uu) else none)))))), (rr 0, .inl (cI, 4, .inl ((va_up M k (upd (M k) j x)) 0))), (rr 1, .inl (cI, 4, .inl ((va_up M k (upd (M k) j x)) 1))), (rr 2, .inl (cI, 4, .inl ((va_up M k (upd (M k) j x)) 2))), (rr 3, .inl (cI, 4, .inl ((va_up M k (upd (M k) j x)) 3))), (rr 4, .inl (cI, 4, .inl ((va_up M k (upd (M k) j x)) 4)))] := by
  refine zz_MV_of (by decide) (Nat.le_of_ble_eq_true rfl) ?_
  intro p e s m args below meth c A ls Q hx hb hml hown hts hK hP hD hS hA hl hret
  have hown : s.vm.findClass R_Entries = some m.cls := hown
  have hl : lv_has ls 4 [(0, .ref en), (1, .int (nI k)), (2, .int (nI j)), (3, .int x)] := hl
  refine lv_aload_n hx hb d_Entries_setBefore_0 rfl (lv_at hl 0 rfl) ?_
  refine va_get (D := D) (ci := 3) (v := .ref sb) (C := R_Entries) (T := F_Entries) (N := 3) hx hb hts i_Entries hown hK hP 0 rfl rfl 1 (by decide) (hts _ kw_32) (fun _ h9 => h9) rfl d_Entries_setBefore_1 ?_
  refine lv_iload_n hx hb d_Entries_setBefore_4 rfl (lv_at hl 1 rfl) ?_
  refine zz_aald hx hb hK hP 2 1 (f := (fun uu => if uu < 5 then some (rr uu) else none)) rfl rfl (i := k) (by omega) (by omega) (if_pos (by omega)) d_Entries_setBefore_5 ?_
  refine lv_iload_n hx hb d_Entries_setBefore_6 rfl (lv_at hl 2 rfl) ?_
  refine lv_iload_n hx hb d_Entries_setBefore_7 rfl (lv_at hl 3 rfl) ?_
  refine zz_iast hx hb hK hP hD hS (3 + k) 0 (f := M k) (zz_rowget (by omega)) rfl (i := j) (by omega) (by omega) d_Entries_setBefore_8 (g := upd (M k) j x) rfl (ws' := [(en, .inr (3, [.ref eo, .ref sb, .int (nI len)])), (eo, .inl (cI, 5, .inl fe)), (sb, .inl (cG, 5, .inr (.inr (.inr (.inr (fun uu => if uu < 5 then some (rr uu) else none)))))), (rr 0, .inl (cI, 4, .inl ((va_up M k (upd (M k) j x)) 0))), (rr 1, .inl (cI, 4, .inl ((va_up M k (upd (M k) j x)) 1))), (rr 2, .inl (cI, 4, .inl ((va_up M k (upd (M k) j x)) 2))), (rr 3, .inl (cI, 4, .inl ((va_up M k (upd (M k) j x)) 3))), (rr 4, .inl (cI, 4, .inl ((va_up M k (upd (M k) j x)) 4)))]) (zz_rowset (by omega)) (fun H locs hP hD hS => ?_)
  exact hret _ _ _ _ d_Entries_setBefore_9 hP hD hS
set_option maxHeartbeats 4000000 in
set_option maxRecDepth 100000 in
theorem c_Entries_open (l : Launch) (D : va_G) (cI : ClassId) (cG : ClassId) (en : Nat) (eo : Nat) (sb : Nat) (rr : Nat → Nat) (fe : lc_A) (M : Nat → lc_A) (len : Nat) (x : Int32) (hh : len < 5) : zz_MI l y_Entries_open b_Entries_open 3 .int ({ frames := 0, cells := 0, slots := 0, locals := 0 } : Room) D [(cI, .int), (cG, .array .int)] [.ref en, .int x] [(en, .inr (3, [.ref eo, .ref sb, .int (nI len)])), (eo, .inl (cI, 5, .inl fe)), (sb, .inl (cG, 5, .inr (.inr (.inr (.inr (fun uu => if uu < 5 then some (rr uu) else none)))))), (rr 0, .inl (cI, 4, .inl (M 0))), (rr 1, .inl (cI, 4, .inl (M 1))), (rr 2, .inl (cI, 4, .inl (M 2))), (rr 3, .inl (cI, 4, .inl (M 3))), (rr 4, .inl (cI, 4, .inl (M 4)))] (nI len) [(en, .inr (3, [.ref eo, .ref sb, .int (nI (len + 1))])), (eo, .inl (cI, 5, .inl (upd fe len x))), (sb, .inl (cG, 5, .inr (.inr (.inr (.inr (fun uu => if uu < 5 then some (rr uu) else none)))))), (rr 0, .inl (cI, 4, .inl (M 0))), (rr 1, .inl (cI, 4, .inl (M 1))), (rr 2, .inl (cI, 4, .inl (M 2))), (rr 3, .inl (cI, 4, .inl (M 3))), (rr 4, .inl (cI, 4, .inl (M 4)))] := by
  refine zz_MI_of (by decide) (Nat.le_of_ble_eq_true rfl) (vp_nar_int _) ?_
  intro p e s m args below meth c A ls Q hx hb hml hown hts hK hP hD hS hA hl hret
  have hown : s.vm.findClass R_Entries = some m.cls := hown
  have hl : lv_has ls 3 [(0, .ref en), (1, .int x)] := hl
  refine lv_aload_n hx hb d_Entries_open_0 rfl (lv_at hl 0 rfl) ?_
  refine va_get (D := D) (ci := 3) (v := .int (nI len)) (C := R_Entries) (T := F_Entries) (N := 3) hx hb hts i_Entries hown hK hP 0 rfl rfl 2 (by decide) (hts _ kw_30) (fun _ h9 => h9) rfl d_Entries_open_1 ?_
  refine lv_istore_n (lv' := [(2, .int (nI len)), (0, .ref en), (1, .int x)]) hx hb d_Entries_open_4 rfl hl (by decide) rfl (fun ls hl => ?_)
  refine lv_aload_n hx hb d_Entries_open_5 rfl (lv_at hl 1 rfl) ?_
  refine va_get (D := D) (ci := 3) (v := .ref eo) (C := R_Entries) (T := F_Entries) (N := 3) hx hb hts i_Entries hown hK hP 0 rfl rfl 0 (by decide) (hts _ kw_31) (fun _ h9 => h9) rfl d_Entries_open_6 ?_
  refine lv_iload_n hx hb d_Entries_open_9 rfl (lv_at hl 0 rfl) ?_
  refine lv_iload_n hx hb d_Entries_open_10 rfl (lv_at hl 2 rfl) ?_
  refine zz_iast hx hb hK hP hD hS 1 0 (f := fe) rfl rfl (i := len) (by omega) (by omega) d_Entries_open_11 (g := upd fe len x) rfl (ws' := [(en, .inr (3, [.ref eo, .ref sb, .int (nI len)])), (eo, .inl (cI, 5, .inl (upd fe len x))), (sb, .inl (cG, 5, .inr (.inr (.inr (.inr (fun uu => if uu < 5 then some (rr uu) else none)))))), (rr 0, .inl (cI, 4, .inl (M 0))), (rr 1, .inl (cI, 4, .inl (M 1))), (rr 2, .inl (cI, 4, .inl (M 2))), (rr 3, .inl (cI, 4, .inl (M 3))), (rr 4, .inl (cI, 4, .inl (M 4)))]) rfl (fun H locs hP hD hS => ?_)
  refine lv_aload_n hx hb d_Entries_open_12 rfl (lv_at hl 1 rfl) ?_
  refine lv_dup hx hb d_Entries_open_13 rfl ?_
  refine va_get (D := D) (ci := 3) (v := .int (nI len)) (C := R_Entries) (T := F_Entries) (N := 3) hx hb hts i_Entries hown hK hP 0 rfl rfl 2 (by decide) (hts _ kw_30) (fun _ h9 => h9) rfl d_Entries_open_14 ?_
  refine lv_iconst (v := nI 1) hx hb d_Entries_open_17 (by decide +kernel) ?_
  refine zz_iadd hx hb d_Entries_open_18 ?_
  refine va_put (D := D) (ci := 3) (v := .int (nI (len + 1))) (ty := .int) (C := R_Entries) (T := F_Entries) (N := 3) hx hb hts i_Entries t_Entries t_Entries_ok n_Entries hown hK hP hD hS 0 rfl rfl 2 (by decide) (hts _ kw_30) (fun _ h9 => h9) rfl (by decide +kernel) rfl rfl (Nat.le_of_ble_eq_true rfl) d_Entries_open_19 (fun H locs hP hD hS => ?_)
  have hP : va_P D classes [(en, .inr (3, [.ref eo, .ref sb, .int (nI (len + 1))])), (eo, .inl (cI, 5, .inl (upd fe len x))), (sb, .inl (cG, 5, .inr (.inr (.inr (.inr (fun uu => if uu < 5 then some (rr uu) else none)))))), (rr 0, .inl (cI, 4, .inl (M 0))), (rr 1, .inl (cI, 4, .inl (M 1))), (rr 2, .inl (cI, 4, .inl (M 2))), (rr 3, .inl (cI, 4, .inl (M 3))), (rr 4, .inl (cI, 4, .inl (M 4)))] H := hP
  have hD : va_D A [(en, .inr (3, [.ref eo, .ref sb, .int (nI (len + 1))])), (eo, .inl (cI, 5, .inl (upd fe len x))), (sb, .inl (cG, 5, .inr (.inr (.inr (.inr (fun uu => if uu < 5 then some (rr uu) else none)))))), (rr 0, .inl (cI, 4, .inl (M 0))), (rr 1, .inl (cI, 4, .inl (M 1))), (rr 2, .inl (cI, 4, .inl (M 2))), (rr 3, .inl (cI, 4, .inl (M 3))), (rr 4, .inl (cI, 4, .inl (M 4)))] := hD
  refine lv_iload_n hx hb d_Entries_open_22 rfl (lv_at hl 0 rfl) ?_
  exact hret _ _ _ _ d_Entries_open_23 hP hD hS
set_option maxHeartbeats 4000000 in
set_option maxRecDepth 100000 in
theorem c_Entries_clear (l : Launch) (D : va_G) (cI : ClassId) (cG : ClassId) (en : Nat) (eo : Nat) (sb : Nat) (rr : Nat → Nat) (fe : lc_A) (M : Nat → lc_A) (len : Nat)  : zz_MV l y_Entries_clear b_Entries_clear 1 ({ frames := 0, cells := 0, slots := 0, locals := 0 } : Room) D [(cI, .int), (cG, .array .int)] [.ref en] [(en, .inr (3, [.ref eo, .ref sb, .int (nI len)])), (eo, .inl (cI, 5, .inl fe)), (sb, .inl (cG, 5, .inr (.inr (.inr (.inr (fun uu => if uu < 5 then some (rr uu) else none)))))), (rr 0, .inl (cI, 4, .inl (M 0))), (rr 1, .inl (cI, 4, .inl (M 1))), (rr 2, .inl (cI, 4, .inl (M 2))), (rr 3, .inl (cI, 4, .inl (M 3))), (rr 4, .inl (cI, 4, .inl (M 4)))] [(en, .inr (3, [.ref eo, .ref sb, .int (nI 0)])), (eo, .inl (cI, 5, .inl fe)), (sb, .inl (cG, 5, .inr (.inr (.inr (.inr (fun uu => if uu < 5 then some (rr uu) else none)))))), (rr 0, .inl (cI, 4, .inl (M 0))), (rr 1, .inl (cI, 4, .inl (M 1))), (rr 2, .inl (cI, 4, .inl (M 2))), (rr 3, .inl (cI, 4, .inl (M 3))), (rr 4, .inl (cI, 4, .inl (M 4)))] := by
  refine zz_MV_of (by decide) (Nat.le_of_ble_eq_true rfl) ?_
  intro p e s m args below meth c A ls Q hx hb hml hown hts hK hP hD hS hA hl hret
  have hown : s.vm.findClass R_Entries = some m.cls := hown
  have hl : lv_has ls 1 [(0, .ref en)] := hl
  refine lv_aload_n hx hb d_Entries_clear_0 rfl (lv_at hl 0 rfl) ?_
  refine lv_iconst (v := nI 0) hx hb d_Entries_clear_1 (by decide +kernel) ?_
  refine va_put (D := D) (ci := 3) (v := .int (nI 0)) (ty := .int) (C := R_Entries) (T := F_Entries) (N := 3) hx hb hts i_Entries t_Entries t_Entries_ok n_Entries hown hK hP hD hS 0 rfl rfl 2 (by decide) (hts _ kw_30) (fun _ h9 => h9) rfl (by decide +kernel) rfl rfl (Nat.le_of_ble_eq_true rfl) d_Entries_clear_2 (fun H locs hP hD hS => ?_)
  have hP : va_P D classes [(en, .inr (3, [.ref eo, .ref sb, .int (nI 0)])), (eo, .inl (cI, 5, .inl fe)), (sb, .inl (cG, 5, .inr (.inr (.inr (.inr (fun uu => if uu < 5 then some (rr uu) else none)))))), (rr 0, .inl (cI, 4, .inl (M 0))), (rr 1, .inl (cI, 4, .inl (M 1))), (rr 2, .inl (cI, 4, .inl (M 2))), (rr 3, .inl (cI, 4, .inl (M 3))), (rr 4, .inl (cI, 4, .inl (M 4)))] H := hP
  have hD : va_D A [(en, .inr (3, [.ref eo, .ref sb, .int (nI 0)])), (eo, .inl (cI, 5, .inl fe)), (sb, .inl (cG, 5, .inr (.inr (.inr (.inr (fun uu => if uu < 5 then some (rr uu) else none)))))), (rr 0, .inl (cI, 4, .inl (M 0))), (rr 1, .inl (cI, 4, .inl (M 1))), (rr 2, .inl (cI, 4, .inl (M 2))), (rr 3, .inl (cI, 4, .inl (M 3))), (rr 4, .inl (cI, 4, .inl (M 4)))] := hD
  exact hret _ _ _ _ d_Entries_clear_5 hP hD hS
