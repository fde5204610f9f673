set_option maxHeartbeats 4000000 in
set_option maxRecDepth 100000 in
theorem c_M_within (l : Launch) (D : va_G) (v : Int32) (lo : Int32) (hi : Int32)  : zz_MI l y_M_within b_M_within 3 .boolean ({ frames := 0, cells := 0, slots := 0, locals := 0 } : Room) D [] [.int v, .int lo, .int hi] [] (lc_bI (decide (lo ≤ v) && decide (v ≤ hi))) [] := by
  refine zz_MI_of (by decide) (Nat.le_of_ble_eq_true rfl) (zz_narB _) ?_
  intro p e s m args below meth c A ls Q hx hb hml hown hts hK hP hD hS hA hl hret
  have hown : s.vm.findClass R_M = some m.cls := hown
  have hl : lv_has ls 3 [(0, .int v), (1, .int lo), (2, .int hi)] := hl
  refine lv_iload_n hx hb d_M_within_0 rfl (lv_at hl 0 rfl) ?_
  refine lv_iload_n hx hb d_M_within_1 rfl (lv_at hl 1 rfl) ?_
  refine lv_icmp_lt (tgt := 14) hx hb d_M_within_2 (by decide) (fun c2 => ?_) (fun c2 => ?_)
  · skip
    refine lv_iconst (v := nI 0) hx hb d_M_within_14 (by decide +kernel) ?_
    refine zz_top (z := lc_bI (decide (lo ≤ v) && decide (v ≤ hi))) (by first | exact lc_w1 (by assumption) (by assumption) | exact lc_w0 (by assumption) | exact lc_w2 (by assumption)) ?_
    exact hret _ _ _ _ d_M_within_15 hP hD hS
  · skip
    refine lv_iload_n hx hb d_M_within_5 rfl (lv_at hl 0 rfl) ?_
    refine lv_iload_n hx hb d_M_within_6 rfl (lv_at hl 2 rfl) ?_
    refine lv_icmp_gt (tgt := 14) hx hb d_M_within_7 (by decide) (fun c7 => ?_) (fun c7 => ?_)
    · skip
      refine lv_iconst (v := nI 0) hx hb d_M_within_14 (by decide +kernel) ?_
      refine zz_top (z := lc_bI (decide (lo ≤ v) && decide (v ≤ hi))) (by first | exact lc_w1 (by assumption) (by assumption) | exact lc_w0 (by assumption) | exact lc_w2 (by assumption)) ?_
      exact hret _ _ _ _ d_M_within_15 hP hD hS
    · skip
      refine lv_iconst (v := nI 1) hx hb d_M_within_10 (by decide +kernel) ?_
      refine lv_goto (tgt := 15) hx hb d_M_within_11 (by decide) ?_
      refine zz_top (z := lc_bI (decide (lo ≤ v) && decide (v ≤ hi))) (by first | exact lc_w1 (by assumption) (by assumption) | exact lc_w0 (by assumption) | exact lc_w2 (by assumption)) ?_
      exact hret _ _ _ _ d_M_within_15 hP hD hS
set_option maxHeartbeats 4000000 in
set_option maxRecDepth 100000 in
theorem c_M_find (l : Launch) (D : va_G) (cI : ClassId) (cZ : ClassId) (g0 : Nat) (a1 : Nat) (a2 : Nat) (a3 : Nat) (a4 : Nat) (a5 : Nat) (a6 : Nat) (a7 : Nat) (a8 : Nat) (nu : lc_A) (sl : Nat → Nat) (co : lc_A) (nt : Nat → Bool) (ho : lc_A) (md : Nat) (ht : Nat) (fp : lc_A) (en : Nat) (wh : lc_A) (he : lc_A) (rn : Int32) (x : Int32) (hs : ∀ i, i < 48 → i + sl i < 48) : zz_MI l y_M_find b_M_find 4 .int ({ frames := 0, cells := 0, slots := 0, locals := 0 } : Room) D [(cI, .int), (cZ, .boolean)] [.ref g0, .int x] [(g0, .inr (4, [.ref a1, .ref a2, .ref a3, .ref a4, .ref a5, .int (nI md), .int (nI ht), .ref a6, .int (nI en), .ref a7, .ref a8, .int rn])), (a1, .inl (cI, 48, .inl nu)), (a2, .inl (cI, 48, .inl (fun uu => nI (sl uu)))), (a3, .inl (cI, 48, .inl co)), (a4, .inl (cZ, 48, .inl (fun uu => lc_bI (nt uu)))), (a5, .inl (cI, 48, .inl ho)), (a6, .inl (cI, 8, .inl fp)), (a7, .inl (cI, 5, .inl wh)), (a8, .inl (cI, 20, .inl he))] (lc_oI (lm_find nu sl x)) [(g0, .inr (4, [.ref a1, .ref a2, .ref a3, .ref a4, .ref a5, .int (nI md), .int (nI ht), .ref a6, .int (nI en), .ref a7, .ref a8, .int rn])), (a1, .inl (cI, 48, .inl nu)), (a2, .inl (cI, 48, .inl (fun uu => nI (sl uu)))), (a3, .inl (cI, 48, .inl co)), (a4, .inl (cZ, 48, .inl (fun uu => lc_bI (nt uu)))), (a5, .inl (cI, 48, .inl ho)), (a6, .inl (cI, 8, .inl fp)), (a7, .inl (cI, 5, .inl wh)), (a8, .inl (cI, 20, .inl he))] := by
  refine zz_MI_of (by decide) (Nat.le_of_ble_eq_true rfl) (vp_nar_int _) ?_
  intro p e s m args below meth c A ls Q hx hb hml hown hts hK hP hD hS hA hl hret
  have hown : s.vm.findClass R_M = some m.cls := hown
  have hl : lv_has ls 4 [(0, .ref g0), (1, .int x)] := hl
  refine lv_iconst (v := (-1)) hx hb d_M_find_0 (by decide +kernel) ?_
  refine lv_istore_n (lv' := [(2, .int (-1)), (0, .ref g0), (1, .int x)]) hx hb d_M_find_1 rfl hl (by decide) rfl (fun ls hl => ?_)
  refine lv_iconst (v := nI 0) hx hb d_M_find_2 (by decide +kernel) ?_
  refine lv_istore_n (lv' := [(3, .int (nI 0)), (2, .int (-1)), (0, .ref g0), (1, .int x)]) hx hb d_M_find_3 rfl hl (by decide) rfl (fun ls hl => ?_)
  have loop4 : ∀ (fu : Nat) (i : Nat), 48 - i < fu → (hi : i ≤ 48) → ∀ (H : Heap) (locs : List Loc), va_P D classes [(g0, .inr (4, [.ref a1, .ref a2, .ref a3, .ref a4, .ref a5, .int (nI md), .int (nI ht), .ref a6, .int (nI en), .ref a7, .ref a8, .int rn])), (a1, .inl (cI, 48, .inl nu)), (a2, .inl (cI, 48, .inl (fun uu => nI (sl uu)))), (a3, .inl (cI, 48, .inl co)), (a4, .inl (cZ, 48, .inl (fun uu => lc_bI (nt uu)))), (a5, .inl (cI, 48, .inl ho)), (a6, .inl (cI, 8, .inl fp)), (a7, .inl (cI, 5, .inl wh)), (a8, .inl (cI, 20, .inl he))] H → va_D A [(g0, .inr (4, [.ref a1, .ref a2, .ref a3, .ref a4, .ref a5, .int (nI md), .int (nI ht), .ref a6, .int (nI en), .ref a7, .ref a8, .int rn])), (a1, .inl (cI, 48, .inl nu)), (a2, .inl (cI, 48, .inl (fun uu => nI (sl uu)))), (a3, .inl (cI, 48, .inl co)), (a4, .inl (cZ, 48, .inl (fun uu => lc_bI (nt uu)))), (a5, .inl (cI, 48, .inl ho)), (a6, .inl (cI, 8, .inl fp)), (a7, .inl (cI, 5, .inl wh)), (a8, .inl (cI, 20, .inl he))] → va_S A s.heap H locs → ∀ (ls : Array Slot), lv_has ls 4 [(0, .ref g0), (1, .int x), (2, .int (lc_oI (lc_lf (fun u => decide (0 < sl u) && decide (nu u = x)) i))), (3, .int (nI i))] → W p l e ({ frames := 0, cells := 0, slots := 0, locals := 0 } : Room) s m args below meth c H locs 0 0 Q (F0 m 4 ls []) := by
    intro fu
    induction fu with
    | zero => intro i hf; omega
    | succ fu ih4 =>
      intro i hf hi H locs hP hD hS ls hl
      refine lv_iload_n hx hb d_M_find_4 rfl (lv_at hl 3 rfl) ?_
      refine lv_bipush (v := nI 48) hx hb d_M_find_5 (by decide +kernel) ?_
      refine zz_icmp_ge (tgt := 41) hx hb (by omega) (by omega) d_M_find_7 (by decide) (fun c7 => ?_) (fun c7 => ?_)
      · skip
        refine lv_iload_n hx hb d_M_find_41 rfl (lv_at hl 2 rfl) ?_
        refine zz_top (z := lc_oI (lm_find nu sl x)) (by rw [show i = 48 by omega]; rfl) ?_
        exact hret _ _ _ _ d_M_find_42 hP hD hS
      · skip
        refine lv_aload_n hx hb d_M_find_10 rfl (lv_at hl 0 rfl) ?_
        refine va_get (D := D) (ci := 4) (v := .ref a2) (C := R_M) (T := F_M) (N := 12) hx hb hts i_M hown hK hP 0 rfl rfl 1 (by decide) (hts _ kw_173) (fun _ h9 => h9) rfl d_M_find_11 ?_
        refine lv_iload_n hx hb d_M_find_14 rfl (lv_at hl 3 rfl) ?_
        refine zz_iald hx hb hK hP 2 0 (f := (fun uu => nI (sl uu))) rfl rfl (i := i) (by omega) (by omega) d_M_find_15 ?_
        refine zz_top (z := nI (sl i)) rfl ?_
        have hsi := hs i (by omega)
        refine zz_if_le (tgt := 33) hx hb (by omega) d_M_find_16 (by decide) (fun c16 => ?_) (fun c16 => ?_)
        · skip
          refine lv_iload_n hx hb d_M_find_33 rfl (lv_at hl 2 rfl) ?_
          refine lv_istore_n (lv' := [(2, .int (lc_oI (lc_lf (fun u => decide (0 < sl u) && decide (nu u = x)) i))), (0, .ref g0), (1, .int x), (3, .int (nI i))]) hx hb d_M_find_34 rfl hl (by decide) rfl (fun ls hl => ?_)
          refine lv_iinc (v := nI (i + 1)) (lv' := [(3, .int (nI (i + 1))), (2, .int (lc_oI (lc_lf (fun u => decide (0 < sl u) && decide (nu u = x)) i))), (0, .ref g0), (1, .int x)]) hx hb d_M_find_35 hl (k := 3) rfl (nI_1 _) (by decide) rfl (fun ls hl => ?_)
          refine lv_goto (tgt := 4) hx hb d_M_find_38 (by decide) ?_
          have eL1 : lc_oI (lc_lf (fun u => decide (0 < sl u) && decide (nu u = x)) i) = lc_oI (lc_lf (fun u => decide (0 < sl u) && decide (nu u = x)) (i + 1)) := by first | rfl | simp [lc_lf, lc_oI, *]
          exact ih4 (i + 1) (by omega) (by omega) _ _ hP hD hS _ (zz_hlc (lv_sub (l' := [(0, .ref g0), (1, .int x), (2, .int (lc_oI (lc_lf (fun u => decide (0 < sl u) && decide (nu u = x)) i))), (3, .int (nI (i + 1)))]) hl [2, 3, 1, 0] rfl) (zz_c1 rfl (zz_c1 rfl (zz_c1 (congrArg (fun v => ((2 : Nat), Value.int v)) eL1) (zz_c1 rfl rfl)))))
        · skip
          refine lv_aload_n hx hb d_M_find_19 rfl (lv_at hl 0 rfl) ?_
          refine va_get (D := D) (ci := 4) (v := .ref a1) (C := R_M) (T := F_M) (N := 12) hx hb hts i_M hown hK hP 0 rfl rfl 0 (by decide) (hts _ kw_174) (fun _ h9 => h9) rfl d_M_find_20 ?_
          refine lv_iload_n hx hb d_M_find_23 rfl (lv_at hl 3 rfl) ?_
          refine zz_iald hx hb hK hP 1 0 (f := nu) rfl rfl (i := i) (by omega) (by omega) d_M_find_24 ?_
          refine lv_iload_n hx hb d_M_find_25 rfl (lv_at hl 1 rfl) ?_
          refine lv_icmp_ne (tgt := 33) hx hb d_M_find_26 (by decide) (fun c26 => ?_) (fun c26 => ?_)
          · skip
            refine lv_iload_n hx hb d_M_find_33 rfl (lv_at hl 2 rfl) ?_
            refine lv_istore_n (lv' := [(2, .int (lc_oI (lc_lf (fun u => decide (0 < sl u) && decide (nu u = x)) i))), (0, .ref g0), (1, .int x), (3, .int (nI i))]) hx hb d_M_find_34 rfl hl (by decide) rfl (fun ls hl => ?_)
            refine lv_iinc (v := nI (i + 1)) (lv' := [(3, .int (nI (i + 1))), (2, .int (lc_oI (lc_lf (fun u => decide (0 < sl u) && decide (nu u = x)) i))), (0, .ref g0), (1, .int x)]) hx hb d_M_find_35 hl (k := 3) rfl (nI_1 _) (by decide) rfl (fun ls hl => ?_)
            refine lv_goto (tgt := 4) hx hb d_M_find_38 (by decide) ?_
            have eL2 : lc_oI (lc_lf (fun u => decide (0 < sl u) && decide (nu u = x)) i) = lc_oI (lc_lf (fun u => decide (0 < sl u) && decide (nu u = x)) (i + 1)) := by first | rfl | simp [lc_lf, lc_oI, *]
            exact ih4 (i + 1) (by omega) (by omega) _ _ hP hD hS _ (zz_hlc (lv_sub (l' := [(0, .ref g0), (1, .int x), (2, .int (lc_oI (lc_lf (fun u => decide (0 < sl u) && decide (nu u = x)) i))), (3, .int (nI (i + 1)))]) hl [2, 3, 1, 0] rfl) (zz_c1 rfl (zz_c1 rfl (zz_c1 (congrArg (fun v => ((2 : Nat), Value.int v)) eL2) (zz_c1 rfl rfl)))))
          · skip
            refine lv_iload_n hx hb d_M_find_29 rfl (lv_at hl 3 rfl) ?_
            refine lv_goto (tgt := 34) hx hb d_M_find_30 (by decide) ?_
            refine lv_istore_n (lv' := [(2, .int (nI i)), (0, .ref g0), (1, .int x), (3, .int (nI i))]) hx hb d_M_find_34 rfl hl (by decide) rfl (fun ls hl => ?_)
            refine lv_iinc (v := nI (i + 1)) (lv' := [(3, .int (nI (i + 1))), (2, .int (nI i)), (0, .ref g0), (1, .int x)]) hx hb d_M_find_35 hl (k := 3) rfl (nI_1 _) (by decide) rfl (fun ls hl => ?_)
            refine lv_goto (tgt := 4) hx hb d_M_find_38 (by decide) ?_
            have eL3 : nI i = lc_oI (lc_lf (fun u => decide (0 < sl u) && decide (nu u = x)) (i + 1)) := by first | rfl | simp [lc_lf, lc_oI, *]
            exact ih4 (i + 1) (by omega) (by omega) _ _ hP hD hS _ (zz_hlc (lv_sub (l' := [(0, .ref g0), (1, .int x), (2, .int (nI i)), (3, .int (nI (i + 1)))]) hl [2, 3, 1, 0] rfl) (zz_c1 rfl (zz_c1 rfl (zz_c1 (congrArg (fun v => ((2 : Nat), Value.int v)) eL3) (zz_c1 rfl rfl)))))
  have eL4 : (-1) = lc_oI (lc_lf (fun u => decide (0 < sl u) && decide (nu u = x)) 0) := by first | rfl | simp [lc_lf, lc_oI, *]
  exact loop4 49 0 (by omega) (by omega) _ _ hP hD hS _ (zz_hlc (lv_sub (l' := [(0, .ref g0), (1, .int x), (2, .int (-1)), (3, .int (nI 0))]) hl [2, 3, 1, 0] rfl) (zz_c1 rfl (zz_c1 rfl (zz_c1 (congrArg (fun v => ((2 : Nat), Value.int v)) eL4) (zz_c1 rfl rfl)))))
