set_option maxHeartbeats 4000000 in
set_option maxRecDepth 100000 in
theorem c_M_holders (l : Launch) (D : va_G) (cI : ClassId) (cZ : ClassId) (g0 : Nat) (a1 : Nat) (a2 : Nat) (a3 : Nat) (a4 : Nat) (a5 : Nat) (a6 : Nat) (a7 : Nat) (a8 : Nat) (nu : lc_A) (sl : Nat → Nat) (co : lc_A) (nt : Nat → Bool) (ho : lc_A) (md : Nat) (ht : Nat) (fp : lc_A) (en : Nat) (wh : lc_A) (he : lc_A) (rn : Int32) (x : Int32) (hs : ∀ i, i < 48 → i + sl i < 48) : zz_MI l y_M_holders b_M_holders 5 .int ({ frames := 0, cells := 0, slots := 0, locals := 0 } : Room) D [(cI, .int), (cZ, .boolean)] [.ref g0, .int x] [(g0, .inr (4, [.ref a1, .ref a2, .ref a3, .ref a4, .ref a5, .int (nI md), .int (nI ht), .ref a6, .int (nI en), .ref a7, .ref a8, .int rn])), (a1, .inl (cI, 48, .inl nu)), (a2, .inl (cI, 48, .inl (fun uu => nI (sl uu)))), (a3, .inl (cI, 48, .inl co)), (a4, .inl (cZ, 48, .inl (fun uu => lc_bI (nt uu)))), (a5, .inl (cI, 48, .inl ho)), (a6, .inl (cI, 8, .inl fp)), (a7, .inl (cI, 5, .inl wh)), (a8, .inl (cI, 20, .inl he))] (nI (lm_hs sl ho x 48)) [(g0, .inr (4, [.ref a1, .ref a2, .ref a3, .ref a4, .ref a5, .int (nI md), .int (nI ht), .ref a6, .int (nI en), .ref a7, .ref a8, .int rn])), (a1, .inl (cI, 48, .inl nu)), (a2, .inl (cI, 48, .inl (fun uu => nI (sl uu)))), (a3, .inl (cI, 48, .inl co)), (a4, .inl (cZ, 48, .inl (fun uu => lc_bI (nt uu)))), (a5, .inl (cI, 48, .inl ho)), (a6, .inl (cI, 8, .inl fp)), (a7, .inl (cI, 5, .inl wh)), (a8, .inl (cI, 20, .inl he))] := by
  refine zz_MI_of (by decide) (Nat.le_of_ble_eq_true rfl) (vp_nar_int _) ?_
  intro p e s m args below meth c A ls Q hx hb hml hown hts hK hP hD hS hA hl hret
  have hown : s.vm.findClass R_M = some m.cls := hown
  have hl : lv_has ls 5 [(0, .ref g0), (1, .int x)] := hl
  refine lv_iconst (v := nI 0) hx hb d_M_holders_0 (by decide +kernel) ?_
  refine lv_istore_n (lv' := [(2, .int (nI 0)), (0, .ref g0), (1, .int x)]) hx hb d_M_holders_1 rfl hl (by decide) rfl (fun ls hl => ?_)
  refine lv_iconst (v := nI 0) hx hb d_M_holders_2 (by decide +kernel) ?_
  refine lv_istore_n (lv' := [(3, .int (nI 0)), (2, .int (nI 0)), (0, .ref g0), (1, .int x)]) hx hb d_M_holders_3 rfl hl (by decide) rfl (fun ls hl => ?_)
  have loop4 : ∀ (fu : Nat) (i : Nat), 48 - i < fu → (hi : i ≤ 48) → ∀ (H : Heap) (locs : List Loc), va_P D classes [(g0, .inr (4, [.ref a1, .ref a2, .ref a3, .ref a4, .ref a5, .int (nI md), .int (nI ht), .ref a6, .int (nI en), .ref a7, .ref a8, .int rn])), (a1, .inl (cI, 48, .inl nu)), (a2, .inl (cI, 48, .inl (fun uu => nI (sl uu)))), (a3, .inl (cI, 48, .inl co)), (a4, .inl (cZ, 48, .inl (fun uu => lc_bI (nt uu)))), (a5, .inl (cI, 48, .inl ho)), (a6, .inl (cI, 8, .inl fp)), (a7, .inl (cI, 5, .inl wh)), (a8, .inl (cI, 20, .inl he))] H → va_D A [(g0, .inr (4, [.ref a1, .ref a2, .ref a3, .ref a4, .ref a5, .int (nI md), .int (nI ht), .ref a6, .int (nI en), .ref a7, .ref a8, .int rn])), (a1, .inl (cI, 48, .inl nu)), (a2, .inl (cI, 48, .inl (fun uu => nI (sl uu)))), (a3, .inl (cI, 48, .inl co)), (a4, .inl (cZ, 48, .inl (fun uu => lc_bI (nt uu)))), (a5, .inl (cI, 48, .inl ho)), (a6, .inl (cI, 8, .inl fp)), (a7, .inl (cI, 5, .inl wh)), (a8, .inl (cI, 20, .inl he))] → va_S A s.heap H locs → ∀ (ls : Array Slot), lv_has ls 5 [(0, .ref g0), (1, .int x), (2, .int (nI (lm_hs sl ho x i))), (3, .int (nI i))] → W p l e ({ frames := 0, cells := 0, slots := 0, locals := 0 } : Room) s m args below meth c H locs 0 0 Q (F0 m 4 ls []) := by
    intro fu
    induction fu with
    | zero => intro i hf; omega
    | succ fu ih4 =>
      intro i hf hi H locs hP hD hS ls hl
      refine lv_iload_n hx hb d_M_holders_4 rfl (lv_at hl 3 rfl) ?_
      refine lv_bipush (v := nI 48) hx hb d_M_holders_5 (by decide +kernel) ?_
      refine zz_icmp_ge (tgt := 57) hx hb (by omega) (by omega) d_M_holders_7 (by decide) (fun c7 => ?_) (fun c7 => ?_)
      · skip
        refine lv_iload_n hx hb d_M_holders_57 rfl (lv_at hl 2 rfl) ?_
        refine zz_top (z := nI (lm_hs sl ho x 48)) (by rw [show i = 48 by omega]) ?_
        exact hret _ _ _ _ d_M_holders_58 hP hD hS
      · skip
        refine lv_iconst (v := nI 1) hx hb d_M_holders_10 (by decide +kernel) ?_
        refine lv_istore (lv' := [(4, .int (nI 1)), (0, .ref g0), (1, .int x), (2, .int (nI (lm_hs sl ho x i))), (3, .int (nI i))]) hx hb d_M_holders_11 hl (by decide) rfl (fun ls hl => ?_)
        have loop13 : ∀ (fu : Nat) (j : Nat), 48 - j < fu → (hj : j ≤ sl i) → ∀ (H : Heap) (locs : List Loc), va_P D classes [(g0, .inr (4, [.ref a1, .ref a2, .ref a3, .ref a4, .ref a5, .int (nI md), .int (nI ht), .ref a6, .int (nI en), .ref a7, .ref a8, .int rn])), (a1, .inl (cI, 48, .inl nu)), (a2, .inl (cI, 48, .inl (fun uu => nI (sl uu)))), (a3, .inl (cI, 48, .inl co)), (a4, .inl (cZ, 48, .inl (fun uu => lc_bI (nt uu)))), (a5, .inl (cI, 48, .inl ho)), (a6, .inl (cI, 8, .inl fp)), (a7, .inl (cI, 5, .inl wh)), (a8, .inl (cI, 20, .inl he))] H → va_D A [(g0, .inr (4, [.ref a1, .ref a2, .ref a3, .ref a4, .ref a5, .int (nI md), .int (nI ht), .ref a6, .int (nI en), .ref a7, .ref a8, .int rn])), (a1, .inl (cI, 48, .inl nu)), (a2, .inl (cI, 48, .inl (fun uu => nI (sl uu)))), (a3, .inl (cI, 48, .inl co)), (a4, .inl (cZ, 48, .inl (fun uu => lc_bI (nt uu)))), (a5, .inl (cI, 48, .inl ho)), (a6, .inl (cI, 8, .inl fp)), (a7, .inl (cI, 5, .inl wh)), (a8, .inl (cI, 20, .inl he))] → va_S A s.heap H locs → ∀ (ls : Array Slot), lv_has ls 5 [(0, .ref g0), (1, .int x), (2, .int (nI (lm_hs sl ho x i + lc_ct (fun u => decide (ho (i + 1 + u) = x)) j))), (3, .int (nI i)), (4, .int (nI (j + 1)))] → W p l e ({ frames := 0, cells := 0, slots := 0, locals := 0 } : Room) s m args below meth c H locs 0 0 Q (F0 m 13 ls []) := by
          intro fu
          induction fu with
          | zero => intro j hf; omega
          | succ fu ih13 =>
            intro j hf hj H locs hP hD hS ls hl
            have hsi := hs i (by omega)
            refine lv_iload hx hb d_M_holders_13 (lv_at hl 4 rfl) ?_
            refine lv_aload_n hx hb d_M_holders_15 rfl (lv_at hl 0 rfl) ?_
            refine va_get (D := D) (ci := 4) (v := .ref a2) (C := R_M) (T := F_M) (N := 12) hx hb hts i_M hown hK hP 0 rfl rfl 1 (by decide) (hts _ kw_173) (fun _ h9 => h9) rfl d_M_holders_16 ?_
            refine lv_iload_n hx hb d_M_holders_19 rfl (lv_at hl 3 rfl) ?_
            refine zz_iald hx hb hK hP 2 0 (f := (fun uu => nI (sl uu))) rfl rfl (i := i) (by omega) (by omega) d_M_holders_20 ?_
            refine zz_top (z := nI (sl i)) rfl ?_
            refine zz_icmp_gt (tgt := 51) hx hb (by omega) (by omega) d_M_holders_21 (by decide) (fun c21 => ?_) (fun c21 => ?_)
            · skip
              refine lv_iinc (v := nI (i + 1)) (lv' := [(3, .int (nI (i + 1))), (0, .ref g0), (1, .int x), (2, .int (nI (lm_hs sl ho x i + lc_ct (fun u => decide (ho (i + 1 + u) = x)) j))), (4, .int (nI (j + 1)))]) hx hb d_M_holders_51 hl (k := 3) rfl (nI_1 _) (by decide) rfl (fun ls hl => ?_)
              refine lv_goto (tgt := 4) hx hb d_M_holders_54 (by decide) ?_
              have eL1 : lm_hs sl ho x i + lc_ct (fun u => decide (ho (i + 1 + u) = x)) j = lm_hs sl ho x (i + 1) := by first | rfl | (rw [show j = sl i by omega]; rfl)
              exact ih4 (i + 1) (by omega) (by omega) _ _ hP hD hS _ (zz_hlc (lv_sub (l' := [(0, .ref g0), (1, .int x), (2, .int (nI (lm_hs sl ho x i + lc_ct (fun u => decide (ho (i + 1 + u) = x)) j))), (3, .int (nI (i + 1)))]) hl [1, 2, 3, 0] rfl) (zz_c1 rfl (zz_c1 rfl (zz_c1 (congrArg (fun v => ((2 : Nat), Value.int (nI v))) eL1) (zz_c1 rfl rfl)))))
            · skip
              refine lv_aload_n hx hb d_M_holders_24 rfl (lv_at hl 0 rfl) ?_
              refine va_get (D := D) (ci := 4) (v := .ref a5) (C := R_M) (T := F_M) (N := 12) hx hb hts i_M hown hK hP 0 rfl rfl 4 (by decide) (hts _ kw_175) (fun _ h9 => h9) rfl d_M_holders_25 ?_
              refine lv_iload_n hx hb d_M_holders_28 rfl (lv_at hl 3 rfl) ?_
              refine lv_iload hx hb d_M_holders_29 (lv_at hl 4 rfl) ?_
              refine zz_iadd hx hb d_M_holders_31 ?_
              refine zz_iald hx hb hK hP 5 0 (f := ho) rfl rfl (i := i + (j + 1)) (by omega) (by omega) d_M_holders_32 ?_
              refine lv_iload_n hx hb d_M_holders_33 rfl (lv_at hl 1 rfl) ?_
              refine lv_icmp_ne (tgt := 43) hx hb d_M_holders_34 (by decide) (fun c34 => ?_) (fun c34 => ?_)
              · skip
                refine lv_iload_n hx hb d_M_holders_43 rfl (lv_at hl 2 rfl) ?_
                refine lv_istore_n (lv' := [(2, .int (nI (lm_hs sl ho x i + lc_ct (fun u => decide (ho (i + 1 + u) = x)) j))), (0, .ref g0), (1, .int x), (3, .int (nI i)), (4, .int (nI (j + 1)))]) hx hb d_M_holders_44 rfl hl (by decide) rfl (fun ls hl => ?_)
                refine lv_iinc (v := nI ((j + 1) + 1)) (lv' := [(4, .int (nI ((j + 1) + 1))), (2, .int (nI (lm_hs sl ho x i + lc_ct (fun u => decide (ho (i + 1 + u) = x)) j))), (0, .ref g0), (1, .int x), (3, .int (nI i))]) hx hb d_M_holders_45 hl (k := 4) rfl (nI_1 _) (by decide) rfl (fun ls hl => ?_)
                refine lv_goto (tgt := 13) hx hb d_M_holders_48 (by decide) ?_
                have eL2 : lm_hs sl ho x i + lc_ct (fun u => decide (ho (i + 1 + u) = x)) j = lm_hs sl ho x i + lc_ct (fun u => decide (ho (i + 1 + u) = x)) (j + 1) := by first | rfl | (simp [lc_ct, show i + 1 + j = i + (j + 1) by omega, *]; done) | (simp [lc_ct, show i + 1 + j = i + (j + 1) by omega, *]; omega)
                exact ih13 (j + 1) (by omega) (by omega) _ _ hP hD hS _ (zz_hlc (lv_sub (l' := [(0, .ref g0), (1, .int x), (2, .int (nI (lm_hs sl ho x i + lc_ct (fun u => decide (ho (i + 1 + u) = x)) j))), (3, .int (nI i)), (4, .int (nI ((j + 1) + 1)))]) hl [2, 3, 1, 4, 0] rfl) (zz_c1 rfl (zz_c1 rfl (zz_c1 (congrArg (fun v => ((2 : Nat), Value.int (nI v))) eL2) (zz_c1 rfl (zz_c1 rfl rfl))))))
              · skip
                refine lv_iload_n hx hb d_M_holders_37 rfl (lv_at hl 2 rfl) ?_
                refine lv_iconst (v := nI 1) hx hb d_M_holders_38 (by decide +kernel) ?_
                refine zz_iadd hx hb d_M_holders_39 ?_
                refine lv_goto (tgt := 44) hx hb d_M_holders_40 (by decide) ?_
                refine lv_istore_n (lv' := [(2, .int (nI ((lm_hs sl ho x i + lc_ct (fun u => decide (ho (i + 1 + u) = x)) j) + 1))), (0, .ref g0), (1, .int x), (3, .int (nI i)), (4, .int (nI (j + 1)))]) hx hb d_M_holders_44 rfl hl (by decide) rfl (fun ls hl => ?_)
                refine lv_iinc (v := nI ((j + 1) + 1)) (lv' := [(4, .int (nI ((j + 1) + 1))), (2, .int (nI ((lm_hs sl ho x i + lc_ct (fun u => decide (ho (i + 1 + u) = x)) j) + 1))), (0, .ref g0), (1, .int x), (3, .int (nI i))]) hx hb d_M_holders_45 hl (k := 4) rfl (nI_1 _) (by decide) rfl (fun ls hl => ?_)
                refine lv_goto (tgt := 13) hx hb d_M_holders_48 (by decide) ?_
                have eL3 : (lm_hs sl ho x i + lc_ct (fun u => decide (ho (i + 1 + u) = x)) j) + 1 = lm_hs sl ho x i + lc_ct (fun u => decide (ho (i + 1 + u) = x)) (j + 1) := by first | rfl | (simp [lc_ct, show i + 1 + j = i + (j + 1) by omega, *]; done) | (simp [lc_ct, show i + 1 + j = i + (j + 1) by omega, *]; omega)
                exact ih13 (j + 1) (by omega) (by omega) _ _ hP hD hS _ (zz_hlc (lv_sub (l' := [(0, .ref g0), (1, .int x), (2, .int (nI ((lm_hs sl ho x i + lc_ct (fun u => decide (ho (i + 1 + u) = x)) j) + 1))), (3, .int (nI i)), (4, .int (nI ((j + 1) + 1)))]) hl [2, 3, 1, 4, 0] rfl) (zz_c1 rfl (zz_c1 rfl (zz_c1 (congrArg (fun v => ((2 : Nat), Value.int (nI v))) eL3) (zz_c1 rfl (zz_c1 rfl rfl))))))
        have eL4 : lm_hs sl ho x i = lm_hs sl ho x i + lc_ct (fun u => decide (ho (i + 1 + u) = x)) 0 := by first | rfl | (simp [lc_ct, show i + 1 + j = i + (j + 1) by omega, *]; done) | (simp [lc_ct, show i + 1 + j = i + (j + 1) by omega, *]; omega)
        have eL5 : 1 = 0 + 1 := by omega
        exact loop13 49 0 (by omega) (by omega) _ _ hP hD hS _ (zz_hlc (lv_sub (l' := [(0, .ref g0), (1, .int x), (2, .int (nI (lm_hs sl ho x i))), (3, .int (nI i)), (4, .int (nI 1))]) hl [1, 2, 3, 4, 0] rfl) (zz_c1 rfl (zz_c1 rfl (zz_c1 (congrArg (fun v => ((2 : Nat), Value.int (nI v))) eL4) (zz_c1 rfl (zz_c1 (congrArg (fun v => ((4 : Nat), Value.int (nI v))) eL5) rfl))))))
  have eL6 : 0 = lm_hs sl ho x 0 := by first | rfl | (rw [show j = sl i by omega]; rfl)
  exact loop4 49 0 (by omega) (by omega) _ _ hP hD hS _ (zz_hlc (lv_sub (l' := [(0, .ref g0), (1, .int x), (2, .int (nI 0)), (3, .int (nI 0))]) hl [2, 3, 1, 0] rfl) (zz_c1 rfl (zz_c1 rfl (zz_c1 (congrArg (fun v => ((2 : Nat), Value.int (nI v))) eL6) (zz_c1 rfl rfl)))))
