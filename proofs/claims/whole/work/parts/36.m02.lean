set_option maxHeartbeats 4000000 in
set_option maxRecDepth 100000 in
theorem c_M_onStack (l : Launch) (D : va_G) (cI : ClassId) (cZ : ClassId) (g0 : Nat) (a1 : Nat) (a2 : Nat) (a3 : Nat) (a4 : Nat) (a5 : Nat) (a6 : Nat) (a7 : Nat) (a8 : Nat) (nu : lc_A) (sl : Nat → Nat) (co : lc_A) (nt : Nat → Bool) (ho : lc_A) (md : Nat) (ht : Nat) (fp : lc_A) (en : Nat) (wh : lc_A) (he : lc_A) (rn : Int32) (x : Int32) (hht : ht ≤ 8) : zz_MI l y_M_onStack b_M_onStack 4 .boolean ({ frames := 0, cells := 0, slots := 0, locals := 0 } : Room) D [(cI, .int), (cZ, .boolean)] [.ref g0, .int x] [(g0, .inr (4, [.ref a1, .ref a2, .ref a3, .ref a4, .ref a5, .int (nI md), .int (nI ht), .ref a6, .int (nI en), .ref a7, .ref a8, .int rn])), (a1, .inl (cI, 48, .inl nu)), (a2, .inl (cI, 48, .inl (fun uu => nI (sl uu)))), (a3, .inl (cI, 48, .inl co)), (a4, .inl (cZ, 48, .inl (fun uu => lc_bI (nt uu)))), (a5, .inl (cI, 48, .inl ho)), (a6, .inl (cI, 8, .inl fp)), (a7, .inl (cI, 5, .inl wh)), (a8, .inl (cI, 20, .inl he))] (lc_bI (lc_on fp ht x)) [(g0, .inr (4, [.ref a1, .ref a2, .ref a3, .ref a4, .ref a5, .int (nI md), .int (nI ht), .ref a6, .int (nI en), .ref a7, .ref a8, .int rn])), (a1, .inl (cI, 48, .inl nu)), (a2, .inl (cI, 48, .inl (fun uu => nI (sl uu)))), (a3, .inl (cI, 48, .inl co)), (a4, .inl (cZ, 48, .inl (fun uu => lc_bI (nt uu)))), (a5, .inl (cI, 48, .inl ho)), (a6, .inl (cI, 8, .inl fp)), (a7, .inl (cI, 5, .inl wh)), (a8, .inl (cI, 20, .inl he))] := by
  refine zz_MI_of (by decide) (Nat.le_of_ble_eq_true rfl) (zz_narB _) ?_
  intro p e s m args below meth c A ls Q hx hb hml hown hts hK hP hD hS hA hl hret
  have hown : s.vm.findClass R_M = some m.cls := hown
  have hl : lv_has ls 4 [(0, .ref g0), (1, .int x)] := hl
  refine lv_iconst (v := nI 0) hx hb d_M_onStack_0 (by decide +kernel) ?_
  refine lv_istore_n (lv' := [(2, .int (nI 0)), (0, .ref g0), (1, .int x)]) hx hb d_M_onStack_1 rfl hl (by decide) rfl (fun ls hl => ?_)
  refine lv_iconst (v := nI 0) hx hb d_M_onStack_2 (by decide +kernel) ?_
  refine lv_istore_n (lv' := [(3, .int (nI 0)), (2, .int (nI 0)), (0, .ref g0), (1, .int x)]) hx hb d_M_onStack_3 rfl hl (by decide) rfl (fun ls hl => ?_)
  have loop4 : ∀ (fu : Nat) (i : Nat), 8 - i < fu → (hi : i ≤ ht) → ∀ (H : Heap) (locs : List Loc), va_P D classes [(g0, .inr (4, [.ref a1, .ref a2, .ref a3, .ref a4, .ref a5, .int (nI md), .int (nI ht), .ref a6, .int (nI en), .ref a7, .ref a8, .int rn])), (a1, .inl (cI, 48, .inl nu)), (a2, .inl (cI, 48, .inl (fun uu => nI (sl uu)))), (a3, .inl (cI, 48, .inl co)), (a4, .inl (cZ, 48, .inl (fun uu => lc_bI (nt uu)))), (a5, .inl (cI, 48, .inl ho)), (a6, .inl (cI, 8, .inl fp)), (a7, .inl (cI, 5, .inl wh)), (a8, .inl (cI, 20, .inl he))] H → va_D A [(g0, .inr (4, [.ref a1, .ref a2, .ref a3, .ref a4, .ref a5, .int (nI md), .int (nI ht), .ref a6, .int (nI en), .ref a7, .ref a8, .int rn])), (a1, .inl (cI, 48, .inl nu)), (a2, .inl (cI, 48, .inl (fun uu => nI (sl uu)))), (a3, .inl (cI, 48, .inl co)), (a4, .inl (cZ, 48, .inl (fun uu => lc_bI (nt uu)))), (a5, .inl (cI, 48, .inl ho)), (a6, .inl (cI, 8, .inl fp)), (a7, .inl (cI, 5, .inl wh)), (a8, .inl (cI, 20, .inl he))] → va_S A s.heap H locs → ∀ (ls : Array Slot), lv_has ls 4 [(0, .ref g0), (1, .int x), (2, .int (lc_bI (lc_an (fun u => decide (fp u = x)) i))), (3, .int (nI i))] → W p l e ({ frames := 0, cells := 0, slots := 0, locals := 0 } : Room) s m args below meth c H locs 0 0 Q (F0 m 4 ls []) := by
    intro fu
    induction fu with
    | zero => intro i hf; omega
    | succ fu ih4 =>
      intro i hf hi H locs hP hD hS ls hl
      refine lv_iload_n hx hb d_M_onStack_4 rfl (lv_at hl 3 rfl) ?_
      refine lv_aload_n hx hb d_M_onStack_5 rfl (lv_at hl 0 rfl) ?_
      refine va_get (D := D) (ci := 4) (v := .int (nI ht)) (C := R_M) (T := F_M) (N := 12) hx hb hts i_M hown hK hP 0 rfl rfl 6 (by decide) (hts _ kw_176) (fun _ h9 => h9) rfl d_M_onStack_6 ?_
      refine zz_icmp_ge (tgt := 38) hx hb (by omega) (by omega) d_M_onStack_9 (by decide) (fun c9 => ?_) (fun c9 => ?_)
      · skip
        refine lv_iload_n hx hb d_M_onStack_38 rfl (lv_at hl 2 rfl) ?_
        refine zz_top (z := lc_bI (lc_on fp ht x)) (by rw [show i = ht by omega]; rfl) ?_
        exact hret _ _ _ _ d_M_onStack_39 hP hD hS
      · skip
        refine lv_iload_n hx hb d_M_onStack_12 rfl (lv_at hl 2 rfl) ?_
        refine zz_bI (fun h13 => ?_) (fun h13 => ?_)
        · skip
          refine zz_if_ne (tgt := 26) hx hb (by omega) d_M_onStack_13 (by decide) (fun c13 => ?_) (fun c13 => ?_)
          · skip
            refine lv_iconst (v := nI 1) hx hb d_M_onStack_26 (by decide +kernel) ?_
            refine lv_goto (tgt := 31) hx hb d_M_onStack_27 (by decide) ?_
            refine lv_istore_n (lv' := [(2, .int (nI 1)), (0, .ref g0), (1, .int x), (3, .int (nI i))]) hx hb d_M_onStack_31 rfl hl (by decide) rfl (fun ls hl => ?_)
            refine lv_iinc (v := nI (i + 1)) (lv' := [(3, .int (nI (i + 1))), (2, .int (nI 1)), (0, .ref g0), (1, .int x)]) hx hb d_M_onStack_32 hl (k := 3) rfl (nI_1 _) (by decide) rfl (fun ls hl => ?_)
            refine lv_goto (tgt := 4) hx hb d_M_onStack_35 (by decide) ?_
            have eL1 : nI 1 = lc_bI (lc_an (fun u => decide (fp u = x)) (i + 1)) := by first | rfl | simp [lc_an, lc_bI, *]
            exact ih4 (i + 1) (by omega) (by omega) _ _ hP hD hS _ (zz_hlc (lv_sub (l' := [(0, .ref g0), (1, .int x), (2, .int (nI 1)), (3, .int (nI (i + 1)))]) hl [2, 3, 1, 0] rfl) (zz_c1 rfl (zz_c1 rfl (zz_c1 (congrArg (fun v => ((2 : Nat), Value.int v)) eL1) (zz_c1 rfl rfl)))))
          · skip
            exact absurd c13 (by omega)
        · skip
          refine zz_if_ne (tgt := 26) hx hb (by omega) d_M_onStack_13 (by decide) (fun c13 => ?_) (fun c13 => ?_)
          · skip
            exact absurd c13 (by omega)
          · skip
            refine lv_aload_n hx hb d_M_onStack_16 rfl (lv_at hl 0 rfl) ?_
            refine va_get (D := D) (ci := 4) (v := .ref a6) (C := R_M) (T := F_M) (N := 12) hx hb hts i_M hown hK hP 0 rfl rfl 7 (by decide) (hts _ kw_177) (fun _ h9 => h9) rfl d_M_onStack_17 ?_
            refine lv_iload_n hx hb d_M_onStack_20 rfl (lv_at hl 3 rfl) ?_
            refine zz_iald hx hb hK hP 6 0 (f := fp) rfl rfl (i := i) (by omega) (by omega) d_M_onStack_21 ?_
            refine lv_iload_n hx hb d_M_onStack_22 rfl (lv_at hl 1 rfl) ?_
            refine lv_icmp_ne (tgt := 30) hx hb d_M_onStack_23 (by decide) (fun c23 => ?_) (fun c23 => ?_)
            · skip
              refine lv_iconst (v := nI 0) hx hb d_M_onStack_30 (by decide +kernel) ?_
              refine lv_istore_n (lv' := [(2, .int (nI 0)), (0, .ref g0), (1, .int x), (3, .int (nI i))]) hx hb d_M_onStack_31 rfl hl (by decide) rfl (fun ls hl => ?_)
              refine lv_iinc (v := nI (i + 1)) (lv' := [(3, .int (nI (i + 1))), (2, .int (nI 0)), (0, .ref g0), (1, .int x)]) hx hb d_M_onStack_32 hl (k := 3) rfl (nI_1 _) (by decide) rfl (fun ls hl => ?_)
              refine lv_goto (tgt := 4) hx hb d_M_onStack_35 (by decide) ?_
              have eL2 : nI 0 = lc_bI (lc_an (fun u => decide (fp u = x)) (i + 1)) := by first | rfl | simp [lc_an, lc_bI, *]
              exact ih4 (i + 1) (by omega) (by omega) _ _ hP hD hS _ (zz_hlc (lv_sub (l' := [(0, .ref g0), (1, .int x), (2, .int (nI 0)), (3, .int (nI (i + 1)))]) hl [2, 3, 1, 0] rfl) (zz_c1 rfl (zz_c1 rfl (zz_c1 (congrArg (fun v => ((2 : Nat), Value.int v)) eL2) (zz_c1 rfl rfl)))))
            · skip
              refine lv_iconst (v := nI 1) hx hb d_M_onStack_26 (by decide +kernel) ?_
              refine lv_goto (tgt := 31) hx hb d_M_onStack_27 (by decide) ?_
              refine lv_istore_n (lv' := [(2, .int (nI 1)), (0, .ref g0), (1, .int x), (3, .int (nI i))]) hx hb d_M_onStack_31 rfl hl (by decide) rfl (fun ls hl => ?_)
              refine lv_iinc (v := nI (i + 1)) (lv' := [(3, .int (nI (i + 1))), (2, .int (nI 1)), (0, .ref g0), (1, .int x)]) hx hb d_M_onStack_32 hl (k := 3) rfl (nI_1 _) (by decide) rfl (fun ls hl => ?_)
              refine lv_goto (tgt := 4) hx hb d_M_onStack_35 (by decide) ?_
              have eL3 : nI 1 = lc_bI (lc_an (fun u => decide (fp u = x)) (i + 1)) := by first | rfl | simp [lc_an, lc_bI, *]
              exact ih4 (i + 1) (by omega) (by omega) _ _ hP hD hS _ (zz_hlc (lv_sub (l' := [(0, .ref g0), (1, .int x), (2, .int (nI 1)), (3, .int (nI (i + 1)))]) hl [2, 3, 1, 0] rfl) (zz_c1 rfl (zz_c1 rfl (zz_c1 (congrArg (fun v => ((2 : Nat), Value.int v)) eL3) (zz_c1 rfl rfl)))))
  have eL4 : nI 0 = lc_bI (lc_an (fun u => decide (fp u = x)) 0) := by first | rfl | simp [lc_an, lc_bI, *]
  exact loop4 9 0 (by omega) (by omega) _ _ hP hD hS _ (zz_hlc (lv_sub (l' := [(0, .ref g0), (1, .int x), (2, .int (nI 0)), (3, .int (nI 0))]) hl [2, 3, 1, 0] rfl) (zz_c1 rfl (zz_c1 rfl (zz_c1 (congrArg (fun v => ((2 : Nat), Value.int v)) eL4) (zz_c1 rfl rfl)))))
