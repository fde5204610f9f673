set_option maxHeartbeats 4000000 in
set_option maxRecDepth 100000 in
/-- THE LAW'S LOOP: at its head, with i ints read, class and reference agree -/
theorem law_loop {p : Program} {l : Launch} {e : Env} {s : State} {m : MethodId} {below : List Frame} {meth : Method} {c : Code} {D : va_G} {cI cG cZ : ClassId} {b L : Nat} {xs : Nat → Int32} {h0 hp ow wo pl po en eo sb : Nat} {rr : Nat → Nat} {g0 a1 a2 a3 a4 a5 a6 a7 a8 : Nat} (hL : L ≤ 2048) (C0 : lw_At p s m meth c b L xs) (hK : va_K D classes [(cI, .int), (cG, .array .int), (cZ, .boolean)] s) : ∀ (n i : Nat), i ≤ L → L < i + n → ∀ (q : lc_CS) (g : lc_MS), lc_SimT q g → 4 * q.2.2.1 ≤ i → ∀ (H : Heap) (locs : List Loc), va_P D classes [(h0, .inr (0, [.ref hp, .ref pl, .ref en, .int q.2.2.2.2.2.2.2.2])), (hp, .inr (1, [.ref ow, .ref wo, .int (nI q.2.2.1)])), (ow, .inl (cI, 48, .inl q.1)), (wo, .inl (cI, 48, .inl q.2.1)), (pl, .inr (2, [.ref po, .int (nI q.2.2.2.2.1)])), (po, .inl (cI, 8, .inl q.2.2.2.1)), (en, .inr (3, [.ref eo, .ref sb, .int (nI q.2.2.2.2.2.2.2.1)])), (eo, .inl (cI, 5, .inl q.2.2.2.2.2.1)), (sb, .inl (cG, 5, .inr (.inr (.inr (.inr (fun uu => if uu < 5 then some (rr uu) else none)))))), (rr 0, .inl (cI, 4, .inl (q.2.2.2.2.2.2.1 0))), (rr 1, .inl (cI, 4, .inl (q.2.2.2.2.2.2.1 1))), (rr 2, .inl (cI, 4, .inl (q.2.2.2.2.2.2.1 2))), (rr 3, .inl (cI, 4, .inl (q.2.2.2.2.2.2.1 3))), (rr 4, .inl (cI, 4, .inl (q.2.2.2.2.2.2.1 4))), (g0, .inr (4, [.ref a1, .ref a2, .ref a3, .ref a4, .ref a5, .int (nI g.2.2.2.2.2.1), .int (nI g.2.2.2.2.2.2.1), .ref a6, .int (nI g.2.2.2.2.2.2.2.2.1), .ref a7, .ref a8, .int g.2.2.2.2.2.2.2.2.2.2.2])), (a1, .inl (cI, 48, .inl g.1)), (a2, .inl (cI, 48, .inl (fun uu => nI (g.2.1 uu)))), (a3, .inl (cI, 48, .inl g.2.2.1)), (a4, .inl (cZ, 48, .inl (fun uu => lc_bI (g.2.2.2.1 uu)))), (a5, .inl (cI, 48, .inl g.2.2.2.2.1)), (a6, .inl (cI, 8, .inl g.2.2.2.2.2.2.2.1)), (a7, .inl (cI, 5, .inl g.2.2.2.2.2.2.2.2.2.1)), (a8, .inl (cI, 20, .inl g.2.2.2.2.2.2.2.2.2.2.1))] H → va_D (fun q : Nat => s.heap.size ≤ q) [(h0, .inr (0, [.ref hp, .ref pl, .ref en, .int q.2.2.2.2.2.2.2.2])), (hp, .inr (1, [.ref ow, .ref wo, .int (nI q.2.2.1)])), (ow, .inl (cI, 48, .inl q.1)), (wo, .inl (cI, 48, .inl q.2.1)), (pl, .inr (2, [.ref po, .int (nI q.2.2.2.2.1)])), (po, .inl (cI, 8, .inl q.2.2.2.1)), (en, .inr (3, [.ref eo, .ref sb, .int (nI q.2.2.2.2.2.2.2.1)])), (eo, .inl (cI, 5, .inl q.2.2.2.2.2.1)), (sb, .inl (cG, 5, .inr (.inr (.inr (.inr (fun uu => if uu < 5 then some (rr uu) else none)))))), (rr 0, .inl (cI, 4, .inl (q.2.2.2.2.2.2.1 0))), (rr 1, .inl (cI, 4, .inl (q.2.2.2.2.2.2.1 1))), (rr 2, .inl (cI, 4, .inl (q.2.2.2.2.2.2.1 2))), (rr 3, .inl (cI, 4, .inl (q.2.2.2.2.2.2.1 3))), (rr 4, .inl (cI, 4, .inl (q.2.2.2.2.2.2.1 4))), (g0, .inr (4, [.ref a1, .ref a2, .ref a3, .ref a4, .ref a5, .int (nI g.2.2.2.2.2.1), .int (nI g.2.2.2.2.2.2.1), .ref a6, .int (nI g.2.2.2.2.2.2.2.2.1), .ref a7, .ref a8, .int g.2.2.2.2.2.2.2.2.2.2.2])), (a1, .inl (cI, 48, .inl g.1)), (a2, .inl (cI, 48, .inl (fun uu => nI (g.2.1 uu)))), (a3, .inl (cI, 48, .inl g.2.2.1)), (a4, .inl (cZ, 48, .inl (fun uu => lc_bI (g.2.2.2.1 uu)))), (a5, .inl (cI, 48, .inl g.2.2.2.2.1)), (a6, .inl (cI, 8, .inl g.2.2.2.2.2.2.2.1)), (a7, .inl (cI, 5, .inl g.2.2.2.2.2.2.2.2.2.1)), (a8, .inl (cI, 20, .inl g.2.2.2.2.2.2.2.2.2.2.1))] → va_S (fun q : Nat => s.heap.size ≤ q) s.heap H locs → ∀ (ls : Array Slot), lv_has ls 4 [(0, .ref b), (1, .ref h0), (2, .ref g0), (3, .int (nI i))] → W p l e room_1 s m #[Value.ref b] below meth c H locs 23 431 (lw_Z below #[Value.ref b] s) (F0 m 18 ls []) := by
  have C1 := C0
  obtain ⟨hx, hb, hr, hml, hown, hts0, hX, hbl, hlocks, hgv⟩ := C0
  have hts : ∀ w ∈ zz_tb, w.before #[Value.ref b] s = true := fun w hw => hts0 w (List.mem_filter.mp hw).1
  have hA : ∀ q : Nat, s.heap.size ≤ q → (fun q : Nat => s.heap.size ≤ q) q := fun _ h => h
  have hbA : ¬ (fun q : Nat => s.heap.size ≤ q) b := Nat.not_le.mpr hbl
  intro n
  induction n with
  | zero => intro i h1 h2; omega
  | succ n ih =>
    intro i hi hin q g hT hmd H locs hP hD hS ls hl
    obtain ⟨fo, fw, md0, fp0, ht0, fe0, M, len0, rk0⟩ := q
    obtain ⟨nu, sl, co, nt, ho, md, ht, fp, len, fe, he, rk⟩ := g
    obtain ⟨hSim, rfl, rfl, rfl, rfl, rfl, rfl⟩ := hT
    have hmd : 4 * md ≤ i := hmd
    have hP : va_P D classes [(h0, .inr (0, [.ref hp, .ref pl, .ref en, .int rk])), (hp, .inr (1, [.ref ow, .ref wo, .int (nI md)])), (ow, .inl (cI, 48, .inl fo)), (wo, .inl (cI, 48, .inl fw)), (pl, .inr (2, [.ref po, .int (nI ht)])), (po, .inl (cI, 8, .inl fp)), (en, .inr (3, [.ref eo, .ref sb, .int (nI len)])), (eo, .inl (cI, 5, .inl fe)), (sb, .inl (cG, 5, .inr (.inr (.inr (.inr (fun uu => if uu < 5 then some (rr uu) else none)))))), (rr 0, .inl (cI, 4, .inl (M 0))), (rr 1, .inl (cI, 4, .inl (M 1))), (rr 2, .inl (cI, 4, .inl (M 2))), (rr 3, .inl (cI, 4, .inl (M 3))), (rr 4, .inl (cI, 4, .inl (M 4))), (g0, .inr (4, [.ref a1, .ref a2, .ref a3, .ref a4, .ref a5, .int (nI md), .int (nI ht), .ref a6, .int (nI len), .ref a7, .ref a8, .int rk])), (a1, .inl (cI, 48, .inl nu)), (a2, .inl (cI, 48, .inl (fun uu => nI (sl uu)))), (a3, .inl (cI, 48, .inl co)), (a4, .inl (cZ, 48, .inl (fun uu => lc_bI (nt uu)))), (a5, .inl (cI, 48, .inl ho)), (a6, .inl (cI, 8, .inl fp)), (a7, .inl (cI, 5, .inl fe)), (a8, .inl (cI, 20, .inl he))] H := hP
    have hD : va_D (fun q : Nat => s.heap.size ≤ q) [(h0, .inr (0, [.ref hp, .ref pl, .ref en, .int rk])), (hp, .inr (1, [.ref ow, .ref wo, .int (nI md)])), (ow, .inl (cI, 48, .inl fo)), (wo, .inl (cI, 48, .inl fw)), (pl, .inr (2, [.ref po, .int (nI ht)])), (po, .inl (cI, 8, .inl fp)), (en, .inr (3, [.ref eo, .ref sb, .int (nI len)])), (eo, .inl (cI, 5, .inl fe)), (sb, .inl (cG, 5, .inr (.inr (.inr (.inr (fun uu => if uu < 5 then some (rr uu) else none)))))), (rr 0, .inl (cI, 4, .inl (M 0))), (rr 1, .inl (cI, 4, .inl (M 1))), (rr 2, .inl (cI, 4, .inl (M 2))), (rr 3, .inl (cI, 4, .inl (M 3))), (rr 4, .inl (cI, 4, .inl (M 4))), (g0, .inr (4, [.ref a1, .ref a2, .ref a3, .ref a4, .ref a5, .int (nI md), .int (nI ht), .ref a6, .int (nI len), .ref a7, .ref a8, .int rk])), (a1, .inl (cI, 48, .inl nu)), (a2, .inl (cI, 48, .inl (fun uu => nI (sl uu)))), (a3, .inl (cI, 48, .inl co)), (a4, .inl (cZ, 48, .inl (fun uu => lc_bI (nt uu)))), (a5, .inl (cI, 48, .inl ho)), (a6, .inl (cI, 8, .inl fp)), (a7, .inl (cI, 5, .inl fe)), (a8, .inl (cI, 20, .inl he))] := hD
    refine lv_iload_n hx hb d_law_law_18 rfl (lv_at hl 3 rfl) ?_
    refine lv_aload_n hx hb d_law_law_19 rfl (lv_at hl 0 rfl) ?_
    refine va_slen hx hb hX hbl hbA hS d_law_law_20 ?_
    refine lv_iconst (v := nI 4) hx hb d_law_law_21 (by decide +kernel) ?_
    refine lv_isub hx hb d_law_law_22 ?_
    refine lv_icmp_gt (tgt := 510) hx hb d_law_law_23 (by decide) (fun c23 => ?_) (fun c23 => ?_)
    · refine lv_iconst (v := 1) hx hb d_law_law_510 (by decide) ?_
      refine va_forget (fun q hq => hS.2.2 q hq) ?_
      refine W.widen (k := 600000) (n := 7302250) (Nat.le_of_ble_eq_true rfl) (Nat.le_of_ble_eq_true rfl) ?_
      exact lw_ret hx hb hr hlocks d_law_law_511
    · have hi4 : i + 4 ≤ L := law_lt hL (by omega) c23
      have go : ∀ (q : lc_CS) (g : lc_MS), lc_SimT q g → 4 * q.2.2.1 ≤ i + 4 → ∀ (H : Heap) (locs : List Loc), va_P D classes [(h0, .inr (0, [.ref hp, .ref pl, .ref en, .int q.2.2.2.2.2.2.2.2])), (hp, .inr (1, [.ref ow, .ref wo, .int (nI q.2.2.1)])), (ow, .inl (cI, 48, .inl q.1)), (wo, .inl (cI, 48, .inl q.2.1)), (pl, .inr (2, [.ref po, .int (nI q.2.2.2.2.1)])), (po, .inl (cI, 8, .inl q.2.2.2.1)), (en, .inr (3, [.ref eo, .ref sb, .int (nI q.2.2.2.2.2.2.2.1)])), (eo, .inl (cI, 5, .inl q.2.2.2.2.2.1)), (sb, .inl (cG, 5, .inr (.inr (.inr (.inr (fun uu => if uu < 5 then some (rr uu) else none)))))), (rr 0, .inl (cI, 4, .inl (q.2.2.2.2.2.2.1 0))), (rr 1, .inl (cI, 4, .inl (q.2.2.2.2.2.2.1 1))), (rr 2, .inl (cI, 4, .inl (q.2.2.2.2.2.2.1 2))), (rr 3, .inl (cI, 4, .inl (q.2.2.2.2.2.2.1 3))), (rr 4, .inl (cI, 4, .inl (q.2.2.2.2.2.2.1 4))), (g0, .inr (4, [.ref a1, .ref a2, .ref a3, .ref a4, .ref a5, .int (nI g.2.2.2.2.2.1), .int (nI g.2.2.2.2.2.2.1), .ref a6, .int (nI g.2.2.2.2.2.2.2.2.1), .ref a7, .ref a8, .int g.2.2.2.2.2.2.2.2.2.2.2])), (a1, .inl (cI, 48, .inl g.1)), (a2, .inl (cI, 48, .inl (fun uu => nI (g.2.1 uu)))), (a3, .inl (cI, 48, .inl g.2.2.1)), (a4, .inl (cZ, 48, .inl (fun uu => lc_bI (g.2.2.2.1 uu)))), (a5, .inl (cI, 48, .inl g.2.2.2.2.1)), (a6, .inl (cI, 8, .inl g.2.2.2.2.2.2.2.1)), (a7, .inl (cI, 5, .inl g.2.2.2.2.2.2.2.2.2.1)), (a8, .inl (cI, 20, .inl g.2.2.2.2.2.2.2.2.2.2.1))] H → va_D (fun q : Nat => s.heap.size ≤ q) [(h0, .inr (0, [.ref hp, .ref pl, .ref en, .int q.2.2.2.2.2.2.2.2])), (hp, .inr (1, [.ref ow, .ref wo, .int (nI q.2.2.1)])), (ow, .inl (cI, 48, .inl q.1)), (wo, .inl (cI, 48, .inl q.2.1)), (pl, .inr (2, [.ref po, .int (nI q.2.2.2.2.1)])), (po, .inl (cI, 8, .inl q.2.2.2.1)), (en, .inr (3, [.ref eo, .ref sb, .int (nI q.2.2.2.2.2.2.2.1)])), (eo, .inl (cI, 5, .inl q.2.2.2.2.2.1)), (sb, .inl (cG, 5, .inr (.inr (.inr (.inr (fun uu => if uu < 5 then some (rr uu) else none)))))), (rr 0, .inl (cI, 4, .inl (q.2.2.2.2.2.2.1 0))), (rr 1, .inl (cI, 4, .inl (q.2.2.2.2.2.2.1 1))), (rr 2, .inl (cI, 4, .inl (q.2.2.2.2.2.2.1 2))), (rr 3, .inl (cI, 4, .inl (q.2.2.2.2.2.2.1 3))), (rr 4, .inl (cI, 4, .inl (q.2.2.2.2.2.2.1 4))), (g0, .inr (4, [.ref a1, .ref a2, .ref a3, .ref a4, .ref a5, .int (nI g.2.2.2.2.2.1), .int (nI g.2.2.2.2.2.2.1), .ref a6, .int (nI g.2.2.2.2.2.2.2.2.1), .ref a7, .ref a8, .int g.2.2.2.2.2.2.2.2.2.2.2])), (a1, .inl (cI, 48, .inl g.1)), (a2, .inl (cI, 48, .inl (fun uu => nI (g.2.1 uu)))), (a3, .inl (cI, 48, .inl g.2.2.1)), (a4, .inl (cZ, 48, .inl (fun uu => lc_bI (g.2.2.2.1 uu)))), (a5, .inl (cI, 48, .inl g.2.2.2.2.1)), (a6, .inl (cI, 8, .inl g.2.2.2.2.2.2.2.1)), (a7, .inl (cI, 5, .inl g.2.2.2.2.2.2.2.2.2.1)), (a8, .inl (cI, 20, .inl g.2.2.2.2.2.2.2.2.2.2.1))] → va_S (fun q : Nat => s.heap.size ≤ q) s.heap H locs → ∀ (ls : Array Slot), lv_has ls 4 [(0, .ref b), (1, .ref h0), (2, .ref g0), (3, .int (nI i))] → W p l e room_1 s m #[Value.ref b] below meth c H locs 23 431 (lw_Z below #[Value.ref b] s) (F0 m 504 ls []) := by
        intro q g hT hm H locs hP hD hS ls hl
        refine lv_iinc (v := nI (i + 4)) (lv' := [(3, .int (nI (i + 4))), (0, .ref b), (1, .ref h0), (2, .ref g0)]) hx hb d_law_law_504 hl (k := 3) rfl (nI_add i 4) (by decide) rfl (fun ls hl => ?_)
        refine lv_goto (tgt := 18) hx hb d_law_law_507 (by decide) ?_
        exact ih (i + 4) (by omega) (by omega) q g hT hm _ _ hP hD hS _ (lv_sub hl [1, 2, 3, 0] rfl)
      refine lv_aload_n hx hb d_law_law_26 rfl (lv_at hl 0 rfl) ?_
      refine lv_iload_n hx hb d_law_law_27 rfl (lv_at hl 3 rfl) ?_
      refine zz_sld hx hb hX hbl hbA hS (i := i) (by omega) (by omega) d_law_law_28 ?_
      refine lv_bipush (v := nI 31) hx hb d_law_law_29 (by decide +kernel) ?_
      refine lv_iand hx hb d_law_law_31 ?_
      obtain ⟨j, hj, ej⟩ := pk_andE (xs i) (m := nI 31) 5 (by decide +kernel)
      refine zz_top (z := nI j) ej ?_
      rcases (show j = 0 ∨ j = 1 ∨ j = 2 ∨ j = 3 ∨ j = 4 ∨ j = 5 ∨ j = 6 ∨ j = 7 ∨ j = 8 ∨ j = 9 ∨ j = 10 ∨ j = 11 ∨ j = 12 ∨ j = 13 ∨ j = 14 ∨ j = 15 ∨ j = 16 ∨ j = 17 ∨ 18 ≤ j by omega) with rfl | rfl | rfl | rfl | rfl | rfl | rfl | rfl | rfl | rfl | rfl | rfl | rfl | rfl | rfl | rfl | rfl | rfl | hj18
      · refine lv_tableIn (tgt := 120) (off := 88) hx hb d_law_law_32 (by decide +kernel) (by decide +kernel) (by decide +kernel) (by decide) ?_
        exact law_c0 hL C1 hK hi4 fo fw md fp ht fe M len rk nu sl co nt ho he hSim hmd go hP hD hS hl
      · refine lv_tableIn (tgt := 143) (off := 111) hx hb d_law_law_32 (by decide +kernel) (by decide +kernel) (by decide +kernel) (by decide) ?_
        exact law_c1 hL C1 hK hi4 fo fw md fp ht fe M len rk nu sl co nt ho he hSim hmd go hP hD hS hl
      · refine lv_tableIn (tgt := 166) (off := 134) hx hb d_law_law_32 (by decide +kernel) (by decide +kernel) (by decide +kernel) (by decide) ?_
        exact law_c2 hL C1 hK hi4 fo fw md fp ht fe M len rk nu sl co nt ho he hSim hmd go hP hD hS hl
      · refine lv_tableIn (tgt := 199) (off := 167) hx hb d_law_law_32 (by decide +kernel) (by decide +kernel) (by decide +kernel) (by decide) ?_
        exact law_c3 hL C1 hK hi4 fo fw md fp ht fe M len rk nu sl co nt ho he hSim hmd go hP hD hS hl
      · refine lv_tableIn (tgt := 242) (off := 210) hx hb d_law_law_32 (by decide +kernel) (by decide +kernel) (by decide +kernel) (by decide) ?_
        exact law_c4 hL C1 hK hi4 fo fw md fp ht fe M len rk nu sl co nt ho he hSim hmd go hP hD hS hl
      · refine lv_tableIn (tgt := 255) (off := 223) hx hb d_law_law_32 (by decide +kernel) (by decide +kernel) (by decide +kernel) (by decide) ?_
        exact law_c5 hL C1 hK hi4 fo fw md fp ht fe M len rk nu sl co nt ho he hSim hmd go hP hD hS hl
      · refine lv_tableIn (tgt := 268) (off := 236) hx hb d_law_law_32 (by decide +kernel) (by decide +kernel) (by decide +kernel) (by decide) ?_
        exact law_c6 hL C1 hK hi4 fo fw md fp ht fe M len rk nu sl co nt ho he hSim hmd go hP hD hS hl
      · refine lv_tableIn (tgt := 281) (off := 249) hx hb d_law_law_32 (by decide +kernel) (by decide +kernel) (by decide +kernel) (by decide) ?_
        exact law_c7 hL C1 hK hi4 fo fw md fp ht fe M len rk nu sl co nt ho he hSim hmd go hP hD hS hl
      · refine lv_tableIn (tgt := 304) (off := 272) hx hb d_law_law_32 (by decide +kernel) (by decide +kernel) (by decide +kernel) (by decide) ?_
        exact law_c8 hL C1 hK hi4 fo fw md fp ht fe M len rk nu sl co nt ho he hSim hmd go hP hD hS hl
      · refine lv_tableIn (tgt := 317) (off := 285) hx hb d_law_law_32 (by decide +kernel) (by decide +kernel) (by decide +kernel) (by decide) ?_
        exact law_c9 hL C1 hK hi4 fo fw md fp ht fe M len rk nu sl co nt ho he hSim hmd go hP hD hS hl
      · refine lv_tableIn (tgt := 340) (off := 308) hx hb d_law_law_32 (by decide +kernel) (by decide +kernel) (by decide +kernel) (by decide) ?_
        exact law_c10 hL C1 hK hi4 fo fw md fp ht fe M len rk nu sl co nt ho he hSim hmd go hP hD hS hl
      · refine lv_tableIn (tgt := 363) (off := 331) hx hb d_law_law_32 (by decide +kernel) (by decide +kernel) (by decide +kernel) (by decide) ?_
        exact law_c11 hL C1 hK hi4 fo fw md fp ht fe M len rk nu sl co nt ho he hSim hmd go hP hD hS hl
      · refine lv_tableIn (tgt := 396) (off := 364) hx hb d_law_law_32 (by decide +kernel) (by decide +kernel) (by decide +kernel) (by decide) ?_
        exact law_c12 hL C1 hK hi4 fo fw md fp ht fe M len rk nu sl co nt ho he hSim hmd go hP hD hS hl
      · refine lv_tableIn (tgt := 409) (off := 377) hx hb d_law_law_32 (by decide +kernel) (by decide +kernel) (by decide +kernel) (by decide) ?_
        exact law_c13 hL C1 hK hi4 fo fw md fp ht fe M len rk nu sl co nt ho he hSim hmd go hP hD hS hl
      · refine lv_tableIn (tgt := 432) (off := 400) hx hb d_law_law_32 (by decide +kernel) (by decide +kernel) (by decide +kernel) (by decide) ?_
        exact law_c14 hL C1 hK hi4 fo fw md fp ht fe M len rk nu sl co nt ho he hSim hmd go hP hD hS hl
      · refine lv_tableIn (tgt := 445) (off := 413) hx hb d_law_law_32 (by decide +kernel) (by decide +kernel) (by decide +kernel) (by decide) ?_
        exact law_c15 hL C1 hK hi4 fo fw md fp ht fe M len rk nu sl co nt ho he hSim hmd go hP hD hS hl
      · refine lv_tableIn (tgt := 478) (off := 446) hx hb d_law_law_32 (by decide +kernel) (by decide +kernel) (by decide +kernel) (by decide) ?_
        exact law_c16 hL C1 hK hi4 fo fw md fp ht fe M len rk nu sl co nt ho he hSim hmd go hP hD hS hl
      · refine lv_tableIn (tgt := 491) (off := 459) hx hb d_law_law_32 (by decide +kernel) (by decide +kernel) (by decide +kernel) (by decide) ?_
        exact law_c17 hL C1 hK hi4 fo fw md fp ht fe M len rk nu sl co nt ho he hSim hmd go hP hD hS hl
      · refine lv_tableOut (tgt := 504) hx hb d_law_law_32 (Or.inr (by rw [nI_toInt (by omega)]; omega)) (by decide) ?_
        exact go (fo, fw, md, fp, ht, fe, M, len, rk) (nu, sl, co, nt, ho, md, ht, fp, len, fe, he, rk) ⟨hSim, rfl, rfl, rfl, rfl, rfl, rfl⟩ (by show 4 * md ≤ i + 4; omega) _ _ hP hD hS _ hl
