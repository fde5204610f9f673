section LAWP
variable {s : Nat → Nat} {nu fo fw ho fp fe co he : lc_A} {nt : Nat → Bool} {M : Nat → lc_A} {md ht len : Nat}
theorem sim_hs (h : lc_Sim fo fw md fp ht fe M len nu s co nt ho he) : ∀ i, i < 48 → i + s i < 48 := by
  intro i hi
  by_cases e : 0 < s i
  · exact (h.1.1 i hi e).2.1
  · omega
theorem sim_hc (h : lc_Sim fo fw md fp ht fe M len nu s co nt ho he) : ∀ k, k < len → lc_sao fo (lc_first fo (fe k)) ≤ 4 := by
  intro k hk
  obtain ⟨a, ha, hs, e⟩ := h.2.2.2.2.2.2.1 k hk
  rw [← e, lay_first h.1 ha hs]
  show lc_sa fo a ≤ 4
  rw [lay_sa h.1 ha hs]
  exact lay_4 h.1 ha
theorem sim_so (h : lc_Sim fo fw md fp ht fe M len nu s co nt ho he) : ∀ k, k < len → am_so nu s (fe k) ≤ 4 := by
  intro k hk
  obtain ⟨a, ha, hs, e⟩ := h.2.2.2.2.2.2.1 k hk
  unfold am_so
  rw [← e, lay_fnd h.1 ha hs]
  exact lay_4 h.1 ha
theorem sim_fca (h : lc_Sim fo fw md fp ht fe M len nu s co nt ho he) {x : Int32} {a : Nat} (e : lc_fca fo fp ht x = some a) : a < 48 ∧ 0 < s a ∧ ∃ k, k < ht ∧ fp k = nu a := by
  have hht : ht ≤ 8 := h.2.2.2.2.1.1
  unfold lc_fca at e
  cases e2 : lc_pl x ht with
  | none => rw [e2] at e; cases e
  | some k =>
    rw [e2] at e
    have hk := (lc_pl_spec (by omega) e2).1
    rcases rf_pos h.1 (h.2.2.2.2.1.2 k hk) with ⟨-, -, q3⟩ | ⟨-, a', ha, hs, q4, q5, -⟩
    · simp only [q3] at e; cases e
    · simp only [q5] at e
      cases e
      exact ⟨ha, hs, k, hk, q4.symm⟩
theorem sim_h4 (h : lc_Sim fo fw md fp ht fe M len nu s co nt ho he) (x : Int32) : ∀ a, lc_fca fo fp ht x = some a → lc_sa fo a ≤ 4 := by
  intro a e
  obtain ⟨ha, hs, -⟩ := sim_fca h e
  rw [lay_sa h.1 ha hs]
  exact lay_4 h.1 ha
theorem sim_h4b (h : lc_Sim fo fw md fp ht fe M len nu s co nt ho he) (x : Int32) : ∀ a, lc_fca fo fp ht x = some a → len = 5 → lc_sa (lc_bu fo fw fp ht fe M len).1 a ≤ 4 := by
  intro a e _
  obtain ⟨ha, hs, k, hk, ek⟩ := sim_fca h e
  obtain ⟨h2, hsub, -⟩ := sim_reckon h
  have hsa : 0 < (lm_st nu ho fp ht 50 s co nt).1 a := by
    rcases h2.2.2.2.2.1.2 k hk with q | ⟨c, hc, hsc, q⟩
    · rw [ek] at q; exact absurd q (lay_ne0 h.1 ha hs)
    · have hs1 : 0 < s c := by rcases hsub.1 c with w | w <;> omega
      have := lay_inj h.1 hc ha hs1 hs (q.trans ek)
      subst this
      exact hsc
  rw [lay_sa h2.1 ha hsa]
  exact lay_4 h2.1 ha
theorem sim_rk (h : lc_Sim fo fw md fp ht fe M len nu s co nt ho he) : nI (lc_bu fo fw fp ht fe M len).2.2 = nI (lc_ct (fun u => decide (0 < s u)) 48) - nI (lc_ct (fun u => decide (0 < (lm_st nu ho fp ht 50 s co nt).1 u)) 48) := by
  obtain ⟨-, -, e⟩ := sim_reckon h
  generalize (lc_bu fo fw fp ht fe M len).2.2 = n at e ⊢
  generalize lc_ct (fun u => decide (0 < (lm_st nu ho fp ht 50 s co nt).1 u)) 48 = y at e ⊢
  generalize lc_ct (fun u => decide (0 < s u)) 48 = x at e ⊢
  subst e
  rw [pk_sub (by omega)]
  congr 1
  omega
theorem law_lt {L i : Nat} (hL : L ≤ 2048) (hi : i ≤ 4096) (h : ¬ nI L - nI 4 < nI i) : i + 4 ≤ L := by
  have h1 : (nI L - nI 4).toInt = (L : Int) - (4 : Nat) := pk_sub_toInt (by omega) (by omega)
  have h2 : (nI i).toInt = (i : Int) := nI_toInt (by omega)
  have h3 : ¬ (nI L - nI 4).toInt < (nI i).toInt := fun q => h (Int32.lt_iff_toInt_lt.mpr q)
  rw [h1, h2] at h3
  omega
end LAWP
section LAWW
variable {p : Program} {l : Launch} {e : Env} {R : Room} {s : State} {m : MethodId} {args : Array Value} {below : List Frame} {meth : Method} {c : Code} {H : Heap} {locs : List Loc} {cells slots pc : Nat} {Q : State → Prop} {ls : Array Slot} {rest : List Value} {cc : ByteArray} {A : Nat → Prop} {H0 : Heap}
theorem zz_sld (hx : p.tables.exec = Jvm.exec) (hb : c.code = cc) {b L : Nat} {xs : Nat → Int32} (hX : va_X b L xs s H0) (hbl : b < H0.size) (hbA : ¬ A b) (hS : va_S A H0 H locs) {i : Nat} (hi : i < L) (hL : L < 2 ^ 31) (hdg : decode cc pc = .ok (.iaload, 1))
    (kk : W p l e R s m args below meth c H locs cells slots Q (F0 m (pc + 1) ls (.int (xs i) :: rest))) : W p l e R s m args below meth c H locs cells slots Q (F0 m pc ls (.int (nI i) :: .ref b :: rest)) := by
  refine va_sld hx hb hX hbl hbA hS (vp_in_nI hi hL) hdg ?_
  rw [nI_clamp (by omega)]
  exact kk
theorem zz_arr {t : FieldType} {args : Array Value} (hnot : ∀ C, t ≠ .object C) (h : (Cond.arrayClass t).before args s = true) : ∃ cA : ClassId, ArrOfT s cA t ∧ va_RA s cA t := by
  obtain ⟨cA, k, comp, h1, h2, h3⟩ := Cond.arrayClass_spec h
  refine ⟨cA, fun N z => ⟨fun k h => (by cases h), k, h2, comp, h3⟩, ?_⟩
  cases t <;> first | exact h1 | exact absurd rfl (hnot _)
theorem zz_arrA {t : FieldType} (h : va_AOA t s) : ∃ cA : ClassId, ArrOfT s cA (.array t) ∧ va_RA s cA (.array t) := by
  obtain ⟨comp, c, k, h1, h2, h3, h4, h5⟩ := va_AOA.spec h
  exact ⟨c, fun N z => ⟨fun k h => (by cases h), k, h3, comp, h4⟩, h5⟩
end LAWW
