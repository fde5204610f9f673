section STEP
/-- class and reference, as two tuples -/
def lc_SimT (q : lc_CS) (g : lc_MS) : Prop := match q, g with
  | (fo, fw, md, fp, ht, fe, M, len, rk), (nu, s, co, nt, ho, md', ht', fp', en, wh, he, rn) => lc_Sim fo fw md fp ht fe M len nu s co nt ho he ∧ md' = md ∧ ht' = ht ∧ fp' = fp ∧ en = len ∧ wh = fe ∧ rn = rk
variable {s : Nat → Nat} {nu fo fw ho fp fe co he : lc_A} {nt : Nat → Bool} {M : Nat → lc_A} {md ht len : Nat} {rk : Int32}
theorem step_make (h : lc_Sim fo fw md fp ht fe M len nu s co nt ho he) (hmd : md < 512) (x : Int32) :
    (lx_make fo fw md fp ht fe M len rk x).1 = (lm_make nu s co nt ho md ht fp len fe he rk x).1 ∧ lc_SimT (lx_make fo fw md fp ht fe M len rk x).2 (lm_make nu s co nt ho md ht fp len fe he rk x).2 ∧ (lx_make fo fw md fp ht fe M len rk x).2.2.2.1 ≤ md + 1 := by
  have hht : ht ≤ 8 := h.2.2.2.2.1.1
  cases e : lc_14 x with
  | none =>
    simp only [lx_make, lm_make, e]
    exact ⟨(by trivial), ⟨h, (by trivial), (by trivial), (by trivial), (by trivial), (by trivial), (by trivial)⟩, by omega⟩
  | some n =>
    obtain ⟨n1, n4, -⟩ := lc_14_spec e
    by_cases e8 : ht = 8
    · simp only [lx_make, lm_make, e, if_pos e8]
      exact ⟨(by trivial), ⟨h, (by trivial), (by trivial), (by trivial), (by trivial), (by trivial), (by trivial)⟩, by omega⟩
    · have er := lay_room h.1 (n := n + 1) (by omega)
      cases r1 : lc_room fo (n + 1) with
      | some a =>
        rw [r1] at er
        simp only [lx_make, lm_make, e, if_neg e8, r1, ← er]
        obtain ⟨z1, z2⟩ := lc_room_spec (by omega) r1
        exact ⟨(by trivial), ⟨sim_make h n1 n4 z1 z2 hmd (by omega), (by trivial), (by trivial), (by trivial), (by trivial), (by trivial), (by trivial)⟩, Nat.le_refl _⟩
      | none =>
        rw [r1] at er
        obtain ⟨h2, -, -⟩ := sim_reckon h
        have er2 := lay_room h2.1 (n := n + 1) (by omega)
        cases r2 : lc_room (lc_bu fo fw fp ht fe M len).1 (n + 1) with
        | some a =>
          rw [r2] at er2
          simp only [lx_make, lm_make, e, if_neg e8, r1, r2, ← er, ← er2]
          obtain ⟨z1, z2⟩ := lc_room_spec (by omega) r2
          exact ⟨(by trivial), ⟨sim_make h2 n1 n4 z1 z2 hmd (by omega), (by trivial), (by trivial), (by trivial), (by trivial), (by trivial), (by trivial)⟩, Nat.le_refl _⟩
        | none =>
          rw [r2] at er2
          simp only [lx_make, lm_make, e, if_neg e8, r1, r2, ← er, ← er2]
          exact ⟨(by trivial), ⟨h2, (by trivial), (by trivial), (by trivial), (by trivial), (by trivial), (by trivial)⟩, by show md ≤ md + 1; omega⟩
theorem step_copy (h : lc_Sim fo fw md fp ht fe M len nu s co nt ho he) (x : Int32) : lc_Sim fo fw md (lx_copy fp ht x).2.1 (lx_copy fp ht x).2.2 fe M len nu s co nt ho he := by
  have hht : ht ≤ 8 := h.2.2.2.2.1.1
  cases e : lc_pl x ht with
  | none => simp only [lx_copy, e]; exact h
  | some j =>
    by_cases e8 : ht = 8
    · simp only [lx_copy, e, if_pos e8]; exact h
    · simp only [lx_copy, e, if_neg e8]
      exact sim_push h (h.2.2.2.2.1.2 j (lc_pl_spec (by omega) e).1) (by omega)
theorem rf_pos (h : lc_Lay s nu fo md) {x : Int32} (hx : lc_rf s nu x) : (¬ 0 < x ∧ x = 0 ∧ lc_first fo x = none) ∨ (0 < x ∧ ∃ a, a < 48 ∧ 0 < s a ∧ nu a = x ∧ lc_first fo x = some a ∧ lm_find nu s x = some a) := by
  rcases hx with rfl | ⟨a, ha, hs, rfl⟩
  · exact Or.inl ⟨by decide, rfl, by simp [lc_first]⟩
  · refine Or.inr ⟨?_, a, ha, hs, rfl, lay_first h ha hs, lay_fnd h ha hs⟩
    obtain ⟨n, n1, n2, n3⟩ := h.2.2.2.1 a ha hs
    rw [n3, ← nI_0]
    have := h.2.2.2.2.2
    exact nI_lt (by omega) (by omega)
/-- the slot that is meant: both find the same -/
theorem slotc_eq (h : lc_Sim fo fw md fp ht fe M len nu s co nt ho he) (x z : Int32) :
    (lm_slotc nu s fp ht x z = none ∧ (lc_fca fo fp ht x = none ∨ ∃ a, lc_fca fo fp ht x = some a ∧ lc_pl z (lc_sa fo a) = none)) ∨
    ∃ a j, lm_slotc nu s fp ht x z = some (a, j) ∧ lc_fca fo fp ht x = some a ∧ lc_pl z (lc_sa fo a) = some j ∧ a < 48 ∧ 0 < s a ∧ j < s a ∧ lc_sa fo a = s a ∧ ∃ k, k < ht ∧ fp k = nu a := by
  have hht : ht ≤ 8 := h.2.2.2.2.1.1
  cases e : lc_pl x ht with
  | none => exact Or.inl ⟨by simp only [lm_slotc, e], Or.inl (by simp only [lc_fca, e])⟩
  | some k =>
    have hk := (lc_pl_spec (by omega) e).1
    rcases rf_pos h.1 (h.2.2.2.2.1.2 k hk) with ⟨q1, q2, q3⟩ | ⟨q1, a, ha, hs, q4, q5, q6⟩
    · exact Or.inl ⟨by simp only [lm_slotc, e, if_neg q1], Or.inl (by simp only [lc_fca, e, q3])⟩
    · have esa := lay_sa h.1 ha hs
      cases e2 : lc_pl z (s a) with
      | none => exact Or.inl ⟨by simp only [lm_slotc, e, if_pos q1, q6, e2], Or.inr ⟨a, by simp only [lc_fca, e, q5], by rw [esa]; exact e2⟩⟩
      | some j =>
        have hj := (lc_pl_spec (by have := lay_4 h.1 ha; omega) e2).1
        exact Or.inr ⟨a, j, by simp only [lm_slotc, e, if_pos q1, q6, e2], by simp only [lc_fca, e, q5], by rw [esa]; exact e2, ha, hs, hj, esa, k, hk, q4.symm⟩
theorem step_load (h : lc_Sim fo fw md fp ht fe M len nu s co nt ho he) (x z : Int32) : lx_load fo fw fp ht x z = lm_load nu s ho fp ht x z ∧ lc_Sim fo fw md (lx_load fo fw fp ht x z).2.1 (lx_load fo fw fp ht x z).2.2 fe M len nu s co nt ho he := by
  have hht : ht ≤ 8 := h.2.2.2.2.1.1
  rcases slotc_eq h x z with ⟨q1, q2 | ⟨a, q2, q3⟩⟩ | ⟨a, j, q1, q2, q3, ha, hs, hj, esa, -⟩
  · simp only [lx_load, lm_load, q1, q2]
    exact ⟨(by trivial), h⟩
  · simp only [lx_load, lm_load, q1, q2, q3]
    exact ⟨(by trivial), h⟩
  · have ew := (h.2.1 a ha hs).2 j hj
    by_cases e8 : ht = 8
    · simp only [lx_load, lm_load, q1, q2, q3, if_pos e8]
      exact ⟨(by trivial), h⟩
    · simp only [lx_load, lm_load, q1, q2, q3, if_neg e8, ew]
      exact ⟨(by trivial), sim_push h (h.2.2.2.1 a ha hs j hj) (by omega)⟩
theorem fr0_rf (h : lc_Sim fo fw md fp ht fe M len nu s co nt ho he) {y v : Int32} (e : lc_fr0 fp ht y = some v) : v = 0 ∨ ∃ k, k < ht ∧ fp k = v := by
  have hht : ht ≤ 8 := h.2.2.2.2.1.1
  unfold lc_fr0 at e
  by_cases q : y = -1
  · rw [if_pos q] at e
    cases e
    exact Or.inl rfl
  · rw [if_neg q] at e
    cases e2 : lc_pl y ht with
    | none => rw [e2] at e; cases e
    | some j =>
      rw [e2] at e
      cases e
      exact Or.inr ⟨j, (lc_pl_spec (by omega) e2).1, rfl⟩
theorem step_note (h : lc_Sim fo fw md fp ht fe M len nu s co nt ho he) {a : Nat} (ha : a < 48) (hs : 0 < s a) (hst : ∃ k, k < ht ∧ fp k = nu a) :
    lc_SimT (lx_note fo fw md fp ht fe M len rk a) (lm_note nu s co nt ho md ht fp len fe he rk a) ∧ (lx_note fo fw md fp ht fe M len rk a).1 a = nu a ∧ (lm_note nu s co nt ho md ht fp len fe he rk a).2.1 a = s a ∧ (lm_note nu s co nt ho md ht fp len fe he rk a).1 = nu ∧
      lc_on (lx_note fo fw md fp ht fe M len rk a).2.2.2.2.2.1 (lx_note fo fw md fp ht fe M len rk a).2.2.2.2.2.2.2.1 (nu a) = true ∧ (lx_note fo fw md fp ht fe M len rk a).2.2.2.1 = fp ∧ (lx_note fo fw md fp ht fe M len rk a).2.2.2.2.1 = ht ∧ (lx_note fo fw md fp ht fe M len rk a).2.2.1 = md := by
  have e0 := lay_0 h.1 ha hs
  have ent := h.2.2.2.2.2.2.2.2.1 a ha hs
  have hlen := h.2.2.2.2.2.1
  by_cases e1 : lc_on fe len (nu a) = true
  · rw [e1] at ent
    simp only [lx_note, lm_note, e0, if_pos e1, if_pos ent]
    exact ⟨⟨h, (by trivial), (by trivial), (by trivial), (by trivial), (by trivial), (by trivial)⟩, (by trivial), (by trivial), (by trivial), e1, (by trivial), (by trivial), (by trivial)⟩
  · have e1' : lc_on fe len (nu a) = false := by simpa using e1
    have ent' : ¬ nt a = true := by rw [ent, e1']; decide
    by_cases e5 : len = 5
    · obtain ⟨h2, hsub, -⟩ := sim_reckon h
      have hsa : (lm_st nu ho fp ht 50 s co nt).1 a = s a := by
        obtain ⟨k, hk, ek⟩ := hst
        rcases hsub.1 a with z | z
        · exact z
        · exfalso
          rcases h2.2.2.2.2.1.2 k hk with q | ⟨c, hc, hsc, q⟩
          · rw [ek] at q; exact lay_ne0 h.1 ha hs q
          · have hs1 : 0 < s c := by rcases hsub.1 c with w | w <;> omega
            have := lay_inj h.1 hc ha hs1 hs (q.trans ek)
            subst this
            omega
      have h3 := sim_note h2 (a := a) ha (by omega) (by omega) rfl
      have e0' := lay_0 h2.1 ha (by omega)
      have esa := lay_sa h2.1 ha (by omega)
      simp only [lx_note, lm_note, e0, if_neg e1, if_neg ent', if_pos e5]
      rw [esa]
      exact ⟨⟨h3, (by trivial), (by trivial), (by trivial), (by trivial), (by trivial), (by trivial)⟩, e0', hsa, (by trivial), lc_an_true 1 0 (by omega) (by simp [pk_us]), (by trivial), (by trivial), (by trivial)⟩
    · have h3 := sim_note h (a := a) ha hs (by omega) e1'
      have esa := lay_sa h.1 ha hs
      simp only [lx_note, lm_note, e0, if_neg e1, if_neg ent', if_neg e5]
      rw [esa]
      exact ⟨⟨h3, (by trivial), (by trivial), (by trivial), (by trivial), (by trivial), (by trivial)⟩, (by trivial), (by trivial), (by trivial), lc_an_true (len + 1) len (by omega) (by simp [pk_us]), (by trivial), (by trivial), (by trivial)⟩
theorem step_store (h : lc_Sim fo fw md fp ht fe M len nu s co nt ho he) (x z y : Int32) :
    (lx_store fo fw md fp ht fe M len rk x z y).1 = (lm_store nu s co nt ho md ht fp len fe he rk x z y).1 ∧ lc_SimT (lx_store fo fw md fp ht fe M len rk x z y).2 (lm_store nu s co nt ho md ht fp len fe he rk x z y).2 ∧ (lx_store fo fw md fp ht fe M len rk x z y).2.2.2.1 = md := by
  rcases slotc_eq h x z with ⟨q1, q2 | ⟨a, q2, q3⟩⟩ | ⟨a, j, q1, q2, q3, ha, hs, hj, esa, hst⟩
  · simp only [lx_store, lm_store, q1, q2]
    exact ⟨(by trivial), ⟨h, (by trivial), (by trivial), (by trivial), (by trivial), (by trivial), (by trivial)⟩, (by trivial)⟩
  · simp only [lx_store, lm_store, q1, q2, q3]
    exact ⟨(by trivial), ⟨h, (by trivial), (by trivial), (by trivial), (by trivial), (by trivial), (by trivial)⟩, (by trivial)⟩
  · cases e : lc_fr0 fp ht y with
    | none =>
      simp only [lx_store, lm_store, q1, q2, q3, e]
      exact ⟨(by trivial), ⟨h, (by trivial), (by trivial), (by trivial), (by trivial), (by trivial), (by trivial)⟩, (by trivial)⟩
    | some v =>
      simp only [lx_store, lm_store, q1, q2, q3, e]
      obtain ⟨t1, t2, t3, t4, t5, t6, t7, t8⟩ := step_note (rk := rk) h ha hs hst
      have hv := fr0_rf h e
      generalize lx_note fo fw md fp ht fe M len rk a = q at t1 t2 t5 t6 t7 t8 ⊢
      generalize lm_note nu s co nt ho md ht fp len fe he rk a = g at t1 t3 t4 ⊢
      obtain ⟨fo1, fw1, md1, fp1, ht1, fe1, M1, len1, rk1⟩ := q
      obtain ⟨nu1, s1, co1, nt1, ho1, md2, ht2, fp2, en2, wh2, he2, rn2⟩ := g
      obtain ⟨hS, u1, u2, u3, u4, u5, u6⟩ := t1
      simp only at t2 t3 t4 t5 t6 t7 t8
      subst t4 t6 t7 t8
      refine ⟨(by trivial), ⟨sim_set hS ha (by omega) (by omega) t5 ?_, u1, u2, u3, u4, u5, u6⟩, (by trivial)⟩
      rcases hv with rfl | ⟨k, hk, rfl⟩
      · exact Or.inl rfl
      · exact hS.2.2.2.2.1.2 k hk
theorem step_drop (h : lc_Sim fo fw md fp ht fe M len nu s co nt ho he) : lc_Sim fo fw md fp (lx_drop fp ht).2 fe M len nu s co nt ho he := by
  unfold lx_drop
  by_cases e : ht = 0
  · rw [if_pos e]; exact h
  · rw [if_neg e]
    obtain ⟨k, rfl⟩ : ∃ k, ht = k + 1 := ⟨ht - 1, by omega⟩
    exact sim_pop h
theorem step_alive (h : lc_Sim fo fw md fp ht fe M len nu s co nt ho he) : lc_ct (lc_isF fo) 48 = lc_ct (fun c => decide (0 < s c)) 48 := lc_ct_ext 48 (fun c hc => lay_isF h.1 hc)
theorem step_table (h : lc_Sim fo fw md fp ht fe M len nu s co nt ho he) : lc_ct (lc_isU fo fw) 48 = lc_ct (fun c => decide (0 < s c) && decide (co c = 0)) 48 := by
  refine lc_ct_ext 48 (fun c hc => ?_)
  unfold lc_isU
  rw [lay_isF h.1 hc]
  by_cases hs : 0 < s c
  · rw [h.2.2.1 c hc hs]
  · simp [hs]
theorem step_count (h : lc_Sim fo fw md fp ht fe M len nu s co nt ho he) (x : Int32) : ax_count fo fw x = am_count nu s co x := by
  unfold ax_count am_count
  rw [lay_find h.1]
  cases e : lm_find nu s x with
  | none => rfl
  | some a =>
    obtain ⟨ha, hs, -⟩ := lay_fspec h.1 e
    exact (h.2.2.1 a ha hs).symm
theorem step_cell (h : lc_Sim fo fw md fp ht fe M len nu s co nt ho he) (x : Int32) : ax_cell fo x = am_cell nu s x := by
  unfold ax_cell am_cell
  rw [lay_find h.1]
theorem step_slot (h : lc_Sim fo fw md fp ht fe M len nu s co nt ho he) (x z : Int32) : ax_slot fo fw x z = am_slot nu s ho x z := by
  unfold ax_slot am_slot
  rw [lay_find h.1]
  cases e : lm_find nu s x with
  | none => rfl
  | some a =>
    obtain ⟨ha, hs, -⟩ := lay_fspec h.1 e
    simp only [lay_sa h.1 ha hs]
    cases e2 : lc_pl z (s a) with
    | none => rfl
    | some j => exact (h.2.1 a ha hs).2 j (lc_pl_spec (by have := lay_4 h.1 ha; omega) e2).1
theorem step_state (h : lc_Sim fo fw md fp ht fe M len nu s co nt ho he) (x : Int32) : ax_state fo fw fe len x = am_state nu s co nt x := by
  unfold ax_state am_state
  rw [lay_find h.1]
  cases e : lm_find nu s x with
  | none => rfl
  | some a =>
    obtain ⟨ha, hs, e2⟩ := lay_fspec h.1 e
    have e3 := h.2.2.2.2.2.2.2.2.1 a ha hs
    simp only [lc_isU, lay_isF h.1 ha, hs, decide_true, Bool.true_and, decide_eq_true_eq, h.2.2.1 a ha hs, e3, e2]
theorem step_entry (h : lc_Sim fo fw md fp ht fe M len nu s co nt ho he) (x z : Int32) : ax_entry fo fe M len x z = am_entry nu s fe he len x z := by
  unfold ax_entry am_entry
  have hlen := h.2.2.2.2.2.1
  cases e : lc_pl x len with
  | none => rfl
  | some k =>
    have hk := (lc_pl_spec (by omega) e).1
    obtain ⟨a, ha, hs, ea⟩ := h.2.2.2.2.2.2.1 k hk
    simp only
    by_cases q : z = -1
    · rw [if_pos q, if_pos q]
    · rw [if_neg q, if_neg q]
      have e1 : lc_sao fo (lc_first fo (fe k)) = s a := by
        rw [← ea, lay_first h.1 ha hs]
        exact lay_sa h.1 ha hs
      have e2 : am_so nu s (fe k) = s a := by
        unfold am_so
        rw [← ea, lay_fnd h.1 ha hs]
      rw [e1, e2]
      cases e3 : lc_pl z (s a) with
      | none => rfl
      | some j => exact (h.2.2.2.2.2.2.2.2.2 k a hk ha hs ea j (lc_pl_spec (by have := lay_4 h.1 ha; omega) e3).1).1
theorem step_free (h : lc_Sim fo fw md fp ht fe M len nu s co nt ho he) : nI (lc_ct (fun i => decide (fo i = 0)) 48) = nI 48 - nI (lc_sm (lc_wt s) 48) := by
  have := lay_cells h.1
  rw [pk_sub (by omega)]
  congr 1
  omega
end STEP
