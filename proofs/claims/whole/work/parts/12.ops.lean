section OPS
/-! the calls: answers and states. The class: -/
def lx_lay (fo fw : lc_A) (md : Nat) (fp : lc_A) (ht : Nat) (fe : lc_A) (M : Nat → lc_A) (len : Nat) (rk : Int32) (a n : Nat) : lc_CS := (lc_fill fo a (n + 1) (nI (md + 1)), lc_fill fw a (n + 1) 0, md + 1, upd fp ht (nI (md + 1)), ht + 1, fe, M, len, rk)
def lx_bring (fo fw : lc_A) (md : Nat) (fp : lc_A) (ht : Nat) (fe : lc_A) (M : Nat → lc_A) (len : Nat) (rk : Int32) : lc_CS := ((lc_bu fo fw fp ht fe M len).1, (lc_bu fo fw fp ht fe M len).2.1, md, fp, ht, fe, M, 0, rk + nI 1)
def lc_14 (x : Int32) : Option Nat := if nI 1 ≤ x ∧ x ≤ nI 4 then some x.toNatClampNeg else none
theorem lc_14_spec {x : Int32} {n : Nat} (h : lc_14 x = some n) : 1 ≤ n ∧ n ≤ 4 ∧ x = nI n := by
  unfold lc_14 at h
  by_cases q : nI 1 ≤ x ∧ x ≤ nI 4
  · rw [if_pos q] at h
    cases h
    have h0 : ¬ x < 0 := fun z => absurd (Int32.lt_of_le_of_lt q.1 z) (by decide +kernel)
    obtain ⟨j, hj, e⟩ := nI_of2 (M := nI 4) (n := 4) (by decide +kernel) h0 q.2
    subst e
    rw [nI_clamp (by omega)]
    refine ⟨?_, hj, rfl⟩
    have h1 : nI 1 ≤ nI j := q.1
    exact (nI_leI (by omega) (by omega)).mp h1
  · rw [if_neg q] at h
    cases h
theorem lc_14_no {x : Int32} (h : x < nI 1 ∨ nI 4 < x) : lc_14 x = none := by
  unfold lc_14
  rw [if_neg]
  rintro ⟨q1, q2⟩
  rcases h with z | z
  · exact absurd q1 (Int32.not_le.mpr z)
  · exact absurd q2 (Int32.not_le.mpr z)
theorem lc_14_yes {x : Int32} (h1 : nI 1 ≤ x) (h2 : x ≤ nI 4) : ∃ n, 1 ≤ n ∧ n ≤ 4 ∧ x = nI n ∧ lc_14 x = some n := by
  have h : lc_14 x = some x.toNatClampNeg := by
    unfold lc_14
    rw [if_pos ⟨h1, h2⟩]
  obtain ⟨a, b, c⟩ := lc_14_spec h
  exact ⟨_, a, b, c, h⟩
def lx_make (fo fw : lc_A) (md : Nat) (fp : lc_A) (ht : Nat) (fe : lc_A) (M : Nat → lc_A) (len : Nat) (rk : Int32) (x : Int32) : Int32 × lc_CS := match lc_14 x with
  | none => (-1, fo, fw, md, fp, ht, fe, M, len, rk)
  | some n => if ht = 8 then (-2, fo, fw, md, fp, ht, fe, M, len, rk) else match lc_room fo (n + 1) with
    | some a => (nI (md + 1), lx_lay fo fw md fp ht fe M len rk a n)
    | none => match lc_room (lc_bu fo fw fp ht fe M len).1 (n + 1) with
      | some a => (nI (md + 1), lx_lay (lc_bu fo fw fp ht fe M len).1 (lc_bu fo fw fp ht fe M len).2.1 md fp ht fe M 0 (rk + nI 1) a n)
      | none => (-3, lx_bring fo fw md fp ht fe M len rk)
def lx_push (fp : lc_A) (ht : Nat) (o : Option Int32) : Int32 × lc_A × Nat := match o with
  | none => (-1, fp, ht)
  | some x => if ht = 8 then (-2, fp, ht) else (x, upd fp ht x, ht + 1)
def lx_copy (fp : lc_A) (ht : Nat) (x : Int32) : Int32 × lc_A × Nat := match lc_pl x ht with
  | none => (-1, fp, ht)
  | some j => if ht = 8 then (-2, fp, ht) else (fp j, upd fp ht (fp j), ht + 1)
def lx_load (fo fw fp : lc_A) (ht : Nat) (x z : Int32) : Int32 × lc_A × Nat := match lc_fca fo fp ht x with
  | none => (-1, fp, ht)
  | some a => match lc_pl z (lc_sa fo a) with
    | none => (-1, fp, ht)
    | some j => if ht = 8 then (-2, fp, ht) else (fw (a + 1 + j), upd fp ht (fw (a + 1 + j)), ht + 1)
/-- the log takes the object at a in, if it isn't there -/
def lx_note (fo fw : lc_A) (md : Nat) (fp : lc_A) (ht : Nat) (fe : lc_A) (M : Nat → lc_A) (len : Nat) (rk : Int32) (a : Nat) : lc_CS :=
  if lc_on fe len (fo a) = true then (fo, fw, md, fp, ht, fe, M, len, rk)
  else if len = 5 then ((lc_bu fo fw fp ht fe M len).1, (lc_bu fo fw fp ht fe M len).2.1, md, fp, ht, upd fe 0 (fo a), va_up M 0 (lc_nr (lc_bu fo fw fp ht fe M len).2.1 a (M 0) (lc_sa (lc_bu fo fw fp ht fe M len).1 a)), 1, rk + nI 1)
  else (fo, fw, md, fp, ht, upd fe len (fo a), va_up M len (lc_nr fw a (M len) (lc_sa fo a)), len + 1, rk)
/-- what is stored: nothing, or what a place holds -/
def lc_fr0 (fp : lc_A) (ht : Nat) (x : Int32) : Option Int32 := if x = -1 then some 0 else match lc_pl x ht with
  | none => none
  | some j => some (fp j)
def lx_setw (q : lc_CS) (i : Nat) (x : Int32) : lc_CS := (q.1, upd q.2.1 i x, q.2.2)
def lx_store (fo fw : lc_A) (md : Nat) (fp : lc_A) (ht : Nat) (fe : lc_A) (M : Nat → lc_A) (len : Nat) (rk : Int32) (x z y : Int32) : Bool × lc_CS := match lc_fca fo fp ht x with
  | none => (false, fo, fw, md, fp, ht, fe, M, len, rk)
  | some a => match lc_pl z (lc_sa fo a) with
    | none => (false, fo, fw, md, fp, ht, fe, M, len, rk)
    | some j => match lc_fr0 fp ht y with
      | none => (false, fo, fw, md, fp, ht, fe, M, len, rk)
      | some v => (true, lx_setw (lx_note fo fw md fp ht fe M len rk a) (a + 1 + j) v)
def lx_drop (fp : lc_A) (ht : Nat) : Int32 × Nat := if ht = 0 then (-1, ht) else (fp (ht - 1), ht - 1)
def ax_held (fp : lc_A) (ht : Nat) (x : Int32) : Int32 := match lc_pl x ht with
  | none => -1
  | some j => fp j
def ax_count (fo fw : lc_A) (x : Int32) : Int32 := match lc_first fo x with
  | none => -3
  | some a => fw a
def ax_cell (fo : lc_A) (x : Int32) : Int32 := match lc_first fo x with
  | none => -3
  | some a => nI a
def ax_slot (fo fw : lc_A) (x z : Int32) : Int32 := match lc_first fo x with
  | none => -3
  | some a => match lc_pl z (lc_sa fo a) with
    | none => -1
    | some j => fw (a + 1 + j)
def ax_state (fo fw fe : lc_A) (len : Nat) (x : Int32) : Int32 := match lc_first fo x with
  | none => nI 0
  | some a => nI ((if lc_isU fo fw a = true then 1 else 0) + (if lc_on fe len x = true then 2 else 0))
def ax_entry (fo fe : lc_A) (M : Nat → lc_A) (len : Nat) (x z : Int32) : Int32 := match lc_pl x len with
  | none => -1
  | some k => if z = -1 then fe k else match lc_pl z (lc_sao fo (lc_first fo (fe k))) with
    | none => -1
    | some j => M k j
/-! the reference: -/
def lm_slotc (nu : lc_A) (s : Nat → Nat) (fp : lc_A) (ht : Nat) (x z : Int32) : Option (Nat × Nat) := match lc_pl x ht with
  | none => none
  | some k => if 0 < fp k then (match lm_find nu s (fp k) with
      | none => none
      | some a => match lc_pl z (s a) with
        | none => none
        | some j => some (a, j)) else none
def lc_wt (s : Nat → Nat) (c : Nat) : Nat := if 0 < s c then s c + 1 else 0
/-- the reference's row of an entry -/
def lm_nr (s : Nat → Nat) (ho : lc_A) (a en : Nat) (he : lc_A) (m : Nat) : lc_A := fun i => if 4 * en ≤ i ∧ i < 4 * en + m then (if i - 4 * en < s a then ho (a + 1 + (i - 4 * en)) else 0) else he i
abbrev lc_MS : Type := lc_A × (Nat → Nat) × lc_A × (Nat → Bool) × lc_A × Nat × Nat × lc_A × Nat × lc_A × lc_A × Int32
def lm_settle (nu : lc_A) (s : Nat → Nat) (co : lc_A) (nt : Nat → Bool) (ho : lc_A) (md ht : Nat) (fp : lc_A) (en : Nat) (wh he : lc_A) (rn : Int32) : lc_MS := (nu, (lm_st nu ho fp ht 50 s co nt).1, (lm_st nu ho fp ht 50 s co nt).2.1, (lm_st nu ho fp ht 50 s co nt).2.2, ho, md, ht, fp, 0, wh, he, rn + nI 1)
def lm_lay (g : lc_MS) (a n : Nat) : lc_MS := match g with
  | (nu, s, co, nt, ho, md, ht, fp, en, wh, he, rn) => (upd nu a (nI (md + 1)), va_up s a n, upd co a 0, va_up nt a false, lc_fill ho (a + 1) n 0, md + 1, ht + 1, upd fp ht (nI (md + 1)), en, wh, he, rn)
def lm_make (nu : lc_A) (s : Nat → Nat) (co : lc_A) (nt : Nat → Bool) (ho : lc_A) (md ht : Nat) (fp : lc_A) (en : Nat) (wh he : lc_A) (rn : Int32) (x : Int32) : Int32 × lc_MS := match lc_14 x with
  | none => (-1, nu, s, co, nt, ho, md, ht, fp, en, wh, he, rn)
  | some n => if ht = 8 then (-2, nu, s, co, nt, ho, md, ht, fp, en, wh, he, rn) else match lm_room s (n + 1) with
    | some a => (nI (md + 1), lm_lay (nu, s, co, nt, ho, md, ht, fp, en, wh, he, rn) a n)
    | none => match lm_room (lm_st nu ho fp ht 50 s co nt).1 (n + 1) with
      | some a => (nI (md + 1), lm_lay (lm_settle nu s co nt ho md ht fp en wh he rn) a n)
      | none => (-3, lm_settle nu s co nt ho md ht fp en wh he rn)
def lm_load (nu : lc_A) (s : Nat → Nat) (ho fp : lc_A) (ht : Nat) (x z : Int32) : Int32 × lc_A × Nat := match lm_slotc nu s fp ht x z with
  | none => (-1, fp, ht)
  | some (a, j) => if ht = 8 then (-2, fp, ht) else (ho (a + 1 + j), upd fp ht (ho (a + 1 + j)), ht + 1)
def lm_note (nu : lc_A) (s : Nat → Nat) (co : lc_A) (nt : Nat → Bool) (ho : lc_A) (md ht : Nat) (fp : lc_A) (en : Nat) (wh he : lc_A) (rn : Int32) (a : Nat) : lc_MS :=
  if nt a = true then (nu, s, co, nt, ho, md, ht, fp, en, wh, he, rn)
  else if en = 5 then (nu, (lm_st nu ho fp ht 50 s co nt).1, (lm_st nu ho fp ht 50 s co nt).2.1, va_up (lm_st nu ho fp ht 50 s co nt).2.2 a true, ho, md, ht, fp, 1, upd wh 0 (nu a), lm_nr (lm_st nu ho fp ht 50 s co nt).1 ho a 0 he 4, rn + nI 1)
  else (nu, s, co, va_up nt a true, ho, md, ht, fp, en + 1, upd wh en (nu a), lm_nr s ho a en he 4, rn)
def lm_seth (g : lc_MS) (i : Nat) (x : Int32) : lc_MS := (g.1, g.2.1, g.2.2.1, g.2.2.2.1, upd g.2.2.2.2.1 i x, g.2.2.2.2.2)
def lm_store (nu : lc_A) (s : Nat → Nat) (co : lc_A) (nt : Nat → Bool) (ho : lc_A) (md ht : Nat) (fp : lc_A) (en : Nat) (wh he : lc_A) (rn : Int32) (x z y : Int32) : Bool × lc_MS := match lm_slotc nu s fp ht x z with
  | none => (false, nu, s, co, nt, ho, md, ht, fp, en, wh, he, rn)
  | some (a, j) => match lc_fr0 fp ht y with
    | none => (false, nu, s, co, nt, ho, md, ht, fp, en, wh, he, rn)
    | some v => (true, lm_seth (lm_note nu s co nt ho md ht fp en wh he rn a) (a + 1 + j) v)
def am_count (nu : lc_A) (s : Nat → Nat) (co : lc_A) (x : Int32) : Int32 := match lm_find nu s x with
  | none => -3
  | some a => co a
def am_cell (nu : lc_A) (s : Nat → Nat) (x : Int32) : Int32 := match lm_find nu s x with
  | none => -3
  | some a => nI a
def am_slot (nu : lc_A) (s : Nat → Nat) (ho : lc_A) (x z : Int32) : Int32 := match lm_find nu s x with
  | none => -3
  | some a => match lc_pl z (s a) with
    | none => -1
    | some j => ho (a + 1 + j)
def am_state (nu : lc_A) (s : Nat → Nat) (co : lc_A) (nt : Nat → Bool) (x : Int32) : Int32 := match lm_find nu s x with
  | none => nI 0
  | some a => nI ((if co a = 0 then 1 else 0) + (if nt a = true then 2 else 0))
def am_so (nu : lc_A) (s : Nat → Nat) (x : Int32) : Nat := match lm_find nu s x with
  | none => 0
  | some a => s a
def am_entry (nu : lc_A) (s : Nat → Nat) (wh he : lc_A) (en : Nat) (x z : Int32) : Int32 := match lc_pl x en with
  | none => -1
  | some k => if z = -1 then wh k else match lc_pl z (am_so nu s (wh k)) with
    | none => -1
    | some j => he (4 * k + j)
end OPS
