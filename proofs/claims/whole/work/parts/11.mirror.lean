section MIRROR
/-! what the class's methods do, as functions of its arrays: fo owners, fw words, md made, fp places, ht height, fe the log's objects, M what they held, len its length, rk reckoned -/
abbrev lc_A : Type := Nat → Int32
abbrev lc_CS : Type := lc_A × lc_A × Nat × lc_A × Nat × lc_A × (Nat → lc_A) × Nat × Int32
def lc_pl (x : Int32) (n : Nat) : Option Nat := if 0 ≤ x ∧ x < nI n then some x.toNatClampNeg else none
theorem lc_pl_spec {x : Int32} {n j : Nat} (hn : n < 2 ^ 31) (h : lc_pl x n = some j) : j < n ∧ x = nI j := by
  unfold lc_pl at h
  by_cases q : 0 ≤ x ∧ x < nI n
  · rw [if_pos q] at h
    cases h
    rcases pk_ix x hn with z | z | ⟨j, hj, rfl⟩
    · exact absurd q.1 (Int32.not_le.mpr z)
    · exact absurd q.2 (Int32.not_lt.mpr z)
    · rw [nI_clamp (by omega)]
      exact ⟨hj, rfl⟩
  · rw [if_neg q] at h
    cases h
theorem lc_pl_nI {n j : Nat} (hn : n < 2 ^ 31) (hj : j < n) : lc_pl (nI j) n = some j := by
  unfold lc_pl
  rw [if_pos ⟨nI_pos' (by omega), nI_lt hj hn⟩, nI_clamp (by omega)]
theorem lc_pl_no {x : Int32} {n : Nat} (h : x < 0 ∨ nI n ≤ x) : lc_pl x n = none := by
  unfold lc_pl
  rw [if_neg]
  rintro ⟨q1, q2⟩
  rcases h with z | z
  · exact absurd q1 (Int32.not_le.mpr z)
  · exact absurd q2 (Int32.not_lt.mpr z)
def lc_first (fo : lc_A) (x : Int32) : Option Nat := if x = 0 then none else lc_ff (fun i => decide (fo i = x)) 48 0
def lc_sa (fo : lc_A) (a : Nat) : Nat := lc_rn (fun i => decide (fo i = fo a)) (47 - a) (a + 1)
def lc_sao (fo : lc_A) (o : Option Nat) : Nat := match o with
  | none => 0
  | some a => lc_sa fo a
def lc_isF (fo : lc_A) (i : Nat) : Bool := decide (fo i ≠ 0) && (decide (i = 0) || decide (fo (i - 1) ≠ fo i))
def lc_isU (fo fw : lc_A) (i : Nat) : Bool := lc_isF fo i && decide (fw i = 0)
def lc_add (fo fw : lc_A) (x d : Int32) : lc_A := match lc_first fo x with
  | none => fw
  | some f => upd fw f (fw f + d)
def lc_rm (fo : lc_A) (n : Nat) : Nat → Nat → Nat → Option Nat
  | 0, _, _ => none
  | f + 1, i, run => if (if fo i = 0 then run + 1 else 0) = n then some (i + 1 - n) else lc_rm fo n f (i + 1) (if fo i = 0 then run + 1 else 0)
def lc_room (fo : lc_A) (n : Nat) : Option Nat := lc_rm fo n 48 0 0
def lc_fill (f : lc_A) (a n : Nat) (v : Int32) : lc_A := fun i => if a ≤ i ∧ i < a + n then v else f i
def lc_gb (fo fw : lc_A) (a : Nat) : Nat → lc_A
  | 0 => fw
  | j + 1 => lc_add fo (lc_gb fo fw a j) (lc_gb fo fw a j (a + 1 + j)) (-1)
def lc_cc (fo : lc_A) (a : Nat) (B fw : lc_A) : Nat → lc_A
  | 0 => fw
  | j + 1 => lc_add fo (lc_add fo (lc_cc fo a B fw j) (B j) (-1)) (lc_add fo (lc_cc fo a B fw j) (B j) (-1) (a + 1 + j)) 1
def lc_cco (fo : lc_A) (o : Option Nat) (B fw : lc_A) : lc_A := match o with
  | none => fw
  | some a => lc_cc fo a B fw (lc_sa fo a)
def lc_cl (fo fe : lc_A) (M : Nat → lc_A) (fw : lc_A) : Nat → lc_A
  | 0 => fw
  | k + 1 => lc_cco fo (lc_first fo (fe k)) (M k) (lc_cl fo fe M fw k)
def lc_on (fp : lc_A) (ht : Nat) (x : Int32) : Bool := lc_an (fun i => decide (fp i = x)) ht
def lc_un (fo fw fp : lc_A) (ht : Nat) : Option Nat := lc_ff (fun i => lc_isU fo fw i && !lc_on fp ht (fo i)) 48 0
def lc_fr (fp : lc_A) (ht : Nat) : Nat → lc_A → lc_A → lc_A × lc_A × Nat
  | 0, fo, fw => (fo, fw, 0)
  | f + 1, fo, fw => match lc_un fo fw fp ht with
    | none => (fo, fw, 0)
    | some a => ((lc_fr fp ht f (lc_fill fo a (lc_sa fo a + 1) 0) (lc_gb fo fw a (lc_sa fo a))).1, (lc_fr fp ht f (lc_fill fo a (lc_sa fo a + 1) 0) (lc_gb fo fw a (lc_sa fo a))).2.1, (lc_fr fp ht f (lc_fill fo a (lc_sa fo a + 1) 0) (lc_gb fo fw a (lc_sa fo a))).2.2 + 1)
/-- a reckoning: owners, words, how many were given back -/
def lc_bu (fo fw fp : lc_A) (ht : Nat) (fe : lc_A) (M : Nat → lc_A) (len : Nat) : lc_A × lc_A × Nat := lc_fr fp ht 48 fo (lc_cl fo fe M fw len)
/-- the row that an entry holds, with the slots of the object at a -/
def lc_nr (fw : lc_A) (a : Nat) (B : lc_A) (n : Nat) : lc_A := fun j => if j < n then fw (a + 1 + j) else B j
def lc_fca (fo fp : lc_A) (ht : Nat) (p : Int32) : Option Nat := match lc_pl p ht with
  | none => none
  | some j => lc_first fo (fp j)
end MIRROR
section MIRRORM
/-! the reference: nu number, s slots, co counts, nt noted, ho holds -/
def lm_find (nu : lc_A) (s : Nat → Nat) (x : Int32) : Option Nat := lc_lf (fun c => decide (0 < s c) && decide (nu c = x)) 48
def lm_hs (s : Nat → Nat) (ho : lc_A) (x : Int32) : Nat → Nat := lc_sm (fun c => lc_ct (fun k => decide (ho (c + 1 + k) = x)) (s c))
def lm_rc (s : Nat → Nat) (nu ho : lc_A) (c : Nat) : Int32 := if 0 < s c then nI (lm_hs s ho (nu c) 48) else nI 0
def lm_mix (c : Nat) (g f : lc_A) : lc_A := fun i => if i < c then g i else f i
def lm_mixB (c : Nat) (f : Nat → Bool) : Nat → Bool := fun i => if i < c then false else f i
def lm_fr (s : Nat → Nat) (co nu fp : lc_A) (ht : Nat) (c : Nat) : Bool := decide (0 < s c) && decide (co c = 0) && !lc_on fp ht (nu c)
def lm_cut (p : Nat → Bool) (s : Nat → Nat) (c : Nat) : Nat → Nat := fun i => if i < c ∧ p i = true then 0 else s i
def lm_st (nu ho fp : lc_A) (ht : Nat) : Nat → (Nat → Nat) → lc_A → (Nat → Bool) → (Nat → Nat) × lc_A × (Nat → Bool)
  | 0, s, co, nt => (s, co, nt)
  | f + 1, s, co, nt => if lc_ct (lm_fr s (lm_mix 48 (lm_rc s nu ho) co) nu fp ht) 48 = 0 then (lm_cut (lm_fr s (lm_mix 48 (lm_rc s nu ho) co) nu fp ht) s 48, lm_mix 48 (lm_rc s nu ho) co, lm_mixB 48 nt)
    else lm_st nu ho fp ht f (lm_cut (lm_fr s (lm_mix 48 (lm_rc s nu ho) co) nu fp ht) s 48) (lm_mix 48 (lm_rc s nu ho) co) (lm_mixB 48 nt)
def lm_rm (s : Nat → Nat) (n : Nat) : Nat → Nat → Nat → Option Nat
  | 0, _, _ => none
  | f + 1, c, run => if c < 48 then (if 0 < s c then lm_rm s n f (c + s c + 1) 0 else if run + 1 = n then some (c + 1 - n) else lm_rm s n f (c + 1) (run + 1)) else none
def lm_room (s : Nat → Nat) (n : Nat) : Option Nat := lm_rm s n 49 0 0
end MIRRORM
