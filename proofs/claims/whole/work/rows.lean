section
section PURE1
/-! pure words, and what they say: first, last, count, any, sum, run -/
def lc_bI (b : Bool) : Int32 := if b = true then nI 1 else nI 0
def lc_oI (o : Option Nat) : Int32 := match o with
  | none => -1
  | some k => nI k
def lc_ff (p : Nat → Bool) : Nat → Nat → Option Nat
  | 0, _ => none
  | f + 1, i => if p i = true then some i else lc_ff p f (i + 1)
def lc_lf (p : Nat → Bool) : Nat → Option Nat
  | 0 => none
  | n + 1 => if p n = true then some n else lc_lf p n
def lc_ct (p : Nat → Bool) : Nat → Nat
  | 0 => 0
  | n + 1 => lc_ct p n + (if p n = true then 1 else 0)
def lc_an (p : Nat → Bool) : Nat → Bool
  | 0 => false
  | n + 1 => lc_an p n || p n
def lc_sm (f : Nat → Nat) : Nat → Nat
  | 0 => 0
  | n + 1 => lc_sm f n + f n
def lc_rn (p : Nat → Bool) : Nat → Nat → Nat
  | 0, _ => 0
  | f + 1, i => if p i = true then lc_rn p f (i + 1) + 1 else 0
theorem lc_ff_none {p : Nat → Bool} : ∀ (f i : Nat), (∀ k, i ≤ k → k < i + f → p k = false) → lc_ff p f i = none := by
  intro f
  induction f with
  | zero => intro i _; rfl
  | succ f ih =>
    intro i h
    have h0 : p i = false := h i (Nat.le_refl i) (by omega)
    simp only [lc_ff, h0]
    exact ih (i + 1) (fun k h1 h2 => h k (by omega) (by omega))
theorem lc_ff_some {p : Nat → Bool} : ∀ (f i k : Nat), i ≤ k → k < i + f → p k = true → (∀ j, i ≤ j → j < k → p j = false) → lc_ff p f i = some k := by
  intro f
  induction f with
  | zero => intro i k h1 h2; omega
  | succ f ih =>
    intro i k h1 h2 h3 h4
    by_cases e : i = k
    · subst e
      simp only [lc_ff, h3, if_true]
    · have h0 : p i = false := h4 i (Nat.le_refl i) (by omega)
      simp only [lc_ff, h0]
      exact ih (i + 1) k (by omega) (by omega) h3 (fun j a b => h4 j (by omega) b)
theorem lc_ff_spec {p : Nat → Bool} : ∀ (f i k : Nat), lc_ff p f i = some k → i ≤ k ∧ k < i + f ∧ p k = true ∧ ∀ j, i ≤ j → j < k → p j = false := by
  intro f
  induction f with
  | zero => intro i k h; simp [lc_ff] at h
  | succ f ih =>
    intro i k h
    by_cases e : p i = true
    · simp only [lc_ff, e, if_true] at h
      cases h
      exact ⟨Nat.le_refl i, by omega, e, fun j a b => by omega⟩
    · simp only [lc_ff, e] at h
      obtain ⟨h1, h2, h3, h4⟩ := ih (i + 1) k h
      refine ⟨by omega, by omega, h3, fun j a b => ?_⟩
      by_cases ej : j = i
      · subst ej; simpa using e
      · exact h4 j (by omega) b
theorem lc_ff_nspec {p : Nat → Bool} : ∀ (f i : Nat), lc_ff p f i = none → ∀ k, i ≤ k → k < i + f → p k = false := by
  intro f
  induction f with
  | zero => intro i _ k h1 h2; omega
  | succ f ih =>
    intro i h k h1 h2
    by_cases e : p i = true
    · simp only [lc_ff, e, if_true] at h
      cases h
    · simp only [lc_ff, e] at h
      by_cases ek : k = i
      · subst ek; simpa using e
      · exact ih (i + 1) h k (by omega) (by omega)
theorem lc_ff_ext {p q : Nat → Bool} : ∀ (f i : Nat), (∀ k, i ≤ k → k < i + f → p k = q k) → lc_ff p f i = lc_ff q f i := by
  intro f
  induction f with
  | zero => intro i _; rfl
  | succ f ih =>
    intro i h
    simp only [lc_ff, h i (Nat.le_refl i) (by omega), ih (i + 1) (fun k a b => h k (by omega) (by omega))]
theorem lc_lf_none {p : Nat → Bool} : ∀ (n : Nat), (∀ k, k < n → p k = false) → lc_lf p n = none := by
  intro n
  induction n with
  | zero => intro _; rfl
  | succ n ih =>
    intro h
    have h0 : p n = false := h n (by omega)
    simp only [lc_lf, h0]
    exact ih (fun k a => h k (by omega))
theorem lc_lf_some {p : Nat → Bool} : ∀ (n k : Nat), k < n → p k = true → (∀ j, j < n → p j = true → j = k) → lc_lf p n = some k := by
  intro n
  induction n with
  | zero => intro k h; omega
  | succ n ih =>
    intro k h1 h2 h3
    by_cases e : p n = true
    · have := h3 n (by omega) e
      subst this
      simp only [lc_lf, e, if_true]
    · simp only [lc_lf, e]
      refine ih k ?_ h2 (fun j a b => h3 j (by omega) b)
      rcases Nat.lt_or_ge k n with q | q
      · exact q
      · have : k = n := by omega
        subst this
        exact absurd h2 e
theorem lc_ct_ext {p q : Nat → Bool} : ∀ (n : Nat), (∀ k, k < n → p k = q k) → lc_ct p n = lc_ct q n := by
  intro n
  induction n with
  | zero => intro _; rfl
  | succ n ih =>
    intro h
    simp only [lc_ct, h n (by omega), ih (fun k a => h k (by omega))]
theorem lc_ct_le {p : Nat → Bool} : ∀ (n : Nat), lc_ct p n ≤ n := by
  intro n
  induction n with
  | zero => exact Nat.le_refl 0
  | succ n ih =>
    simp only [lc_ct]
    split <;> omega
theorem lc_ct_mono {p q : Nat → Bool} : ∀ (n : Nat), (∀ k, k < n → p k = true → q k = true) → lc_ct p n ≤ lc_ct q n := by
  intro n
  induction n with
  | zero => intro _; exact Nat.le_refl 0
  | succ n ih =>
    intro h
    have h1 := ih (fun k a => h k (by omega))
    have h2 := h n (by omega)
    simp only [lc_ct]
    by_cases e : p n = true
    · simp only [e, h2 e, if_true]; omega
    · by_cases f : q n = true
      · simp only [e, f, if_true, if_false, Bool.false_eq_true]; omega
      · simp only [e, f, if_false, Bool.false_eq_true]; omega
theorem lc_ct_zero {p : Nat → Bool} : ∀ (n : Nat), lc_ct p n = 0 → ∀ k, k < n → p k = false := by
  intro n
  induction n with
  | zero => intro _ k h; omega
  | succ n ih =>
    intro h k hk
    simp only [lc_ct] at h
    have h1 : lc_ct p n = 0 := by omega
    by_cases e : p n = true
    · simp [e] at h
    · by_cases ek : k = n
      · subst ek; simpa using e
      · exact ih h1 k (by omega)
theorem lc_ct_none {p : Nat → Bool} : ∀ (n : Nat), (∀ k, k < n → p k = false) → lc_ct p n = 0 := by
  intro n
  induction n with
  | zero => intro _; rfl
  | succ n ih =>
    intro h
    simp [lc_ct, h n (by omega), ih (fun k a => h k (by omega))]
theorem lc_ct_upd {p q : Nat → Bool} : ∀ (n a : Nat), a < n → (∀ k, k < n → k ≠ a → q k = p k) → lc_ct q n + (if p a = true then 1 else 0) = lc_ct p n + (if q a = true then 1 else 0) := by
  intro n
  induction n with
  | zero => intro a h; omega
  | succ n ih =>
    intro a h1 h2
    simp only [lc_ct]
    by_cases e : a = n
    · subst e
      rw [lc_ct_ext a (fun k hk => h2 k (by omega) (by omega))]
      omega
    · rw [h2 n (by omega) (fun z => e z.symm)]
      have := ih a (by omega) (fun k hk hn => h2 k (by omega) hn)
      omega
theorem lc_sm_ext {f g : Nat → Nat} : ∀ (n : Nat), (∀ k, k < n → f k = g k) → lc_sm f n = lc_sm g n := by
  intro n
  induction n with
  | zero => intro _; rfl
  | succ n ih =>
    intro h
    simp only [lc_sm, h n (by omega), ih (fun k a => h k (by omega))]
theorem lc_sm_mono {f g : Nat → Nat} : ∀ (n : Nat), (∀ k, k < n → f k ≤ g k) → lc_sm f n ≤ lc_sm g n := by
  intro n
  induction n with
  | zero => intro _; exact Nat.le_refl 0
  | succ n ih =>
    intro h
    have h1 := ih (fun k a => h k (by omega))
    have h2 := h n (by omega)
    simp only [lc_sm]
    omega
theorem lc_sm_upd {f g : Nat → Nat} : ∀ (n a : Nat), a < n → (∀ k, k < n → k ≠ a → g k = f k) → lc_sm g n + f a = lc_sm f n + g a := by
  intro n
  induction n with
  | zero => intro a h; omega
  | succ n ih =>
    intro a h1 h2
    simp only [lc_sm]
    by_cases e : a = n
    · subst e
      rw [lc_sm_ext a (fun k hk => h2 k (by omega) (by omega))]
      omega
    · rw [h2 n (by omega) (fun z => e z.symm)]
      have := ih a (by omega) (fun k hk hn => h2 k (by omega) hn)
      omega
theorem lc_sm_zero {f : Nat → Nat} : ∀ (n : Nat), lc_sm f n = 0 → ∀ k, k < n → f k = 0 := by
  intro n
  induction n with
  | zero => intro _ k h; omega
  | succ n ih =>
    intro h k hk
    simp only [lc_sm] at h
    by_cases ek : k = n
    · subst ek; omega
    · exact ih (by omega) k (by omega)
theorem lc_sm_le {f : Nat → Nat} {b : Nat} : ∀ (n : Nat), (∀ k, k < n → f k ≤ b) → lc_sm f n ≤ n * b := by
  intro n
  induction n with
  | zero => intro _; simp [lc_sm]
  | succ n ih =>
    intro h
    have h1 := ih (fun k a => h k (by omega))
    have h2 := h n (by omega)
    simp only [lc_sm, Nat.succ_mul]
    omega
theorem lc_an_true {p : Nat → Bool} : ∀ (n i : Nat), i < n → p i = true → lc_an p n = true := by
  intro n
  induction n with
  | zero => intro i h; omega
  | succ n ih =>
    intro i h1 h2
    simp only [lc_an, Bool.or_eq_true]
    by_cases e : i = n
    · subst e; exact Or.inr h2
    · exact Or.inl (ih i (by omega) h2)
theorem lc_an_false {p : Nat → Bool} : ∀ (n : Nat), (∀ i, i < n → p i = false) → lc_an p n = false := by
  intro n
  induction n with
  | zero => intro _; rfl
  | succ n ih =>
    intro h
    simp [lc_an, h n (by omega), ih (fun k a => h k (by omega))]
theorem lc_an_spec {p : Nat → Bool} : ∀ (n : Nat), lc_an p n = true → ∃ i, i < n ∧ p i = true := by
  intro n
  induction n with
  | zero => intro h; simp [lc_an] at h
  | succ n ih =>
    intro h
    simp only [lc_an, Bool.or_eq_true] at h
    rcases h with h | h
    · obtain ⟨i, h1, h2⟩ := ih h
      exact ⟨i, by omega, h2⟩
    · exact ⟨n, by omega, h⟩
theorem lc_an_nspec {p : Nat → Bool} (n : Nat) (h : lc_an p n = false) : ∀ i, i < n → p i = false := by
  intro i hi
  cases e : p i with
  | false => rfl
  | true => rw [lc_an_true n i hi e] at h; cases h
theorem lc_rn_le {p : Nat → Bool} : ∀ (f i : Nat), lc_rn p f i ≤ f := by
  intro f
  induction f with
  | zero => intro i; exact Nat.le_refl 0
  | succ f ih =>
    intro i
    simp only [lc_rn]
    have := ih (i + 1)
    split <;> omega
theorem lc_rn_eq {p : Nat → Bool} : ∀ (f i j : Nat), j ≤ f → (∀ k, k < j → p (i + k) = true) → (j = f ∨ p (i + j) = false) → lc_rn p f i = j := by
  intro f
  induction f with
  | zero => intro i j h1 _ _; simp only [lc_rn]; omega
  | succ f ih =>
    intro i j h1 h2 h3
    cases j with
    | zero =>
      rcases h3 with h | h
      · omega
      · simp at h
        simp [lc_rn, h]
    | succ j =>
      have h0 : p i = true := by simpa using h2 0 (by omega)
      simp only [lc_rn, h0, if_true]
      rw [ih (i + 1) j (by omega) (fun k hk => by have := h2 (k + 1) (by omega); rwa [show i + (k + 1) = i + 1 + k by omega] at this) (by
        rcases h3 with h | h
        · exact Or.inl (by omega)
        · exact Or.inr (by rwa [show i + (j + 1) = i + 1 + j by omega] at h))]
theorem lc_rn_all {p : Nat → Bool} : ∀ (f i k : Nat), k < lc_rn p f i → p (i + k) = true := by
  intro f
  induction f with
  | zero => intro i k h; simp [lc_rn] at h
  | succ f ih =>
    intro i k h
    by_cases e : p i = true
    · simp only [lc_rn, e, if_true] at h
      cases k with
      | zero => simpa using e
      | succ k =>
        have := ih (i + 1) k (by omega)
        rwa [show i + (k + 1) = i + 1 + k by omega]
    · simp [lc_rn, e] at h
theorem lc_ct_cutp {p q : Nat → Bool} : ∀ (n : Nat), (∀ c, c < n → q c = true → p c = true) → lc_ct p n = lc_ct (fun c => p c && !q c) n + lc_ct q n := by
  intro n
  induction n with
  | zero => intro _; rfl
  | succ n ih =>
    intro h
    have h1 := ih (fun c hc => h c (by omega))
    have h2 := h n (by omega)
    simp only [lc_ct]
    by_cases e1 : q n = true
    · simp only [e1, h2 e1, if_true, Bool.not_true, Bool.and_false, Bool.false_eq_true, if_false]; omega
    · have e2 : q n = false := by simpa using e1
      simp only [e2, Bool.not_false, Bool.and_true, Bool.false_eq_true, if_false]; omega
end PURE1
end
section
section MIRROR
/-! what the class's methods do, as functions of its arrays: fo owners, fw words, md made, fp places, ht height, fe the log's objects, M what they held, len its length, rk reckoned -/
abbrev lc_A : Type := Nat → Int32
abbrev lc_CS : Type := lc_A × lc_A × Nat × lc_A × Nat × lc_A × (Nat → lc_A) × Nat × Int32
def lc_pl (x : Int32) (n : Nat) : Option Nat := if 0 ≤ x ∧ x < nI n then some x.toNatClampNeg else none
theorem lc_pl_spec {x : Int32} {n j : Nat} (hn : n < 2 ^ 31) (h : lc_pl x n = some j) : j < n ∧ x = nI j := by
  unfold lc_pl at h
  by_cases q : 0 ≤ x ∧ x < nI n
  · rw [if_pos q] at h
    cases h
    rcases pk_ix x hn with z | z | ⟨j, hj, rfl⟩
    · exact absurd q.1 (Int32.not_le.mpr z)
    · exact absurd q.2 (Int32.not_lt.mpr z)
    · rw [nI_clamp (by omega)]
      exact ⟨hj, rfl⟩
  · rw [if_neg q] at h
    cases h
theorem lc_pl_nI {n j : Nat} (hn : n < 2 ^ 31) (hj : j < n) : lc_pl (nI j) n = some j := by
  unfold lc_pl
  rw [if_pos ⟨nI_pos' (by omega), nI_lt hj hn⟩, nI_clamp (by omega)]
theorem lc_pl_no {x : Int32} {n : Nat} (h : x < 0 ∨ nI n ≤ x) : lc_pl x n = none := by
  unfold lc_pl
  rw [if_neg]
  rintro ⟨q1, q2⟩
  rcases h with z | z
  · exact absurd q1 (Int32.not_le.mpr z)
  · exact absurd q2 (Int32.not_lt.mpr z)
def lc_first (fo : lc_A) (x : Int32) : Option Nat := if x = 0 then none else lc_ff (fun i => decide (fo i = x)) 48 0
def lc_sa (fo : lc_A) (a : Nat) : Nat := lc_rn (fun i => decide (fo i = fo a)) (47 - a) (a + 1)
def lc_sao (fo : lc_A) (o : Option Nat) : Nat := match o with
  | none => 0
  | some a => lc_sa fo a
def lc_isF (fo : lc_A) (i : Nat) : Bool := decide (fo i ≠ 0) && (decide (i = 0) || decide (fo (i - 1) ≠ fo i))
def lc_isU (fo fw : lc_A) (i : Nat) : Bool := lc_isF fo i && decide (fw i = 0)
def lc_add (fo fw : lc_A) (x d : Int32) : lc_A := match lc_first fo x with
  | none => fw
  | some f => upd fw f (fw f + d)
def lc_rm (fo : lc_A) (n : Nat) : Nat → Nat → Nat → Option Nat
  | 0, _, _ => none
  | f + 1, i, run => if (if fo i = 0 then run + 1 else 0) = n then some (i + 1 - n) else lc_rm fo n f (i + 1) (if fo i = 0 then run + 1 else 0)
def lc_room (fo : lc_A) (n : Nat) : Option Nat := lc_rm fo n 48 0 0
def lc_fill (f : lc_A) (a n : Nat) (v : Int32) : lc_A := fun i => if a ≤ i ∧ i < a + n then v else f i
def lc_gb (fo fw : lc_A) (a : Nat) : Nat → lc_A
  | 0 => fw
  | j + 1 => lc_add fo (lc_gb fo fw a j) (lc_gb fo fw a j (a + 1 + j)) (-1)
def lc_cc (fo : lc_A) (a : Nat) (B fw : lc_A) : Nat → lc_A
  | 0 => fw
  | j + 1 => lc_add fo (lc_add fo (lc_cc fo a B fw j) (B j) (-1)) (lc_add fo (lc_cc fo a B fw j) (B j) (-1) (a + 1 + j)) 1
def lc_cco (fo : lc_A) (o : Option Nat) (B fw : lc_A) : lc_A := match o with
  | none => fw
  | some a => lc_cc fo a B fw (lc_sa fo a)
def lc_cl (fo fe : lc_A) (M : Nat → lc_A) (fw : lc_A) : Nat → lc_A
  | 0 => fw
  | k + 1 => lc_cco fo (lc_first fo (fe k)) (M k) (lc_cl fo fe M fw k)
def lc_on (fp : lc_A) (ht : Nat) (x : Int32) : Bool := lc_an (fun i => decide (fp i = x)) ht
def lc_un (fo fw fp : lc_A) (ht : Nat) : Option Nat := lc_ff (fun i => lc_isU fo fw i && !lc_on fp ht (fo i)) 48 0
def lc_fr (fp : lc_A) (ht : Nat) : Nat → lc_A → lc_A → lc_A × lc_A × Nat
  | 0, fo, fw => (fo, fw, 0)
  | f + 1, fo, fw => match lc_un fo fw fp ht with
    | none => (fo, fw, 0)
    | some a => ((lc_fr fp ht f (lc_fill fo a (lc_sa fo a + 1) 0) (lc_gb fo fw a (lc_sa fo a))).1, (lc_fr fp ht f (lc_fill fo a (lc_sa fo a + 1) 0) (lc_gb fo fw a (lc_sa fo a))).2.1, (lc_fr fp ht f (lc_fill fo a (lc_sa fo a + 1) 0) (lc_gb fo fw a (lc_sa fo a))).2.2 + 1)
/-- a reckoning: owners, words, how many were given back -/
def lc_bu (fo fw fp : lc_A) (ht : Nat) (fe : lc_A) (M : Nat → lc_A) (len : Nat) : lc_A × lc_A × Nat := lc_fr fp ht 48 fo (lc_cl fo fe M fw len)
/-- the row that an entry holds, with the slots of the object at a -/
def lc_nr (fw : lc_A) (a : Nat) (B : lc_A) (n : Nat) : lc_A := fun j => if j < n then fw (a + 1 + j) else B j
def lc_fca (fo fp : lc_A) (ht : Nat) (p : Int32) : Option Nat := match lc_pl p ht with
  | none => none
  | some j => lc_first fo (fp j)
end MIRROR
section MIRRORM
/-! the reference: nu number, s slots, co counts, nt noted, ho holds -/
def lm_find (nu : lc_A) (s : Nat → Nat) (x : Int32) : Option Nat := lc_lf (fun c => decide (0 < s c) && decide (nu c = x)) 48
def lm_hs (s : Nat → Nat) (ho : lc_A) (x : Int32) : Nat → Nat := lc_sm (fun c => lc_ct (fun k => decide (ho (c + 1 + k) = x)) (s c))
def lm_rc (s : Nat → Nat) (nu ho : lc_A) (c : Nat) : Int32 := if 0 < s c then nI (lm_hs s ho (nu c) 48) else nI 0
def lm_mix (c : Nat) (g f : lc_A) : lc_A := fun i => if i < c then g i else f i
def lm_mixB (c : Nat) (f : Nat → Bool) : Nat → Bool := fun i => if i < c then false else f i
def lm_fr (s : Nat → Nat) (co nu fp : lc_A) (ht : Nat) (c : Nat) : Bool := decide (0 < s c) && decide (co c = 0) && !lc_on fp ht (nu c)
def lm_cut (p : Nat → Bool) (s : Nat → Nat) (c : Nat) : Nat → Nat := fun i => if i < c ∧ p i = true then 0 else s i
def lm_st (nu ho fp : lc_A) (ht : Nat) : Nat → (Nat → Nat) → lc_A → (Nat → Bool) → (Nat → Nat) × lc_A × (Nat → Bool)
  | 0, s, co, nt => (s, co, nt)
  | f + 1, s, co, nt => if lc_ct (lm_fr s (lm_mix 48 (lm_rc s nu ho) co) nu fp ht) 48 = 0 then (lm_cut (lm_fr s (lm_mix 48 (lm_rc s nu ho) co) nu fp ht) s 48, lm_mix 48 (lm_rc s nu ho) co, lm_mixB 48 nt)
    else lm_st nu ho fp ht f (lm_cut (lm_fr s (lm_mix 48 (lm_rc s nu ho) co) nu fp ht) s 48) (lm_mix 48 (lm_rc s nu ho) co) (lm_mixB 48 nt)
def lm_rm (s : Nat → Nat) (n : Nat) : Nat → Nat → Nat → Option Nat
  | 0, _, _ => none
  | f + 1, c, run => if c < 48 then (if 0 < s c then lm_rm s n f (c + s c + 1) 0 else if run + 1 = n then some (c + 1 - n) else lm_rm s n f (c + 1) (run + 1)) else none
def lm_room (s : Nat → Nat) (n : Nat) : Option Nat := lm_rm s n 49 0 0
end MIRRORM
end
section
section OPS
/-! the calls: answers and states. The class: -/
def lx_lay (fo fw : lc_A) (md : Nat) (fp : lc_A) (ht : Nat) (fe : lc_A) (M : Nat → lc_A) (len : Nat) (rk : Int32) (a n : Nat) : lc_CS := (lc_fill fo a (n + 1) (nI (md + 1)), lc_fill fw a (n + 1) 0, md + 1, upd fp ht (nI (md + 1)), ht + 1, fe, M, len, rk)
def lx_bring (fo fw : lc_A) (md : Nat) (fp : lc_A) (ht : Nat) (fe : lc_A) (M : Nat → lc_A) (len : Nat) (rk : Int32) : lc_CS := ((lc_bu fo fw fp ht fe M len).1, (lc_bu fo fw fp ht fe M len).2.1, md, fp, ht, fe, M, 0, rk + nI 1)
def lc_14 (x : Int32) : Option Nat := if nI 1 ≤ x ∧ x ≤ nI 4 then some x.toNatClampNeg else none
theorem lc_14_spec {x : Int32} {n : Nat} (h : lc_14 x = some n) : 1 ≤ n ∧ n ≤ 4 ∧ x = nI n := by
  unfold lc_14 at h
  by_cases q : nI 1 ≤ x ∧ x ≤ nI 4
  · rw [if_pos q] at h
    cases h
    have h0 : ¬ x < 0 := fun z => absurd (Int32.lt_of_le_of_lt q.1 z) (by decide +kernel)
    obtain ⟨j, hj, e⟩ := nI_of2 (M := nI 4) (n := 4) (by decide +kernel) h0 q.2
    subst e
    rw [nI_clamp (by omega)]
    refine ⟨?_, hj, rfl⟩
    have h1 : nI 1 ≤ nI j := q.1
    exact (nI_leI (by omega) (by omega)).mp h1
  · rw [if_neg q] at h
    cases h
theorem lc_14_no {x : Int32} (h : x < nI 1 ∨ nI 4 < x) : lc_14 x = none := by
  unfold lc_14
  rw [if_neg]
  rintro ⟨q1, q2⟩
  rcases h with z | z
  · exact absurd q1 (Int32.not_le.mpr z)
  · exact absurd q2 (Int32.not_le.mpr z)
theorem lc_14_yes {x : Int32} (h1 : nI 1 ≤ x) (h2 : x ≤ nI 4) : ∃ n, 1 ≤ n ∧ n ≤ 4 ∧ x = nI n ∧ lc_14 x = some n := by
  have h : lc_14 x = some x.toNatClampNeg := by
    unfold lc_14
    rw [if_pos ⟨h1, h2⟩]
  obtain ⟨a, b, c⟩ := lc_14_spec h
  exact ⟨_, a, b, c, h⟩
def lx_make (fo fw : lc_A) (md : Nat) (fp : lc_A) (ht : Nat) (fe : lc_A) (M : Nat → lc_A) (len : Nat) (rk : Int32) (x : Int32) : Int32 × lc_CS := match lc_14 x with
  | none => (-1, fo, fw, md, fp, ht, fe, M, len, rk)
  | some n => if ht = 8 then (-2, fo, fw, md, fp, ht, fe, M, len, rk) else match lc_room fo (n + 1) with
    | some a => (nI (md + 1), lx_lay fo fw md fp ht fe M len rk a n)
    | none => match lc_room (lc_bu fo fw fp ht fe M len).1 (n + 1) with
      | some a => (nI (md + 1), lx_lay (lc_bu fo fw fp ht fe M len).1 (lc_bu fo fw fp ht fe M len).2.1 md fp ht fe M 0 (rk + nI 1) a n)
      | none => (-3, lx_bring fo fw md fp ht fe M len rk)
def lx_push (fp : lc_A) (ht : Nat) (o : Option Int32) : Int32 × lc_A × Nat := match o with
  | none => (-1, fp, ht)
  | some x => if ht = 8 then (-2, fp, ht) else (x, upd fp ht x, ht + 1)
def lx_copy (fp : lc_A) (ht : Nat) (x : Int32) : Int32 × lc_A × Nat := match lc_pl x ht with
  | none => (-1, fp, ht)
  | some j => if ht = 8 then (-2, fp, ht) else (fp j, upd fp ht (fp j), ht + 1)
def lx_load (fo fw fp : lc_A) (ht : Nat) (x z : Int32) : Int32 × lc_A × Nat := match lc_fca fo fp ht x with
  | none => (-1, fp, ht)
  | some a => match lc_pl z (lc_sa fo a) with
    | none => (-1, fp, ht)
    | some j => if ht = 8 then (-2, fp, ht) else (fw (a + 1 + j), upd fp ht (fw (a + 1 + j)), ht + 1)
/-- the log takes the object at a in, if it isn't there -/
def lx_note (fo fw : lc_A) (md : Nat) (fp : lc_A) (ht : Nat) (fe : lc_A) (M : Nat → lc_A) (len : Nat) (rk : Int32) (a : Nat) : lc_CS :=
  if lc_on fe len (fo a) = true then (fo, fw, md, fp, ht, fe, M, len, rk)
  else if len = 5 then ((lc_bu fo fw fp ht fe M len).1, (lc_bu fo fw fp ht fe M len).2.1, md, fp, ht, upd fe 0 (fo a), va_up M 0 (lc_nr (lc_bu fo fw fp ht fe M len).2.1 a (M 0) (lc_sa (lc_bu fo fw fp ht fe M len).1 a)), 1, rk + nI 1)
  else (fo, fw, md, fp, ht, upd fe len (fo a), va_up M len (lc_nr fw a (M len) (lc_sa fo a)), len + 1, rk)
/-- what is stored: nothing, or what a place holds -/
def lc_fr0 (fp : lc_A) (ht : Nat) (x : Int32) : Option Int32 := if x = -1 then some 0 else match lc_pl x ht with
  | none => none
  | some j => some (fp j)
def lx_setw (q : lc_CS) (i : Nat) (x : Int32) : lc_CS := (q.1, upd q.2.1 i x, q.2.2)
def lx_store (fo fw : lc_A) (md : Nat) (fp : lc_A) (ht : Nat) (fe : lc_A) (M : Nat → lc_A) (len : Nat) (rk : Int32) (x z y : Int32) : Bool × lc_CS := match lc_fca fo fp ht x with
  | none => (false, fo, fw, md, fp, ht, fe, M, len, rk)
  | some a => match lc_pl z (lc_sa fo a) with
    | none => (false, fo, fw, md, fp, ht, fe, M, len, rk)
    | some j => match lc_fr0 fp ht y with
      | none => (false, fo, fw, md, fp, ht, fe, M, len, rk)
      | some v => (true, lx_setw (lx_note fo fw md fp ht fe M len rk a) (a + 1 + j) v)
def lx_drop (fp : lc_A) (ht : Nat) : Int32 × Nat := if ht = 0 then (-1, ht) else (fp (ht - 1), ht - 1)
def ax_held (fp : lc_A) (ht : Nat) (x : Int32) : Int32 := match lc_pl x ht with
  | none => -1
  | some j => fp j
def ax_count (fo fw : lc_A) (x : Int32) : Int32 := match lc_first fo x with
  | none => -3
  | some a => fw a
def ax_cell (fo : lc_A) (x : Int32) : Int32 := match lc_first fo x with
  | none => -3
  | some a => nI a
def ax_slot (fo fw : lc_A) (x z : Int32) : Int32 := match lc_first fo x with
  | none => -3
  | some a => match lc_pl z (lc_sa fo a) with
    | none => -1
    | some j => fw (a + 1 + j)
def ax_state (fo fw fe : lc_A) (len : Nat) (x : Int32) : Int32 := match lc_first fo x with
  | none => nI 0
  | some a => nI ((if lc_isU fo fw a = true then 1 else 0) + (if lc_on fe len x = true then 2 else 0))
def ax_entry (fo fe : lc_A) (M : Nat → lc_A) (len : Nat) (x z : Int32) : Int32 := match lc_pl x len with
  | none => -1
  | some k => if z = -1 then fe k else match lc_pl z (lc_sao fo (lc_first fo (fe k))) with
    | none => -1
    | some j => M k j
/-! the reference: -/
def lm_slotc (nu : lc_A) (s : Nat → Nat) (fp : lc_A) (ht : Nat) (x z : Int32) : Option (Nat × Nat) := match lc_pl x ht with
  | none => none
  | some k => if 0 < fp k then (match lm_find nu s (fp k) with
      | none => none
      | some a => match lc_pl z (s a) with
        | none => none
        | some j => some (a, j)) else none
def lc_wt (s : Nat → Nat) (c : Nat) : Nat := if 0 < s c then s c + 1 else 0
/-- the reference's row of an entry -/
def lm_nr (s : Nat → Nat) (ho : lc_A) (a en : Nat) (he : lc_A) (m : Nat) : lc_A := fun i => if 4 * en ≤ i ∧ i < 4 * en + m then (if i - 4 * en < s a then ho (a + 1 + (i - 4 * en)) else 0) else he i
abbrev lc_MS : Type := lc_A × (Nat → Nat) × lc_A × (Nat → Bool) × lc_A × Nat × Nat × lc_A × Nat × lc_A × lc_A × Int32
def lm_settle (nu : lc_A) (s : Nat → Nat) (co : lc_A) (nt : Nat → Bool) (ho : lc_A) (md ht : Nat) (fp : lc_A) (en : Nat) (wh he : lc_A) (rn : Int32) : lc_MS := (nu, (lm_st nu ho fp ht 50 s co nt).1, (lm_st nu ho fp ht 50 s co nt).2.1, (lm_st nu ho fp ht 50 s co nt).2.2, ho, md, ht, fp, 0, wh, he, rn + nI 1)
def lm_lay (g : lc_MS) (a n : Nat) : lc_MS := match g with
  | (nu, s, co, nt, ho, md, ht, fp, en, wh, he, rn) => (upd nu a (nI (md + 1)), va_up s a n, upd co a 0, va_up nt a false, lc_fill ho (a + 1) n 0, md + 1, ht + 1, upd fp ht (nI (md + 1)), en, wh, he, rn)
def lm_make (nu : lc_A) (s : Nat → Nat) (co : lc_A) (nt : Nat → Bool) (ho : lc_A) (md ht : Nat) (fp : lc_A) (en : Nat) (wh he : lc_A) (rn : Int32) (x : Int32) : Int32 × lc_MS := match lc_14 x with
  | none => (-1, nu, s, co, nt, ho, md, ht, fp, en, wh, he, rn)
  | some n => if ht = 8 then (-2, nu, s, co, nt, ho, md, ht, fp, en, wh, he, rn) else match lm_room s (n + 1) with
    | some a => (nI (md + 1), lm_lay (nu, s, co, nt, ho, md, ht, fp, en, wh, he, rn) a n)
    | none => match lm_room (lm_st nu ho fp ht 50 s co nt).1 (n + 1) with
      | some a => (nI (md + 1), lm_lay (lm_settle nu s co nt ho md ht fp en wh he rn) a n)
      | none => (-3, lm_settle nu s co nt ho md ht fp en wh he rn)
def lm_load (nu : lc_A) (s : Nat → Nat) (ho fp : lc_A) (ht : Nat) (x z : Int32) : Int32 × lc_A × Nat := match lm_slotc nu s fp ht x z with
  | none => (-1, fp, ht)
  | some (a, j) => if ht = 8 then (-2, fp, ht) else (ho (a + 1 + j), upd fp ht (ho (a + 1 + j)), ht + 1)
def lm_note (nu : lc_A) (s : Nat → Nat) (co : lc_A) (nt : Nat → Bool) (ho : lc_A) (md ht : Nat) (fp : lc_A) (en : Nat) (wh he : lc_A) (rn : Int32) (a : Nat) : lc_MS :=
  if nt a = true then (nu, s, co, nt, ho, md, ht, fp, en, wh, he, rn)
  else if en = 5 then (nu, (lm_st nu ho fp ht 50 s co nt).1, (lm_st nu ho fp ht 50 s co nt).2.1, va_up (lm_st nu ho fp ht 50 s co nt).2.2 a true, ho, md, ht, fp, 1, upd wh 0 (nu a), lm_nr (lm_st nu ho fp ht 50 s co nt).1 ho a 0 he 4, rn + nI 1)
  else (nu, s, co, va_up nt a true, ho, md, ht, fp, en + 1, upd wh en (nu a), lm_nr s ho a en he 4, rn)
def lm_seth (g : lc_MS) (i : Nat) (x : Int32) : lc_MS := (g.1, g.2.1, g.2.2.1, g.2.2.2.1, upd g.2.2.2.2.1 i x, g.2.2.2.2.2)
def lm_store (nu : lc_A) (s : Nat → Nat) (co : lc_A) (nt : Nat → Bool) (ho : lc_A) (md ht : Nat) (fp : lc_A) (en : Nat) (wh he : lc_A) (rn : Int32) (x z y : Int32) : Bool × lc_MS := match lm_slotc nu s fp ht x z with
  | none => (false, nu, s, co, nt, ho, md, ht, fp, en, wh, he, rn)
  | some (a, j) => match lc_fr0 fp ht y with
    | none => (false, nu, s, co, nt, ho, md, ht, fp, en, wh, he, rn)
    | some v => (true, lm_seth (lm_note nu s co nt ho md ht fp en wh he rn a) (a + 1 + j) v)
def am_count (nu : lc_A) (s : Nat → Nat) (co : lc_A) (x : Int32) : Int32 := match lm_find nu s x with
  | none => -3
  | some a => co a
def am_cell (nu : lc_A) (s : Nat → Nat) (x : Int32) : Int32 := match lm_find nu s x with
  | none => -3
  | some a => nI a
def am_slot (nu : lc_A) (s : Nat → Nat) (ho : lc_A) (x z : Int32) : Int32 := match lm_find nu s x with
  | none => -3
  | some a => match lc_pl z (s a) with
    | none => -1
    | some j => ho (a + 1 + j)
def am_state (nu : lc_A) (s : Nat → Nat) (co : lc_A) (nt : Nat → Bool) (x : Int32) : Int32 := match lm_find nu s x with
  | none => nI 0
  | some a => nI ((if co a = 0 then 1 else 0) + (if nt a = true then 2 else 0))
def am_so (nu : lc_A) (s : Nat → Nat) (x : Int32) : Nat := match lm_find nu s x with
  | none => 0
  | some a => s a
def am_entry (nu : lc_A) (s : Nat → Nat) (wh he : lc_A) (en : Nat) (x z : Int32) : Int32 := match lc_pl x en with
  | none => -1
  | some k => if z = -1 then wh k else match lc_pl z (am_so nu s (wh k)) with
    | none => -1
    | some j => he (4 * k + j)
end OPS
end
section
section HELP
variable {fo fw fp : lc_A} {x : Int32} {i k n a j run : Nat}
theorem lc_s48 (h : i < 48) : 48 - i = (48 - (i + 1)) + 1 := by omega
theorem lc_rm_s1 (hi : i < 48) (h0 : fo i = 0) (hne : run + 1 ≠ k) : lc_rm fo k (48 - (i + 1)) (i + 1) (run + 1) = lc_rm fo k (48 - i) i run := by
  rw [lc_s48 hi]
  simp only [lc_rm, if_pos h0, if_neg hne]
theorem lc_rm_s0 (hi : i < 48) (h0 : ¬ fo i = 0) (hk : 0 < k) : lc_rm fo k (48 - (i + 1)) (i + 1) 0 = lc_rm fo k (48 - i) i run := by
  rw [lc_s48 hi]
  simp only [lc_rm, if_neg h0]
  rw [if_neg (by omega)]
theorem lc_rm_ret (hi : i < 48) (h0 : fo i = 0) (hk : run + 1 = k) (hr : run ≤ i) (he : lc_rm fo k (48 - i) i run = lc_room fo k) : nI i - nI k + nI 1 = lc_oI (lc_room fo k) := by
  rw [← he, lc_s48 hi]
  simp only [lc_rm, if_pos h0, if_pos hk, lc_oI]
  have h1 : nI (i + 1 - k) + nI k = nI i + nI 1 := by
    rw [nI_add, nI_add]
    congr 1
    omega
  have h2 : nI (i + 1 - k) = nI i + nI 1 - nI k := by
    rw [← h1, Int32.add_sub_cancel]
  rw [h2, Int32.sub_eq_add_neg, Int32.sub_eq_add_neg, Int32.add_assoc, Int32.add_assoc, Int32.add_comm (-nI k)]
theorem lc_rm_end (hi : 48 ≤ i) (he : lc_rm fo k (48 - i) i run = lc_room fo k) : (-1 : Int32) = lc_oI (lc_room fo k) := by
  rw [← he, show 48 - i = 0 by omega]
  rfl
theorem lc_lt1 {P : Nat → Prop} (h : ∀ j, j < i → P j) (hi : P i) : ∀ j, j < i + 1 → P j := by
  intro j hj
  by_cases e : j = i
  · subst e; exact hi
  · exact h j (by omega)
theorem lc_first_0 (h : x = 0) : (-1 : Int32) = lc_oI (lc_first fo x) := by
  simp only [lc_first, if_pos h, lc_oI]
theorem lc_first_i (hi : i < 48) (h0 : ¬ x = 0) (he : fo i = x) (hn : ∀ j, j < i → fo j ≠ x) : nI i = lc_oI (lc_first fo x) := by
  simp only [lc_first, if_neg h0]
  rw [lc_ff_some 48 0 i (Nat.zero_le _) (by omega) (by simp [he]) (fun j _ hj => by simpa using hn j hj)]
  rfl
theorem lc_first_n (hi : 48 ≤ i) (h0 : ¬ x = 0) (hn : ∀ j, j < i → fo j ≠ x) : (-1 : Int32) = lc_oI (lc_first fo x) := by
  simp only [lc_first, if_neg h0]
  rw [lc_ff_none 48 0 (fun j _ hj => by simpa using hn j (by omega))]
  rfl
theorem lc_first_lt (h : lc_first fo x = some k) : k < 48 ∧ x ≠ 0 ∧ fo k = x := by
  unfold lc_first at h
  by_cases e : x = 0
  · rw [if_pos e] at h; cases h
  · rw [if_neg e] at h
    obtain ⟨-, h2, h3, -⟩ := lc_ff_spec 48 0 k h
    simp only [decide_eq_true_eq] at h3
    exact ⟨by omega, e, h3⟩
theorem lc_sa_le (fo : lc_A) (a : Nat) : lc_sa fo a ≤ 47 - a := lc_rn_le _ _
theorem lc_sa_end (ha : a < 48) (hj : a + 1 + j ≤ 48) (hn : ∀ k, k < j → fo (a + 1 + k) = fo a) (h : 48 ≤ a + 1 + j ∨ ¬ fo (a + 1 + j) = fo a) : nI j = nI (lc_sa fo a) := by
  congr 1
  refine (lc_rn_eq (47 - a) (a + 1) j (by omega) (fun k hk => by simpa using hn k hk) ?_).symm
  rcases h with h | h
  · exact Or.inl (by omega)
  · exact Or.inr (by simpa using h)
theorem lc_fill_s (f : lc_A) (a j : Nat) (v : Int32) : upd (lc_fill f a j v) (a + j) v = lc_fill f a (j + 1) v := by
  funext q
  by_cases e : q = a + j
  · subst e
    rw [pk_us]
    unfold lc_fill
    rw [if_pos (by omega)]
  · rw [pk_un e]
    unfold lc_fill
    by_cases h : a ≤ q ∧ q < a + j
    · rw [if_pos h, if_pos (by omega)]
    · rw [if_neg h, if_neg (by omega)]
theorem lc_fill_0 (f : lc_A) (a : Nat) (v : Int32) : lc_fill f a 0 v = f := by
  funext q
  unfold lc_fill
  rw [if_neg (by omega)]
theorem lc_has1 (h1 : ¬ x < 0) (h2 : ¬ nI n ≤ x) : nI 1 = lc_bI (lc_pl x n).isSome := by
  unfold lc_pl
  rw [if_pos ⟨Int32.not_lt.mp h1, Int32.not_le.mp h2⟩]
  rfl
theorem lc_has0 (h1 : x < 0) : nI 0 = lc_bI (lc_pl x n).isSome := by
  rw [lc_pl_no (Or.inl h1)]
  rfl
theorem lc_has2 (h1 : nI n ≤ x) : nI 0 = lc_bI (lc_pl x n).isSome := by
  rw [lc_pl_no (Or.inr h1)]
  rfl
theorem lc_on_t {ht : Nat} (hj : j < ht) (e : fp j = x) : nI 1 = lc_bI (lc_on fp ht x) := by
  unfold lc_on
  rw [lc_an_true ht j hj (by simp [e])]
  rfl
theorem lc_on_f {ht : Nat} (hi : ht ≤ i) (hn : ∀ j, j < i → fp j ≠ x) : nI 0 = lc_bI (lc_on fp ht x) := by
  unfold lc_on
  rw [lc_an_false ht (fun j hj => by simpa using hn j (by omega))]
  rfl
theorem zz_narB (b : Bool) : narrow .boolean (.int (lc_bI b)) = .int (lc_bI b) := by
  cases b <;> decide +kernel
theorem lc_un_i {ht : Nat} (hi : i < 48) (h : (lc_isU fo fw i && !lc_on fp ht (fo i)) = true) (hn : ∀ j, j < i → (lc_isU fo fw j && !lc_on fp ht (fo j)) = false) : nI i = lc_oI (lc_un fo fw fp ht) := by
  unfold lc_un
  rw [lc_ff_some 48 0 i (Nat.zero_le _) (by omega) h (fun j _ hj => hn j hj)]
  rfl
theorem lc_un_n {ht : Nat} (hi : 48 ≤ i) (hn : ∀ j, j < i → (lc_isU fo fw j && !lc_on fp ht (fo j)) = false) : (-1 : Int32) = lc_oI (lc_un fo fw fp ht) := by
  unfold lc_un
  rw [lc_ff_none 48 0 (fun j _ hj => hn j (by omega))]
  rfl
theorem lc_un_lt {ht : Nat} (h : lc_un fo fw fp ht = some k) : k < 48 := by
  obtain ⟨-, h2, -, -⟩ := lc_ff_spec 48 0 k h
  omega
theorem lc_fr_s {ht : Nat} {R : lc_A × lc_A × Nat} (hk : k < 48) (h : lc_un fo fw fp ht = some a) (hE : (lc_fr fp ht (48 - k) fo fw).1 = R.1 ∧ (lc_fr fp ht (48 - k) fo fw).2.1 = R.2.1 ∧ k + (lc_fr fp ht (48 - k) fo fw).2.2 = R.2.2) :
    (lc_fr fp ht (48 - (k + 1)) (lc_fill fo a (lc_sa fo a + 1) 0) (lc_gb fo fw a (lc_sa fo a))).1 = R.1 ∧ (lc_fr fp ht (48 - (k + 1)) (lc_fill fo a (lc_sa fo a + 1) 0) (lc_gb fo fw a (lc_sa fo a))).2.1 = R.2.1 ∧ k + 1 + (lc_fr fp ht (48 - (k + 1)) (lc_fill fo a (lc_sa fo a + 1) 0) (lc_gb fo fw a (lc_sa fo a))).2.2 = R.2.2 := by
  rw [lc_s48 hk] at hE
  simp only [lc_fr, h] at hE
  obtain ⟨h1, h2, h3⟩ := hE
  exact ⟨h1, h2, by omega⟩
theorem lc_fr_0 {ht f : Nat} (h : lc_un fo fw fp ht = none) : lc_fr fp ht f fo fw = (fo, fw, 0) := by
  cases f with
  | zero => rfl
  | succ f => simp only [lc_fr, h]
theorem lc_fr_n {ht : Nat} {R : lc_A × lc_A × Nat} (h : lc_un fo fw fp ht = none) (hE : (lc_fr fp ht (48 - k) fo fw).1 = R.1 ∧ (lc_fr fp ht (48 - k) fo fw).2.1 = R.2.1 ∧ k + (lc_fr fp ht (48 - k) fo fw).2.2 = R.2.2) : R = (fo, fw, k) := by
  rw [lc_fr_0 h] at hE
  obtain ⟨h1, h2, h3⟩ := hE
  obtain ⟨r1, r2, r3⟩ := R
  simp only at h1 h2 h3
  rw [h1, h2, ← h3]
  rfl
theorem lc_fr_e {ht : Nat} {R : lc_A × lc_A × Nat} (h : 48 ≤ k) (hE : (lc_fr fp ht (48 - k) fo fw).1 = R.1 ∧ (lc_fr fp ht (48 - k) fo fw).2.1 = R.2.1 ∧ k + (lc_fr fp ht (48 - k) fo fw).2.2 = R.2.2) : R = (fo, fw, k) := by
  rw [show 48 - k = 0 by omega] at hE
  obtain ⟨h1, h2, h3⟩ := hE
  obtain ⟨r1, r2, r3⟩ := R
  simp only [lc_fr] at h1 h2 h3
  rw [h1, h2, ← h3]
  rfl
theorem lc_nr_0 (M : Nat → lc_A) (q : Nat) (fw : lc_A) (a : Nat) : va_up M q (lc_nr fw a (M q) 0) = M := by
  funext i
  by_cases e : i = q
  · subst e
    rw [va_up_self]
    funext j
    simp [lc_nr]
  · rw [va_up_ne M _ e]
theorem lc_nr_s (M : Nat → lc_A) (q : Nat) (fw : lc_A) (a j : Nat) : va_up (va_up M q (lc_nr fw a (M q) j)) q (upd (va_up M q (lc_nr fw a (M q) j) q) j (fw (a + 1 + j))) = va_up M q (lc_nr fw a (M q) (j + 1)) := by
  funext i
  by_cases e : i = q
  · subst e
    rw [va_up_self, va_up_self, va_up_self]
    funext k
    by_cases ek : k = j
    · subst ek
      rw [pk_us]
      simp [lc_nr]
    · rw [pk_un ek]
      unfold lc_nr
      by_cases h : k < j
      · rw [if_pos h, if_pos (by omega)]
      · rw [if_neg h, if_neg (by omega)]
  · rw [va_up_ne _ _ e, va_up_ne M _ e, va_up_ne M _ e]
theorem lc_fca_lt {ht : Nat} (h : lc_fca fo fp ht x = some a) : a < 48 := by
  unfold lc_fca at h
  cases e : lc_pl x ht with
  | none => rw [e] at h; cases h
  | some j => rw [e] at h; exact (lc_first_lt h).1
theorem zz_n1 : nI 1 = (1 : Int32) := by decide +kernel
theorem lc_pl_0 (x : Int32) : lc_pl x 0 = none := by
  cases e : lc_pl x 0 with
  | none => rfl
  | some j => have := (lc_pl_spec (by omega) e).1; omega
end HELP
end
section
section HELPM
variable {nu co ho fp he wh : lc_A} {sl : Nat → Nat} {nt : Nat → Bool} {x z v lo hi : Int32} {i k n a j run fu ht en : Nat}
theorem lc_w1 (h1 : ¬ v < lo) (h2 : ¬ hi < v) : nI 1 = lc_bI (decide (lo ≤ v) && decide (v ≤ hi)) := by
  have e1 := Int32.not_lt.mp h1
  have e2 := Int32.not_lt.mp h2
  simp [lc_bI, e1, e2]
theorem lc_w0 (h1 : v < lo) : nI 0 = lc_bI (decide (lo ≤ v) && decide (v ≤ hi)) := by
  have e1 := Int32.not_le.mpr h1
  simp [lc_bI, e1]
theorem lc_w2 (h1 : hi < v) : nI 0 = lc_bI (decide (lo ≤ v) && decide (v ≤ hi)) := by
  have e1 := Int32.not_le.mpr h1
  simp [lc_bI, e1]
theorem lc_within_pl (hn : n < 2 ^ 31) : lc_bI (decide (nI 0 ≤ x) && decide (x ≤ nI n - nI 1)) = lc_bI (lc_pl x n).isSome := by
  congr 1
  rcases pk_ix x hn with q | q | ⟨j, hj, rfl⟩
  · rw [lc_pl_no (Or.inl q)]
    have : ¬ nI 0 ≤ x := by rw [nI_0]; exact Int32.not_le.mpr q
    simp [this]
  · rw [lc_pl_no (Or.inr q)]
    have : ¬ (nI 0 ≤ x ∧ x ≤ nI n - nI 1) := by
      rintro ⟨r1, r2⟩
      cases n with
      | zero => exact absurd (Int32.le_trans r1 r2) (by decide +kernel)
      | succ n =>
        rw [pk_sub (by omega)] at r2
        exact absurd (Int32.le_trans q r2) (nI_ge (by omega) hn)
    simp only [Option.isSome_none]
    cases e : (decide (nI 0 ≤ x) && decide (x ≤ nI n - nI 1)) with
    | false => rfl
    | true =>
      simp only [Bool.and_eq_true, decide_eq_true_eq] at e
      exact absurd e this
  · rw [lc_pl_nI hn hj]
    cases n with
    | zero => omega
    | succ n =>
      rw [pk_sub (by omega)]
      have h1 : nI 0 ≤ nI j := nI_le (by omega) (by omega)
      have h2 : nI j ≤ nI (n + 1 - 1) := nI_le (by omega) (by omega)
      rw [show n + 1 - 1 = n by omega] at h2 ⊢
      simp [h1, h2]
theorem lc_14_w (h : (decide (nI 1 ≤ x) && decide (x ≤ nI 4)) = true) : ∃ n, 1 ≤ n ∧ n ≤ 4 ∧ x = nI n ∧ lc_14 x = some n := by
  simp only [Bool.and_eq_true, decide_eq_true_eq] at h
  exact lc_14_yes h.1 h.2
theorem lc_14_wn (h : (decide (nI 1 ≤ x) && decide (x ≤ nI 4)) = false) : lc_14 x = none := by
  unfold lc_14
  rw [if_neg]
  rintro ⟨h1, h2⟩
  simp [h1, h2] at h
theorem lm_mix_0 (g f : lc_A) : lm_mix 0 g f = f := by
  funext q
  simp [lm_mix]
theorem lm_mixB_0 (f : Nat → Bool) : lm_mixB 0 f = f := by
  funext q
  simp [lm_mixB]
theorem lm_mix_s {g f : lc_A} (h : v = g i) : upd (lm_mix i g f) i v = lm_mix (i + 1) g f := by
  funext q
  unfold lm_mix
  by_cases e : q = i
  · subst e
    rw [pk_us, if_pos (by omega), h]
  · rw [pk_un e]
    by_cases h2 : q < i
    · rw [if_pos h2, if_pos (by omega)]
    · rw [if_neg h2, if_neg (by omega)]
theorem lm_mixB_s (i : Nat) (f : Nat → Bool) : upd (fun k => lc_bI (lm_mixB i f k)) i (nI 0) = fun k => lc_bI (lm_mixB (i + 1) f k) := by
  funext q
  by_cases e : q = i
  · subst e
    rw [pk_us]
    simp [lm_mixB, lc_bI]
  · rw [pk_un e]
    unfold lm_mixB
    by_cases h2 : q < i
    · rw [if_pos h2, if_pos (by omega)]
    · rw [if_neg h2, if_neg (by omega)]
theorem lm_cut_0 (p : Nat → Bool) (s : Nat → Nat) : lm_cut p s 0 = s := by
  funext q
  simp [lm_cut]
theorem lm_cut_i (p : Nat → Bool) (s : Nat → Nat) (i : Nat) : lm_cut p s i i = s i := by
  simp [lm_cut]
theorem lm_cut_n {p : Nat → Bool} {s : Nat → Nat} (h : p i = false) : lm_cut p s i = lm_cut p s (i + 1) := by
  funext q
  unfold lm_cut
  by_cases e : q = i
  · subst e
    simp [h]
  · by_cases h2 : q < i
    · simp [h2, show q < i + 1 by omega]
    · simp [h2, show ¬ q < i + 1 by omega]
theorem lm_cut_s {p : Nat → Bool} {s : Nat → Nat} (h : p i = true) : upd (fun k => nI (lm_cut p s i k)) i (nI 0) = fun k => nI (lm_cut p s (i + 1) k) := by
  funext q
  by_cases e : q = i
  · subst e
    rw [pk_us]
    simp [lm_cut, h]
  · rw [pk_un e]
    unfold lm_cut
    by_cases h2 : q < i
    · simp [h2, show q < i + 1 by omega]
    · simp [h2, show ¬ q < i + 1 by omega]
theorem lm_cut_le (p : Nat → Bool) (s : Nat → Nat) (n i : Nat) : lm_cut p s n i ≤ s i := by
  unfold lm_cut
  split <;> omega
theorem lm_cut_48 {p : Nat → Bool} {s : Nat → Nat} (h : ∀ i, i < 48 → i + s i < 48) : ∀ i, i < 48 → i + lm_cut p s 48 i < 48 := by
  intro i hi
  have := lm_cut_le p s 48 i
  have := h i hi
  omega
def lm_lp (nu ho fp : lc_A) (ht f k : Nat) (s : Nat → Nat) (co : lc_A) (nt : Nat → Bool) : (Nat → Nat) × lc_A × (Nat → Bool) := if k = 0 then (s, co, nt) else lm_st nu ho fp ht f s co nt
theorem lm_lp_0 {T : (Nat → Nat) × lc_A × (Nat → Bool)} (hk : k = 0) (h : lm_lp nu ho fp ht n k sl co nt = T) : T = (sl, co, nt) := by
  unfold lm_lp at h
  rw [if_pos hk] at h
  exact h.symm
theorem lm_lp_s {T : (Nat → Nat) × lc_A × (Nat → Bool)} (hk : 0 < k) (h : lm_lp nu ho fp ht (fu + 1) k sl co nt = T) :
    lm_lp nu ho fp ht fu (lc_ct (lm_fr sl (lm_mix 48 (lm_rc sl nu ho) co) nu fp ht) 48) (lm_cut (lm_fr sl (lm_mix 48 (lm_rc sl nu ho) co) nu fp ht) sl 48) (lm_mix 48 (lm_rc sl nu ho) co) (lm_mixB 48 nt) = T := by
  unfold lm_lp at h
  rw [if_neg (by omega)] at h
  unfold lm_lp
  simp only [lm_st] at h
  exact h
theorem lm_fr_ct (s : Nat → Nat) (c1 : lc_A) : lc_ct (fun c => decide (0 < s c)) 48 = lc_ct (fun c => decide (0 < lm_cut (lm_fr s c1 nu fp ht) s 48 c)) 48 + lc_ct (lm_fr s c1 nu fp ht) 48 := by
  rw [lc_ct_cutp (q := lm_fr s c1 nu fp ht) 48 (fun c hc q => by simp only [lm_fr, Bool.and_eq_true] at q; exact q.1.1)]
  congr 1
  refine lc_ct_ext 48 (fun c hc => ?_)
  unfold lm_cut
  cases e3 : lm_fr s c1 nu fp ht c with
  | true => simp [hc]
  | false => simp
theorem lm_lp_m {c1 : lc_A} (hk : 0 < k) (hf : (if k = 0 then 0 else lc_ct (fun c => decide (0 < sl c)) 48 + 1) < fu + 1) :
    (if lc_ct (lm_fr sl c1 nu fp ht) 48 = 0 then 0 else lc_ct (fun c => decide (0 < lm_cut (lm_fr sl c1 nu fp ht) sl 48 c)) 48 + 1) < fu := by
  rw [if_neg (by omega)] at hf
  have := lm_fr_ct (nu := nu) (fp := fp) (ht := ht) sl c1
  split <;> omega
theorem lm_lp_m0 : (if 1 = 0 then 0 else lc_ct (fun c => decide (0 < sl c)) 48 + 1) < 50 := by
  have := lc_ct_le (p := fun c => decide (0 < sl c)) 48
  rw [if_neg (by omega)]
  omega
theorem lm_st_48 (nu ho fp : lc_A) (ht : Nat) : ∀ (f : Nat) (s : Nat → Nat) (co : lc_A) (nt : Nat → Bool), (∀ i, i < 48 → i + s i < 48) → ∀ i, i < 48 → i + (lm_st nu ho fp ht f s co nt).1 i < 48 := by
  intro f
  induction f with
  | zero => intro s co nt h; exact h
  | succ f ih =>
    intro s co nt h
    simp only [lm_st]
    split
    · exact lm_cut_48 h
    · exact ih _ _ _ (lm_cut_48 h)
theorem lm_rm_s1 (hi : i < 48) (h0 : sl i = 0) (hne : run + 1 ≠ k) : lm_rm sl k fu (i + 1) (run + 1) = lm_rm sl k (fu + 1) i run := by
  simp only [lm_rm, if_pos hi, h0, Nat.lt_irrefl, if_false, if_neg hne]
theorem lm_rm_s0 (hi : i < 48) (h0 : 0 < sl i) : lm_rm sl k fu (i + sl i + 1) 0 = lm_rm sl k (fu + 1) i run := by
  simp only [lm_rm, if_pos hi, if_pos h0]
theorem lm_rm_ret (hi : i < 48) (h0 : sl i = 0) (hk : run + 1 = k) (hr : run ≤ i) (he : lm_rm sl k (fu + 1) i run = lm_room sl k) : nI (i + 1 - k) = lc_oI (lm_room sl k) := by
  rw [← he]
  simp only [lm_rm, if_pos hi, h0, Nat.lt_irrefl, if_false, if_pos hk]
  rfl
theorem lm_rm_end (hi : 48 ≤ i) (he : lm_rm sl k (fu + 1) i run = lm_room sl k) : (-1 : Int32) = lc_oI (lm_room sl k) := by
  rw [← he]
  simp only [lm_rm]
  rw [if_neg (by omega)]
  rfl
theorem lm_rm_lt (hk : 0 < k) (hs : ∀ i, i < 48 → i + sl i < 48) : ∀ (f i run a : Nat), i ≤ 48 → run ≤ i → run < k → lm_rm sl k f i run = some a → a + k ≤ 48 := by
  intro f
  induction f with
  | zero => intro i run a _ _ _ h; simp [lm_rm] at h
  | succ f ih =>
    intro i run a hi hr hrk h
    simp only [lm_rm] at h
    by_cases e : i < 48
    · rw [if_pos e] at h
      have := hs i e
      by_cases e2 : 0 < sl i
      · rw [if_pos e2] at h
        exact ih _ _ a (by omega) (by omega) hk h
      · rw [if_neg e2] at h
        by_cases e3 : run + 1 = k
        · rw [if_pos e3] at h
          cases h
          omega
        · rw [if_neg e3] at h
          exact ih _ _ a (by omega) (by omega) (by omega) h
    · rw [if_neg e] at h
      cases h
theorem lm_room_lt (hk : 0 < k) (hs : ∀ i, i < 48 → i + sl i < 48) (h : lm_room sl k = some a) : a + k ≤ 48 := lm_rm_lt hk hs 49 0 0 a (by omega) (by omega) hk h
theorem lm_find_lt (h : lm_find nu sl x = some a) : a < 48 ∧ 0 < sl a := by
  have key : ∀ n, lc_lf (fun c => decide (0 < sl c) && decide (nu c = x)) n = some a → a < n ∧ 0 < sl a := by
    intro n
    induction n with
    | zero => intro h; simp [lc_lf] at h
    | succ n ih =>
      intro h
      simp only [lc_lf] at h
      split at h
      · cases h
        rename_i h2
        simp only [Bool.and_eq_true, decide_eq_true_eq] at h2
        exact ⟨by omega, h2.1⟩
      · have := ih h
        exact ⟨by omega, this.2⟩
  exact key 48 h
theorem lm_slotc_spec (hs : ∀ i, i < 48 → i + sl i < 48) (hht : ht ≤ 8) (h : lm_slotc nu sl fp ht x z = some (a, j)) : a < 48 ∧ 0 < sl a ∧ j < sl a ∧ z = nI j := by
  unfold lm_slotc at h
  cases e : lc_pl x ht with
  | none => rw [e] at h; cases h
  | some k =>
    rw [e] at h
    simp only at h
    split at h
    · cases e2 : lm_find nu sl (fp k) with
      | none => rw [e2] at h; cases h
      | some a' =>
        rw [e2] at h
        simp only at h
        obtain ⟨h1, h2⟩ := lm_find_lt e2
        have h3 := hs a' h1
        cases e3 : lc_pl z (sl a') with
        | none => rw [e3] at h; cases h
        | some j' =>
          rw [e3] at h
          cases h
          obtain ⟨h4, h5⟩ := lc_pl_spec (by omega) e3
          exact ⟨h1, h2, h4, h5⟩
    · cases h
theorem lm_so_lt (hs : ∀ i, i < 48 → i + sl i < 48) (x : Int32) : am_so nu sl x < 48 := by
  unfold am_so
  cases e : lm_find nu sl x with
  | none => simp
  | some a =>
    have := hs a (lm_find_lt e).1
    simp only
    omega
theorem lm_nr_0 (s : Nat → Nat) (ho : lc_A) (a en : Nat) (he : lc_A) : lm_nr s ho a en he 0 = he := by
  funext q
  unfold lm_nr
  rw [if_neg (by omega)]
theorem lm_nr_s {s : Nat → Nat} (h : v = if j < s a then ho (a + 1 + j) else 0) : upd (lm_nr s ho a en he j) (4 * en + j) v = lm_nr s ho a en he (j + 1) := by
  funext q
  by_cases e : q = 4 * en + j
  · subst e
    rw [pk_us, h]
    unfold lm_nr
    have c1 : 4 * en ≤ 4 * en + j ∧ 4 * en + j < 4 * en + (j + 1) := by omega
    rw [if_pos c1, show 4 * en + j - 4 * en = j by omega]
  · rw [pk_un e]
    unfold lm_nr
    by_cases h2 : 4 * en ≤ q ∧ q < 4 * en + j
    · have c1 : 4 * en ≤ q ∧ q < 4 * en + (j + 1) := by omega
      rw [if_pos h2, if_pos c1]
    · have c1 : ¬ (4 * en ≤ q ∧ q < 4 * en + (j + 1)) := by omega
      rw [if_neg h2, if_neg c1]
theorem lm_fr_0 : nI 48 = nI 48 - nI (lc_sm (lc_wt sl) 0) := by
  show nI 48 = nI 48 - nI 0
  decide +kernel
theorem lm_fr_1 (h : sl i = 0) : nI 48 - nI (lc_sm (lc_wt sl) i) = nI 48 - nI (lc_sm (lc_wt sl) (i + 1)) := by
  simp [lc_sm, lc_wt, h]
theorem lm_fr_2 (h : 0 < sl i) : nI 48 - nI (lc_sm (lc_wt sl) i) - nI (sl i) - nI 1 = nI 48 - nI (lc_sm (lc_wt sl) (i + 1)) := by
  simp only [lc_sm, lc_wt, if_pos h]
  rw [← nI_add, ← nI_add]
  rw [Int32.sub_sub, Int32.sub_sub]
end HELPM
section HELPW
variable {p : Program} {l : Launch} {e : Env} {R : Room} {s : State} {m : MethodId} {args : Array Value} {below : List Frame} {meth : Method} {c : Code} {H : Heap} {locs : List Loc} {cells slots pc : Nat} {Q : State → Prop} {ls : Array Slot} {rest : List Value}
theorem zz_sc {o : Option (Nat × Nat)} (kn : o = none → W p l e R s m args below meth c H locs cells slots Q (F0 m pc ls (.int (-1) :: rest))) (ks : ∀ a j, o = some (a, j) → W p l e R s m args below meth c H locs cells slots Q (F0 m pc ls (.int (nI (a + 1 + j)) :: rest))) : W p l e R s m args below meth c H locs cells slots Q (F0 m pc ls (.int (lc_oI (o.map (fun q => q.1 + 1 + q.2))) :: rest)) := by
  cases o with
  | none => exact kn rfl
  | some q => exact ks q.1 q.2 rfl
theorem zz_c1 {α : Type} {a a' : α} {l l' : List α} (h : a = a') (k : l = l') : a :: l = a' :: l' := by rw [h, k]
theorem zz_hlc {ls : Array Slot} {n : Nat} {l l' : List (Nat × Value)} (h : lv_has ls n l) (e : l = l') : lv_has ls n l' := e ▸ h
end HELPW
end
section
section LAY
variable {s : Nat → Nat} {nu fo fw ho fp : lc_A} {md ht : Nat}
/-! the layout: an object stands at its first cell c, 0 < s c its slots; nu its number; fo the cells' owners -/
def lc_al (s : Nat → Nat) (nu : lc_A) (x : Int32) : Prop := ∃ c, c < 48 ∧ 0 < s c ∧ nu c = x
def lc_rf (s : Nat → Nat) (nu : lc_A) (x : Int32) : Prop := x = 0 ∨ lc_al s nu x
def lc_Lay (s : Nat → Nat) (nu fo : lc_A) (md : Nat) : Prop :=
  (∀ c, c < 48 → 0 < s c → s c ≤ 4 ∧ c + s c < 48 ∧ ∀ k, k < s c → s (c + 1 + k) = 0) ∧
  (∀ c, c < 48 → 0 < s c → ∀ k, k ≤ s c → fo (c + k) = nu c) ∧
  (∀ i, i < 48 → fo i ≠ 0 → ∃ c, c ≤ i ∧ 0 < s c ∧ i ≤ c + s c) ∧
  (∀ c, c < 48 → 0 < s c → ∃ n, 1 ≤ n ∧ n ≤ md ∧ nu c = nI n) ∧
  (∀ c d, c < 48 → d < 48 → 0 < s c → 0 < s d → nu c = nu d → c = d) ∧ md ≤ 512
theorem lay_ne0 (h : lc_Lay s nu fo md) {c : Nat} (hc : c < 48) (hs : 0 < s c) : nu c ≠ 0 := by
  obtain ⟨-, -, -, h4, -, hm⟩ := h
  obtain ⟨n, h1, h2, h3⟩ := h4 c hc hs
  rw [h3]
  exact nI_ne0 (by omega) (by omega)
theorem lay_0 (h : lc_Lay s nu fo md) {c : Nat} (hc : c < 48) (hs : 0 < s c) : fo c = nu c := by
  have := h.2.1 c hc hs 0 (Nat.zero_le _)
  simpa using this
theorem lay_inj (h : lc_Lay s nu fo md) {c d : Nat} (hc : c < 48) (hd : d < 48) (hs : 0 < s c) (hsd : 0 < s d) (e : nu c = nu d) : c = d := h.2.2.2.2.1 c d hc hd hs hsd e
theorem lay_own (h : lc_Lay s nu fo md) {i : Nat} (hi : i < 48) (h0 : fo i ≠ 0) : ∃ c, c ≤ i ∧ c < 48 ∧ 0 < s c ∧ i ≤ c + s c ∧ fo i = nu c := by
  obtain ⟨-, h2, h3, -, -⟩ := h
  obtain ⟨c, a, b, d⟩ := h3 i hi h0
  refine ⟨c, a, by omega, b, d, ?_⟩
  have := h2 c (by omega) b (i - c) (by omega)
  rwa [show c + (i - c) = i by omega] at this
theorem lay_first (h : lc_Lay s nu fo md) {c : Nat} (hc : c < 48) (hs : 0 < s c) : lc_first fo (nu c) = some c := by
  have hne := lay_ne0 h hc hs
  unfold lc_first
  rw [if_neg hne]
  refine lc_ff_some 48 0 c (Nat.zero_le _) (by omega) ?_ ?_
  · simp only [decide_eq_true_eq]
    exact lay_0 h hc hs
  · intro j _ hj
    simp only [decide_eq_false_iff_not]
    intro e
    obtain ⟨d, a1, a2, a3, a4, a5⟩ := lay_own h (i := j) (by omega) (by rw [e]; exact hne)
    have := lay_inj h a2 hc a3 hs (a5.symm.trans e)
    omega
theorem lay_firstN (h : lc_Lay s nu fo md) {x : Int32} (hno : ¬ lc_al s nu x) : lc_first fo x = none := by
  unfold lc_first
  by_cases e : x = 0
  · rw [if_pos e]
  · rw [if_neg e]
    refine lc_ff_none 48 0 ?_
    intro k _ hk
    simp only [decide_eq_false_iff_not]
    intro e2
    obtain ⟨d, a1, a2, a3, a4, a5⟩ := lay_own h (i := k) (by omega) (by rw [e2]; exact e)
    exact hno ⟨d, a2, a3, a5.symm.trans e2⟩
theorem lay_fnd (h : lc_Lay s nu fo md) {c : Nat} (hc : c < 48) (hs : 0 < s c) : lm_find nu s (nu c) = some c := by
  unfold lm_find
  refine lc_lf_some 48 c hc (by simp [hs]) ?_
  intro j hj e
  simp only [Bool.and_eq_true, decide_eq_true_eq] at e
  exact lay_inj h hj hc e.1 hs e.2
theorem lay_fndN {x : Int32} (hno : ¬ lc_al s nu x) : lm_find nu s x = none := by
  unfold lm_find
  refine lc_lf_none 48 ?_
  intro k hk
  cases e : (decide (0 < s k) && decide (nu k = x)) with
  | false => rfl
  | true =>
    simp only [Bool.and_eq_true, decide_eq_true_eq] at e
    exact absurd ⟨k, hk, e.1, e.2⟩ hno
theorem lay_find (h : lc_Lay s nu fo md) (x : Int32) : lc_first fo x = lm_find nu s x := by
  by_cases e : lc_al s nu x
  · obtain ⟨c, hc, hs, rfl⟩ := e
    rw [lay_first h hc hs, lay_fnd h hc hs]
  · rw [lay_firstN h e, lay_fndN e]
theorem lay_fspec (h : lc_Lay s nu fo md) {x : Int32} {c : Nat} (e : lm_find nu s x = some c) : c < 48 ∧ 0 < s c ∧ nu c = x := by
  by_cases e2 : lc_al s nu x
  · obtain ⟨d, hc, hs, rfl⟩ := e2
    rw [lay_fnd h hc hs] at e
    cases e
    exact ⟨hc, hs, rfl⟩
  · rw [lay_fndN e2] at e
    cases e
theorem lay_sa (h : lc_Lay s nu fo md) {c : Nat} (hc : c < 48) (hs : 0 < s c) : lc_sa fo c = s c := by
  obtain ⟨a1, a2, a3⟩ := h.1 c hc hs
  have e0 := lay_0 h hc hs
  unfold lc_sa
  refine lc_rn_eq (47 - c) (c + 1) (s c) (by omega) ?_ ?_
  · intro k hk
    have e1 := h.2.1 c hc hs (k + 1) (by omega)
    simp only [decide_eq_true_eq]
    rw [show c + 1 + k = c + (k + 1) by omega, e1, e0]
  · by_cases e : s c = 47 - c
    · exact Or.inl e
    · right
      simp only [decide_eq_false_iff_not]
      intro q
      rw [e0] at q
      obtain ⟨d, b1, b2, b3, b4, b5⟩ := lay_own h (i := c + 1 + s c) (by omega) (by rw [q]; exact lay_ne0 h hc hs)
      have := lay_inj h b2 hc b3 hs (b5.symm.trans q)
      subst this
      omega
theorem lay_isF (h : lc_Lay s nu fo md) {i : Nat} (hi : i < 48) : lc_isF fo i = decide (0 < s i) := by
  by_cases hs : 0 < s i
  · have e0 := lay_0 h hi hs
    have hne := lay_ne0 h hi hs
    have hp : i = 0 ∨ fo (i - 1) ≠ fo i := by
      by_cases e : i = 0
      · exact Or.inl e
      · right
        intro q
        rw [e0] at q
        obtain ⟨d, b1, b2, b3, b4, b5⟩ := lay_own h (i := i - 1) (by omega) (by rw [q]; exact hne)
        have := lay_inj h b2 hi b3 hs (b5.symm.trans q)
        omega
    have : lc_isF fo i = true := by
      simp only [lc_isF, Bool.and_eq_true, Bool.or_eq_true, decide_eq_true_eq]
      exact ⟨by rw [e0]; exact hne, hp⟩
    rw [this]
    simp [hs]
  · have : lc_isF fo i = false := by
      cases e : lc_isF fo i with
      | false => rfl
      | true =>
        exfalso
        simp only [lc_isF, Bool.and_eq_true, Bool.or_eq_true, decide_eq_true_eq] at e
        obtain ⟨d, b1, b2, b3, b4, b5⟩ := lay_own h hi e.1
        have hdi : d ≠ i := fun q => hs (q ▸ b3)
        rcases e.2 with q | q
        · omega
        · apply q
          have e1 := h.2.1 d b2 b3 (i - 1 - d) (by omega)
          rw [show d + (i - 1 - d) = i - 1 by omega] at e1
          rw [e1, b5]
    rw [this]
    simp [hs]
/-- c stands between two objects -/
def lc_bd (s : Nat → Nat) (c : Nat) : Prop := ∀ d, d < c → 0 < s d → d + s d < c
theorem lay_free (h : lc_Lay s nu fo md) {c : Nat} (hc : c < 48) (hb : lc_bd s c) (h0 : s c = 0) : fo c = 0 := by
  by_cases e : fo c = 0
  · exact e
  · obtain ⟨d, b1, b2, b3, b4, b5⟩ := lay_own h hc e
    have hdc : d ≠ c := fun q => by rw [q] at b3; omega
    have := hb d (by omega) b3
    omega
theorem lay_bd1 {c : Nat} (hb : lc_bd s c) (h0 : s c = 0) : lc_bd s (c + 1) := by
  intro d hd hs
  by_cases e : d = c
  · subst e; omega
  · have := hb d (by omega) hs
    omega
theorem lay_bd2 (h : lc_Lay s nu fo md) {c : Nat} (hc : c < 48) (hb : lc_bd s c) (hs : 0 < s c) : lc_bd s (c + s c + 1) := by
  intro d hd hs2
  obtain ⟨-, a2, a3⟩ := h.1 c hc hs
  rcases Nat.lt_trichotomy d c with e | e | e
  · have := hb d e hs2
    omega
  · subst e; omega
  · have := a3 (d - c - 1) (by omega)
    rw [show c + 1 + (d - c - 1) = d by omega] at this
    omega
theorem lc_rm_skip {n : Nat} (hn : 0 < n) : ∀ (m f c : Nat), (∀ k, k < m → fo (c + k) ≠ 0) → lc_rm fo n (f + m) c 0 = lc_rm fo n f (c + m) 0 := by
  intro m
  induction m with
  | zero => intro f c _; rfl
  | succ m ih =>
    intro f c h
    have h0 : fo c ≠ 0 := by simpa using h 0 (by omega)
    rw [show f + (m + 1) = (f + m) + 1 by omega]
    simp only [lc_rm, if_neg h0]
    rw [if_neg (by omega), ih f (c + 1) (fun k hk => by have := h (k + 1) (by omega); rwa [show c + (k + 1) = c + 1 + k by omega] at this)]
    rw [show c + 1 + m = c + (m + 1) by omega]
theorem lay_rm (h : lc_Lay s nu fo md) {n : Nat} (hn : 0 < n) : ∀ (d c f run : Nat), c + d = 48 → d < f → run < n → lc_bd s c → lc_rm fo n d c run = lm_rm s n f c run := by
  intro d
  induction d using Nat.strongRecOn with
  | ind d ih =>
    intro c f run hcd hf hr hb
    cases f with
    | zero => omega
    | succ f =>
      cases d with
      | zero =>
        simp only [lc_rm, lm_rm]
        rw [if_neg (by omega)]
      | succ d =>
        have hc : c < 48 := by omega
        by_cases hs : 0 < s c
        · obtain ⟨-, a2, -⟩ := h.1 c hc hs
          have h0 : fo c ≠ 0 := by rw [lay_0 h hc hs]; exact lay_ne0 h hc hs
          simp only [lc_rm, lm_rm, if_neg h0, if_pos hc, if_pos hs]
          rw [if_neg (by omega)]
          rw [show d = (d - s c) + s c by omega, lc_rm_skip hn (s c) (d - s c) (c + 1) (fun k hk => ?_)]
          · rw [show c + 1 + s c = c + s c + 1 by omega]
            exact ih (d - s c) (by omega) (c + s c + 1) f 0 (by omega) (by omega) hn (lay_bd2 h hc hb hs)
          · have := h.2.1 c hc hs (k + 1) (by omega)
            rw [show c + 1 + k = c + (k + 1) by omega, this]
            exact lay_ne0 h hc hs
        · have hs0 : s c = 0 := by omega
          have h0 : fo c = 0 := lay_free h hc hb hs0
          simp only [lc_rm, lm_rm, if_pos h0, if_pos hc, if_neg hs]
          by_cases e : run + 1 = n
          · rw [if_pos e, if_pos e]
          · rw [if_neg e, if_neg e]
            exact ih d (by omega) (c + 1) f (run + 1) (by omega) (by omega) (by omega) (lay_bd1 hb hs0)
theorem lay_room (h : lc_Lay s nu fo md) {n : Nat} (hn : 0 < n) : lc_room fo n = lm_room s n := lay_rm h hn 48 0 49 0 rfl (by omega) hn (fun d hd => by omega)
/-- a room is free -/
theorem lc_rm_spec {n : Nat} (hn : 0 < n) : ∀ (f i run a : Nat), run ≤ i → (∀ k, i - run ≤ k → k < i → fo k = 0) → run < n → lc_rm fo n f i run = some a → a + n ≤ i + f ∧ ∀ k, a ≤ k → k < a + n → fo k = 0 := by
  intro f
  induction f with
  | zero => intro i run a _ _ _ h; simp [lc_rm] at h
  | succ f ih =>
    intro i run a h1 h2 h3 h
    by_cases e : fo i = 0
    · simp only [lc_rm, if_pos e] at h
      by_cases e2 : run + 1 = n
      · rw [if_pos e2] at h
        cases h
        refine ⟨by omega, fun k a b => ?_⟩
        by_cases ek : k = i
        · subst ek; exact e
        · exact h2 k (by omega) (by omega)
      · rw [if_neg e2] at h
        have := ih (i + 1) (run + 1) a (by omega) (fun k a b => by
          by_cases ek : k = i
          · subst ek; exact e
          · exact h2 k (by omega) (by omega)) (by omega) h
        exact ⟨by omega, this.2⟩
    · simp only [lc_rm, if_neg e] at h
      rw [if_neg (by omega)] at h
      have := ih (i + 1) 0 a (by omega) (fun k a b => by omega) hn h
      exact ⟨by omega, this.2⟩
theorem lc_room_spec {n a : Nat} (hn : 0 < n) (h : lc_room fo n = some a) : a + n ≤ 48 ∧ ∀ k, a ≤ k → k < a + n → fo k = 0 := by
  have := lc_rm_spec hn 48 0 0 a (by omega) (fun k a b => by omega) hn h
  simpa using this
theorem lc_ct_skip {p : Nat → Bool} (c : Nat) : ∀ (m : Nat), (∀ k, k < m → p (c + k) = false) → lc_ct p (c + m) = lc_ct p c := by
  intro m
  induction m with
  | zero => intro _; rfl
  | succ m ih =>
    intro h
    rw [show c + (m + 1) = (c + m) + 1 by omega]
    simp [lc_ct, h m (by omega), ih (fun k hk => h k (by omega))]
theorem lc_sm_skip {f : Nat → Nat} (c : Nat) : ∀ (m : Nat), (∀ k, k < m → f (c + k) = 0) → lc_sm f (c + m) = lc_sm f c := by
  intro m
  induction m with
  | zero => intro _; rfl
  | succ m ih =>
    intro h
    rw [show c + (m + 1) = (c + m) + 1 by omega]
    simp [lc_sm, h m (by omega), ih (fun k hk => h k (by omega))]
theorem lay_freeN (h : lc_Lay s nu fo md) : ∀ (d c : Nat), c + d = 48 → lc_bd s c → lc_ct (fun i => decide (fo i = 0)) c + lc_sm (lc_wt s) c = c → lc_ct (fun i => decide (fo i = 0)) 48 + lc_sm (lc_wt s) 48 = 48 := by
  intro d
  induction d using Nat.strongRecOn with
  | ind d ih =>
    intro c hcd hb hq
    cases d with
    | zero =>
      have : c = 48 := by omega
      subst this
      exact hq
    | succ d =>
      have hc : c < 48 := by omega
      by_cases hs : 0 < s c
      · obtain ⟨-, a2, a3⟩ := h.1 c hc hs
        refine ih (d - s c) (by omega) (c + s c + 1) (by omega) (lay_bd2 h hc hb hs) ?_
        rw [show c + s c + 1 = c + (s c + 1) by omega]
        rw [lc_ct_skip c (s c + 1) (fun k hk => by
          simp only [decide_eq_false_iff_not]
          rw [h.2.1 c hc hs k (by omega)]
          exact lay_ne0 h hc hs)]
        rw [show c + (s c + 1) = (c + 1) + s c by omega, lc_sm_skip (c + 1) (s c) (fun k hk => by simp [lc_wt, a3 k hk])]
        simp only [lc_sm, lc_wt, if_pos hs]
        omega
      · have hs0 : s c = 0 := by omega
        have h0 : fo c = 0 := lay_free h hc hb hs0
        refine ih d (by omega) (c + 1) (by omega) (lay_bd1 hb hs0) ?_
        simp only [lc_ct, lc_sm, lc_wt, if_neg hs, h0, decide_true, if_true]
        omega
theorem lay_cells (h : lc_Lay s nu fo md) : lc_ct (fun i => decide (fo i = 0)) 48 + lc_sm (lc_wt s) 48 = 48 := lay_freeN h 48 0 rfl (fun d hd => by omega) rfl
end LAY
end
section
section RECKON
variable {s t : Nat → Nat} {nu fo fw ho fp fe : lc_A} {md ht len : Nat}
/-- how often x stands among the values v d j of the slots j of the objects d -/
def lc_cn (s : Nat → Nat) (v : Nat → lc_A) (x : Int32) : Nat := lc_sm (fun d => lc_ct (fun j => decide (v d j = x)) (s d)) 48
/-- what the slots hold -/
def lc_hv (ho : lc_A) : Nat → lc_A := fun d j => ho (d + 1 + j)
theorem lc_cn_ext {v w : Nat → lc_A} {x : Int32} (h : ∀ d j, d < 48 → j < s d → v d j = w d j) : lc_cn s v x = lc_cn s w x := by
  refine lc_sm_ext 48 (fun d hd => lc_ct_ext (s d) (fun j hj => ?_))
  rw [h d j hd hj]
theorem lc_cn_upd {v w : Nat → lc_A} {x : Int32} {a b : Nat} (ha : a < 48) (hb : b < s a) (h : ∀ d j, d < 48 → j < s d → ¬ (d = a ∧ j = b) → w d j = v d j) :
    lc_cn s w x + (if v a b = x then 1 else 0) = lc_cn s v x + (if w a b = x then 1 else 0) := by
  have h1 := lc_sm_upd (f := fun d => lc_ct (fun j => decide (v d j = x)) (s d)) (g := fun d => lc_ct (fun j => decide (w d j = x)) (s d)) 48 a ha (fun k hk hn => lc_ct_ext (s k) (fun j hj => by rw [h k j hk hj (fun q => hn q.1)]))
  have h2 := lc_ct_upd (p := fun j => decide (v a j = x)) (q := fun j => decide (w a j = x)) (s a) b hb (fun k hk hn => by rw [h a k ha hk (fun q => hn q.2)])
  simp only [decide_eq_true_eq] at h2
  unfold lc_cn
  omega
theorem lc_cn_le {v : Nat → lc_A} {x : Int32} (h4 : ∀ d, d < 48 → s d ≤ 4) : lc_cn s v x ≤ 192 := by
  have := lc_sm_le (f := fun d => lc_ct (fun j => decide (v d j = x)) (s d)) (b := 4) 48 (fun d hd => Nat.le_trans (lc_ct_le (s d)) (h4 d hd))
  unfold lc_cn
  omega
theorem lc_cn_pos {v : Nat → lc_A} {x : Int32} {d j : Nat} (hd : d < 48) (hj : j < s d) (e : v d j = x) : lc_cn s v x ≠ 0 := by
  intro h
  have h1 := lc_sm_zero 48 h d hd
  have h2 := lc_ct_zero (s d) h1 j hj
  simp [e] at h2
theorem lay_4 (h : lc_Lay s nu fo md) {d : Nat} (hd : d < 48) : s d ≤ 4 := by
  by_cases hs : 0 < s d
  · exact (h.1 d hd hs).1
  · omega
/-- the words: an object's first is its count w, the others are what it holds -/
def lc_CW (s : Nat → Nat) (nu fw ho : lc_A) (w : Int32 → Int32) : Prop := ∀ c, c < 48 → 0 < s c → fw c = w (nu c) ∧ ∀ k, k < s c → fw (c + 1 + k) = ho (c + 1 + k)
theorem lc_CW.to {w w' : Int32 → Int32} (h : lc_CW s nu fw ho w) (e : ∀ c, c < 48 → 0 < s c → w (nu c) = w' (nu c)) : lc_CW s nu fw ho w' := fun c hc hs => ⟨(h c hc hs).1.trans (e c hc hs), (h c hc hs).2⟩
theorem cw_add (h : lc_Lay s nu fo md) {w : Int32 → Int32} (hw : lc_CW s nu fw ho w) (x d : Int32) : lc_CW s nu (lc_add fo fw x d) ho (fun z => if z = x then w z + d else w z) := by
  by_cases e : lc_al s nu x
  · obtain ⟨a, ha, hsa, rfl⟩ := e
    intro c hc hs
    obtain ⟨h1, h2⟩ := hw c hc hs
    unfold lc_add
    rw [lay_first h ha hsa]
    refine ⟨?_, fun k hk => ?_⟩
    · by_cases ec : c = a
      · subst ec
        simp only [if_true]
        rw [pk_us, h1]
      · show upd fw a (fw a + d) c = if nu c = nu a then w (nu c) + d else w (nu c)
        rw [if_neg (fun q => ec (lay_inj h hc ha hs hsa q)), pk_un ec, h1]
    · have h0 := (h.1 c hc hs).2.2 k hk
      have hne : c + 1 + k ≠ a := fun q => by rw [q] at h0; omega
      rw [← h2 k hk]
      exact pk_un hne
  · intro c hc hs
    obtain ⟨h1, h2⟩ := hw c hc hs
    unfold lc_add
    rw [lay_firstN h e]
    refine ⟨?_, h2⟩
    show fw c = if nu c = x then w (nu c) + d else w (nu c)
    rw [if_neg (fun q => e ⟨c, hc, hs, q⟩)]
    exact h1
theorem lc_m1p1 (x : Int32) : x + (-1) + 1 = x := by
  rw [Int32.add_assoc, show (-1 : Int32) + 1 = 0 by decide, Int32.add_zero]
/-- one entry: its object's slots from what the entry holds to what they hold -/
theorem cw_cc (h : lc_Lay s nu fo md) {v : Nat → lc_A} {B : lc_A} {a : Nat} (ha : a < 48) (hsa : 0 < s a) (hB : ∀ j, j < s a → v a j = B j) (hw : lc_CW s nu fw ho (fun z => nI (lc_cn s v z))) :
    ∀ j, j ≤ s a → lc_CW s nu (lc_cc fo a B fw j) ho (fun z => nI (lc_cn s (fun d i => if d = a ∧ i < j then ho (a + 1 + i) else v d i) z)) := by
  intro j
  induction j with
  | zero =>
    intro _
    refine hw.to (fun c hc hs => ?_)
    simp only [Nat.not_lt_zero, and_false, if_false]
  | succ j ih =>
    intro hj
    have h1 := cw_add h (ih (by omega)) (B j) (-1)
    have e1 : lc_add fo (lc_cc fo a B fw j) (B j) (-1) (a + 1 + j) = ho (a + 1 + j) := (h1 a ha hsa).2 j (by omega)
    have h2 := cw_add h h1 (ho (a + 1 + j)) 1
    simp only [lc_cc]
    rw [e1]
    refine h2.to (fun c hc hs => ?_)
    have hu := lc_cn_upd (s := s) (v := fun d i => if d = a ∧ i < j then ho (a + 1 + i) else v d i) (w := fun d i => if d = a ∧ i < j + 1 then ho (a + 1 + i) else v d i) (x := nu c) (a := a) (b := j) ha (by omega) (fun d i _ _ hn => by
      by_cases ed : d = a
      · by_cases ei : i < j
        · simp only [ed, ei, if_true, true_and]
          rw [if_pos (by omega)]
        · have : ¬ i < j + 1 := fun q => hn ⟨ed, by omega⟩
          simp only [ei, this, and_false, if_false]
      · simp only [ed, false_and, if_false])
    simp only [Nat.lt_irrefl, and_false, if_false, Nat.lt_succ_self, and_self, if_true] at hu
    rw [hB j (by omega)] at hu
    generalize lc_cn s (fun d i => if d = a ∧ i < j then ho (a + 1 + i) else v d i) (nu c) = N at hu ⊢
    generalize lc_cn s (fun d i => if d = a ∧ i < j + 1 then ho (a + 1 + i) else v d i) (nu c) = N' at hu ⊢
    by_cases p1 : nu c = B j
    · by_cases p2 : nu c = ho (a + 1 + j)
      · rw [if_pos p2, if_pos p1, lc_m1p1]
        rw [if_pos p1.symm, if_pos p2.symm] at hu
        congr 1
        omega
      · rw [if_neg p2, if_pos p1]
        rw [if_pos p1.symm, if_neg (fun q => p2 q.symm)] at hu
        rw [show N = N' + 1 by omega]
        exact pk_m1 N'
    · by_cases p2 : nu c = ho (a + 1 + j)
      · rw [if_pos p2, if_neg p1]
        rw [if_neg (fun q => p1 q.symm), if_pos p2.symm] at hu
        rw [nI_1]
        congr 1
        omega
      · rw [if_neg p2, if_neg p1]
        rw [if_neg (fun q => p1 q.symm), if_neg (fun q => p2 q.symm)] at hu
        congr 1
        omega
/-- what the slots held, but for the entries below k, which are brought up to date -/
def lc_od (nu fe ho : lc_A) (M : Nat → lc_A) (len k : Nat) : Nat → lc_A := fun d j => match lc_ff (fun i => decide (fe i = nu d)) len 0 with
  | some i => if i < k then ho (d + 1 + j) else M i j
  | none => ho (d + 1 + j)
theorem cw_cl (h : lc_Lay s nu fo md) {M : Nat → lc_A} (hal : ∀ k, k < len → lc_al s nu (fe k)) (hdis : ∀ j k, j < len → k < len → fe j = fe k → j = k)
    (hw : lc_CW s nu fw ho (fun z => nI (lc_cn s (lc_od nu fe ho M len 0) z))) :
    ∀ k, k ≤ len → lc_CW s nu (lc_cl fo fe M fw k) ho (fun z => nI (lc_cn s (lc_od nu fe ho M len k) z)) := by
  intro k
  induction k with
  | zero => intro _; exact hw
  | succ k ih =>
    intro hk
    obtain ⟨a, ha, hsa, hna⟩ := hal k (by omega)
    have hff : lc_ff (fun i => decide (fe i = nu a)) len 0 = some k := by
      refine lc_ff_some len 0 k (Nat.zero_le _) (by omega) (by simp [hna]) (fun j _ hj => ?_)
      simp only [decide_eq_false_iff_not]
      intro q
      have := hdis j k (by omega) (by omega) (q.trans hna)
      omega
    have h1 := cw_cc h ha hsa (B := M k) (v := lc_od nu fe ho M len k) (fun j _ => by simp only [lc_od, hff, Nat.lt_irrefl, if_false]) (ih (by omega)) (s a) (Nat.le_refl _)
    simp only [lc_cl]
    rw [← hna, lay_first h ha hsa]
    simp only [lc_cco]
    rw [lay_sa h ha hsa]
    refine h1.to (fun c hc hs => congrArg nI (lc_cn_ext (fun d j hd hj => ?_)))
    by_cases ed : d = a
    · subst ed
      rw [if_pos ⟨rfl, hj⟩]
      simp only [lc_od, hff, Nat.lt_succ_self, if_true]
    · rw [if_neg (fun q => ed q.1)]
      cases e : lc_ff (fun i => decide (fe i = nu d)) len 0 with
      | none => simp only [lc_od, e]
      | some i =>
        simp only [lc_od, e]
        obtain ⟨-, q2, q3, -⟩ := lc_ff_spec len 0 i e
        simp only [decide_eq_true_eq] at q3
        have hik : i ≠ k := by
          intro q
          subst q
          exact ed (lay_inj h hd ha (by omega) hsa (q3.symm.trans hna.symm))
        by_cases ei : i < k
        · rw [if_pos ei, if_pos (by omega)]
        · rw [if_neg ei, if_neg (by omega)]
theorem cw_all (h : lc_Lay s nu fo md) {M : Nat → lc_A} (hal : ∀ k, k < len → lc_al s nu (fe k)) (hdis : ∀ j k, j < len → k < len → fe j = fe k → j = k)
    (hw : lc_CW s nu fw ho (fun z => nI (lc_cn s (lc_od nu fe ho M len 0) z))) : lc_CW s nu (lc_cl fo fe M fw len) ho (fun z => nI (lc_cn s (lc_hv ho) z)) := by
  refine (cw_cl h hal hdis hw len (Nat.le_refl _)).to (fun c hc hs => congrArg nI (lc_cn_ext (fun d j _ _ => ?_)))
  cases e : lc_ff (fun i => decide (fe i = nu d)) len 0 with
  | none => simp only [lc_od, e, lc_hv]
  | some i =>
    obtain ⟨-, q2, -, -⟩ := lc_ff_spec len 0 i e
    simp only [lc_od, e, lc_hv]
    rw [if_pos (by omega)]
/-! giving back -/
def lc_Val (s : Nat → Nat) (nu ho : lc_A) : Prop := ∀ c, c < 48 → 0 < s c → ∀ k, k < s c → lc_rf s nu (ho (c + 1 + k))
def lc_Stk (s : Nat → Nat) (nu fp : lc_A) (ht : Nat) : Prop := ht ≤ 8 ∧ ∀ j, j < ht → lc_rf s nu (fp j)
def lc_sub (t s : Nat → Nat) : Prop := (∀ c, t c = s c ∨ t c = 0) ∧ ∀ c, 48 ≤ c → t c = s c
def lc_stuck (t : Nat → Nat) (nu ho fp : lc_A) (ht : Nat) : Prop := ∀ c, c < 48 → 0 < t c → lc_cn t (lc_hv ho) (nu c) ≠ 0 ∨ lc_on fp ht (nu c) = true
def lc_FI (s : Nat → Nat) (nu fo fw ho fp : lc_A) (md ht : Nat) : Prop := lc_Lay s nu fo md ∧ lc_CW s nu fw ho (fun z => nI (lc_cn s (lc_hv ho) z)) ∧ lc_Val s nu ho ∧ lc_Stk s nu fp ht
theorem lc_cn_mono {v : Nat → lc_A} {x : Int32} (h : ∀ c, t c = s c ∨ t c = 0) : lc_cn t v x ≤ lc_cn s v x := by
  refine lc_sm_mono 48 (fun d hd => ?_)
  rcases h d with e | e
  · rw [e]; exact Nat.le_refl _
  · rw [e]; exact Nat.zero_le _
/-- the slots of the one that is given back no longer count -/
theorem cw_gb (h : lc_Lay s nu fo md) {a : Nat} (ha : a < 48) (hsa : 0 < s a) (hw : lc_CW s nu fw ho (fun z => nI (lc_cn s (lc_hv ho) z))) :
    ∀ j, j ≤ s a → lc_CW s nu (lc_gb fo fw a j) ho (fun z => nI (lc_cn s (fun d i => if d = a ∧ i < j then 0 else lc_hv ho d i) z)) := by
  intro j
  induction j with
  | zero =>
    intro _
    refine hw.to (fun c hc hs => ?_)
    simp only [Nat.not_lt_zero, and_false, if_false]
  | succ j ih =>
    intro hj
    have h0 := ih (by omega)
    have e1 : lc_gb fo fw a j (a + 1 + j) = ho (a + 1 + j) := (h0 a ha hsa).2 j (by omega)
    have h2 := cw_add h h0 (ho (a + 1 + j)) (-1)
    simp only [lc_gb]
    rw [e1]
    refine h2.to (fun c hc hs => ?_)
    have hu := lc_cn_upd (s := s) (v := fun d i => if d = a ∧ i < j then 0 else lc_hv ho d i) (w := fun d i => if d = a ∧ i < j + 1 then 0 else lc_hv ho d i) (x := nu c) (a := a) (b := j) ha (by omega) (fun d i _ _ hn => by
      by_cases ed : d = a
      · by_cases ei : i < j
        · simp only [ed, ei, if_true, true_and]
          rw [if_pos (by omega)]
        · have : ¬ i < j + 1 := fun q => hn ⟨ed, by omega⟩
          simp only [ei, this, and_false, if_false]
      · simp only [ed, false_and, if_false])
    simp only [Nat.lt_irrefl, and_false, if_false, Nat.lt_succ_self, and_self, if_true] at hu
    rw [if_neg (show ¬ (0 : Int32) = nu c from fun q => lay_ne0 h hc hs q.symm)] at hu
    generalize lc_cn s (fun d i => if d = a ∧ i < j then 0 else lc_hv ho d i) (nu c) = N at hu ⊢
    generalize lc_cn s (fun d i => if d = a ∧ i < j + 1 then 0 else lc_hv ho d i) (nu c) = N' at hu ⊢
    rw [show lc_hv ho a j = ho (a + 1 + j) from rfl] at hu
    by_cases p2 : nu c = ho (a + 1 + j)
    · rw [if_pos p2]
      rw [if_pos p2.symm] at hu
      rw [show N = N' + 1 by omega]
      exact pk_m1 N'
    · rw [if_neg p2]
      rw [if_neg (fun q => p2 q.symm)] at hu
      congr 1
      omega
theorem up0_pos {a c : Nat} (h : 0 < va_up s a 0 c) : c ≠ a ∧ va_up s a 0 c = s c := by
  by_cases e : c = a
  · subst e; rw [va_up_self] at h; omega
  · exact ⟨e, va_up_ne s 0 e⟩
theorem lay_gb (h : lc_Lay s nu fo md) {a : Nat} (ha : a < 48) (hsa : 0 < s a) : lc_Lay (va_up s a 0) nu (lc_fill fo a (s a + 1) 0) md := by
  obtain ⟨h1, h2, h3, h4, h5, h6⟩ := id h
  refine ⟨fun c hc hs => ?_, fun c hc hs k hk => ?_, fun i hi h0 => ?_, fun c hc hs => ?_, fun c d hc hd hs hsd e => ?_, h6⟩
  · obtain ⟨e1, e2⟩ := up0_pos hs
    rw [e2] at hs ⊢
    obtain ⟨q1, q2, q3⟩ := h1 c hc hs
    refine ⟨q1, q2, fun k hk => ?_⟩
    by_cases e : c + 1 + k = a
    · rw [e, va_up_self]
    · rw [va_up_ne s 0 e]; exact q3 k hk
  · obtain ⟨e1, e2⟩ := up0_pos hs
    rw [e2] at hs hk
    unfold lc_fill
    rw [if_neg, h2 c hc hs k hk]
    intro q
    have ea := h2 a ha hsa (c + k - a) (by omega)
    rw [show a + (c + k - a) = c + k by omega, h2 c hc hs k hk] at ea
    exact e1 (lay_inj h hc ha hs hsa ea)
  · unfold lc_fill at h0
    by_cases q : a ≤ i ∧ i < a + (s a + 1)
    · rw [if_pos q] at h0; exact absurd rfl h0
    · rw [if_neg q] at h0
      obtain ⟨c, c1, c2, c3⟩ := h3 i hi h0
      have : c ≠ a := fun z => q (by subst z; omega)
      exact ⟨c, c1, by rw [va_up_ne s 0 this]; exact c2, by rw [va_up_ne s 0 this]; exact c3⟩
  · obtain ⟨e1, e2⟩ := up0_pos hs
    rw [e2] at hs
    exact h4 c hc hs
  · obtain ⟨e1, e2⟩ := up0_pos hs
    obtain ⟨e3, e4⟩ := up0_pos hsd
    rw [e2] at hs
    rw [e4] at hsd
    exact h5 c d hc hd hs hsd e
theorem lc_cn_up0 {a : Nat} {x : Int32} (hx : x ≠ 0) : lc_cn s (fun d i => if d = a ∧ i < s a then 0 else lc_hv ho d i) x = lc_cn (va_up s a 0) (lc_hv ho) x := by
  refine lc_sm_ext 48 (fun d hd => ?_)
  by_cases e : d = a
  · subst e
    rw [va_up_self]
    show _ = 0
    refine lc_ct_none (s d) (fun j hj => ?_)
    rw [decide_eq_false_iff_not]
    show ¬ (if d = d ∧ j < s d then (0 : Int32) else lc_hv ho d j) = x
    rw [if_pos ⟨rfl, hj⟩]
    exact fun q => hx q.symm
  · rw [va_up_ne s 0 e]
    refine lc_ct_ext (s d) (fun j hj => ?_)
    show decide ((if d = a ∧ j < s a then (0 : Int32) else lc_hv ho d j) = x) = _
    rw [if_neg (fun q => e q.1)]
theorem rf_up0 {a : Nat} {x : Int32} (h : lc_rf s nu x) (hx : x ≠ nu a) : lc_rf (va_up s a 0) nu x := by
  rcases h with h | ⟨c, hc, hs, e⟩
  · exact Or.inl h
  · refine Or.inr ⟨c, hc, ?_, e⟩
    have : c ≠ a := fun q => hx (by rw [← e, q])
    rw [va_up_ne s 0 this]; exact hs
theorem fi_gb (h : lc_FI s nu fo fw ho fp md ht) {a : Nat} (ha : a < 48) (hsa : 0 < s a) (h0 : lc_cn s (lc_hv ho) (nu a) = 0) (hst : lc_on fp ht (nu a) = false) :
    lc_FI (va_up s a 0) nu (lc_fill fo a (s a + 1) 0) (lc_gb fo fw a (s a)) ho fp md ht := by
  obtain ⟨hL, hW, hV, hS⟩ := h
  refine ⟨lay_gb hL ha hsa, fun c hc hs => ?_, fun c hc hs k hk => ?_, hS.1, fun j hj => ?_⟩
  · obtain ⟨e1, e2⟩ := up0_pos hs
    rw [e2] at hs
    obtain ⟨q1, q2⟩ := cw_gb hL ha hsa hW (s a) (Nat.le_refl _) c hc hs
    refine ⟨?_, fun k hk => q2 k (by rw [e2] at hk; exact hk)⟩
    exact q1.trans (congrArg nI (lc_cn_up0 (lay_ne0 hL hc hs)))
  · obtain ⟨e1, e2⟩ := up0_pos hs
    rw [e2] at hs hk
    refine rf_up0 (hV c hc hs k hk) (fun q => ?_)
    exact lc_cn_pos (s := s) (v := lc_hv ho) hc hk q h0
  · refine rf_up0 (hS.2 j hj) (fun q => ?_)
    have := lc_an_nspec ht hst j hj
    simp only [decide_eq_false_iff_not] at this
    exact this q
theorem sub_stuck (hst : lc_stuck t nu ho fp ht) (hsub : lc_sub t s) {a : Nat} (ha : a < 48) (h0 : lc_cn s (lc_hv ho) (nu a) = 0) (hon : lc_on fp ht (nu a) = false) : t a = 0 := by
  by_cases e : 0 < t a
  · rcases hst a ha e with q | q
    · have := lc_cn_mono (v := lc_hv ho) (x := nu a) hsub.1
      omega
    · rw [hon] at q; cases q
  · omega
theorem lc_ct_up0 {a : Nat} (ha : a < 48) (hsa : 0 < s a) : lc_ct (fun c => decide (0 < s c)) 48 = lc_ct (fun c => decide (0 < va_up s a 0 c)) 48 + 1 := by
  have := lc_ct_upd (p := fun c => decide (0 < s c)) (q := fun c => decide (0 < va_up s a 0 c)) 48 a ha (fun k hk hn => by rw [va_up_ne s 0 hn])
  simp only [va_up_self, hsa, decide_true, if_true] at this
  simp at this
  omega
theorem nI_z {n : Nat} (h : n ≤ 192) : nI n = 0 ↔ n = 0 := by
  rw [← nI_0]
  exact nI_eq (by omega) (by omega)
/-- the class gives back one by one: what is left can't be given back, and nothing that can stay was taken -/
theorem class_free : ∀ (f : Nat) (s : Nat → Nat) (fo fw : lc_A), lc_FI s nu fo fw ho fp md ht → lc_ct (fun c => decide (0 < s c)) 48 ≤ f →
    ∃ s' : Nat → Nat, lc_FI s' nu (lc_fr fp ht f fo fw).1 (lc_fr fp ht f fo fw).2.1 ho fp md ht ∧ lc_sub s' s ∧ lc_stuck s' nu ho fp ht ∧
      lc_ct (fun c => decide (0 < s c)) 48 = lc_ct (fun c => decide (0 < s' c)) 48 + (lc_fr fp ht f fo fw).2.2 ∧ ∀ t, lc_sub t s → lc_stuck t nu ho fp ht → ∀ c, c < 48 → 0 < t c → 0 < s' c := by
  intro f
  induction f with
  | zero =>
    intro s fo fw h hf
    have hz := lc_ct_zero 48 (Nat.le_zero.mp hf)
    refine ⟨s, h, ⟨fun c => Or.inl rfl, fun c _ => rfl⟩, fun c hc hs => ?_, rfl, fun t ht' hst c hc hs => ?_⟩
    · have := hz c hc; simp at this; omega
    · rcases ht'.1 c with q | q
      · rw [q] at hs; exact hs
      · omega
  | succ f ih =>
    intro s fo fw h hf
    cases e : lc_un fo fw fp ht with
    | none =>
      simp only [lc_fr, e]
      refine ⟨s, h, ⟨fun c => Or.inl rfl, fun c _ => rfl⟩, fun c hc hs => ?_, rfl, fun t ht' hst c hc hs => ?_⟩
      · have hn := lc_ff_nspec 48 0 e c (Nat.zero_le _) (by omega)
        simp only [lc_isU, lay_isF h.1 hc, hs, decide_true, Bool.true_and, lay_0 h.1 hc hs] at hn
        by_cases q : lc_cn s (lc_hv ho) (nu c) = 0
        · right
          have e2 := (h.2.1 c hc hs).1
          simp only [q] at e2
          rw [e2, nI_0] at hn
          simpa using hn
        · exact Or.inl q
      · rcases ht'.1 c with q | q
        · rw [q] at hs; exact hs
        · omega
    | some a =>
      simp only [lc_fr, e]
      obtain ⟨-, ha, hp, -⟩ := lc_ff_spec 48 0 a e
      have ha : a < 48 := by omega
      simp only [lc_isU, lay_isF h.1 ha, Bool.and_eq_true, decide_eq_true_eq, Bool.not_eq_true'] at hp
      obtain ⟨⟨hsa, hw0⟩, hon⟩ := hp
      rw [lay_0 h.1 ha hsa] at hon
      have h0 : lc_cn s (lc_hv ho) (nu a) = 0 := by
        have e2 := (h.2.1 a ha hsa).1
        rw [hw0] at e2
        exact (nI_z (lc_cn_le (fun d hd => lay_4 h.1 hd))).mp e2.symm
      rw [lay_sa h.1 ha hsa]
      have hc1 := lc_ct_up0 (s := s) ha hsa
      obtain ⟨s', q1, q2, q3, q4, q5⟩ := ih (va_up s a 0) _ _ (fi_gb h ha hsa h0 hon) (by omega)
      refine ⟨s', q1, ⟨fun c => ?_, fun c hc => ?_⟩, q3, by omega, fun t ht' hst c hc hs => ?_⟩
      · rcases q2.1 c with z | z
        · by_cases ec : c = a
          · subst ec; rw [va_up_self] at z; exact Or.inr z
          · rw [va_up_ne s 0 ec] at z; exact Or.inl z
        · exact Or.inr z
      · rw [q2.2 c hc, va_up_ne s 0 (by omega)]
      · have hta := sub_stuck hst ht' ha h0 hon
        refine q5 t ⟨fun d => ?_, fun d hd => ?_⟩ hst c hc hs
        · by_cases ed : d = a
          · subst ed; exact Or.inr hta
          · rw [va_up_ne s 0 ed]; exact ht'.1 d
        · rw [ht'.2 d hd, va_up_ne s 0 (by omega)]
theorem lm_rc_cn {c : Nat} (hs : 0 < s c) : lm_rc s nu ho c = nI (lc_cn s (lc_hv ho) (nu c)) := by
  unfold lm_rc
  rw [if_pos hs]
  rfl
/-- the reference gives back in rounds: the same two things -/
theorem model_free : ∀ (f : Nat) (s : Nat → Nat) (co : lc_A) (nt : Nat → Bool), (∀ d, d < 48 → s d ≤ 4) → lc_ct (fun c => decide (0 < s c)) 48 < f →
    lc_sub (lm_st nu ho fp ht f s co nt).1 s ∧ lc_stuck (lm_st nu ho fp ht f s co nt).1 nu ho fp ht ∧ (∀ c, c < 48 → (lm_st nu ho fp ht f s co nt).2.2 c = false) ∧
      (∀ c, c < 48 → 0 < (lm_st nu ho fp ht f s co nt).1 c → (lm_st nu ho fp ht f s co nt).2.1 c = nI (lc_cn (lm_st nu ho fp ht f s co nt).1 (lc_hv ho) (nu c))) ∧
      ∀ t, lc_sub t s → lc_stuck t nu ho fp ht → ∀ c, c < 48 → 0 < t c → 0 < (lm_st nu ho fp ht f s co nt).1 c := by
  intro f
  induction f with
  | zero => intro s co nt _ h; omega
  | succ f ih =>
    intro s co nt h4 hf
    generalize hco : lm_mix 48 (lm_rc s nu ho) co = co1
    generalize hnt : lm_mixB 48 nt = nt1
    generalize hp : lm_fr s co1 nu fp ht = p
    have hst : lm_st nu ho fp ht (f + 1) s co nt = if lc_ct p 48 = 0 then (lm_cut p s 48, co1, nt1) else lm_st nu ho fp ht f (lm_cut p s 48) co1 nt1 := by
      simp only [lm_st, hco, hnt, hp]
    have hp1 : ∀ c, c < 48 → (p c = true ↔ 0 < s c ∧ lc_cn s (lc_hv ho) (nu c) = 0 ∧ lc_on fp ht (nu c) = false) := by
      intro c hc
      rw [← hp]
      simp only [lm_fr, Bool.and_eq_true, decide_eq_true_eq, Bool.not_eq_true']
      constructor
      · rintro ⟨⟨a1, a2⟩, a3⟩
        refine ⟨a1, ?_, a3⟩
        rw [← hco] at a2
        simp only [lm_mix, if_pos hc] at a2
        rw [lm_rc_cn a1] at a2
        exact (nI_z (lc_cn_le h4)).mp a2
      · rintro ⟨a1, a2, a3⟩
        refine ⟨⟨a1, ?_⟩, a3⟩
        rw [← hco]
        simp only [lm_mix, if_pos hc]
        rw [lm_rc_cn a1, a2, nI_0]
    have hcut : lc_sub (lm_cut p s 48) s := by
      refine ⟨fun c => ?_, fun c hc => ?_⟩
      · unfold lm_cut
        split
        · exact Or.inr rfl
        · exact Or.inl rfl
      · unfold lm_cut
        rw [if_neg (by omega)]
    have hmax : ∀ t, lc_sub t s → lc_stuck t nu ho fp ht → lc_sub t (lm_cut p s 48) := by
      intro t ht' hstk
      refine ⟨fun c => ?_, fun c hc => ?_⟩
      · unfold lm_cut
        by_cases q : c < 48 ∧ p c = true
        · rw [if_pos q]
          obtain ⟨b1, b2, b3⟩ := (hp1 c q.1).mp q.2
          exact Or.inr (sub_stuck hstk ht' q.1 b2 b3)
        · rw [if_neg q]; exact ht'.1 c
      · rw [ht'.2 c hc, hcut.2 c hc]
    rw [hst]
    by_cases e : lc_ct p 48 = 0
    · rw [if_pos e]
      have hz := lc_ct_zero 48 e
      have hs : lm_cut p s 48 = s := by
        funext c
        unfold lm_cut
        by_cases hc : c < 48
        · rw [if_neg (by rw [hz c hc]; simp)]
        · rw [if_neg (by omega)]
      simp only [hs]
      refine ⟨⟨fun c => Or.inl rfl, fun c _ => rfl⟩, fun c hc hsc => ?_, fun c hc => ?_, fun c hc hsc => ?_, fun t ht' hstk c hc hsc => ?_⟩
      · by_cases q : lc_cn s (lc_hv ho) (nu c) = 0
        · right
          cases e3 : lc_on fp ht (nu c) with
          | true => rfl
          | false =>
            have := (hp1 c hc).mpr ⟨hsc, q, e3⟩
            rw [hz c hc] at this
            cases this
        · exact Or.inl q
      · rw [← hnt]
        simp only [lm_mixB, if_pos hc]
      · rw [← hco]
        simp only [lm_mix, if_pos hc]
        exact lm_rc_cn hsc
      · rcases ht'.1 c with q | q
        · rw [q] at hsc; exact hsc
        · omega
    · rw [if_neg e]
      have hal : lc_ct (fun c => decide (0 < s c)) 48 = lc_ct (fun c => decide (0 < lm_cut p s 48 c)) 48 + lc_ct p 48 := by
        rw [lc_ct_cutp (q := p) 48 (fun c hc q => by simp only [decide_eq_true_eq]; exact ((hp1 c hc).mp q).1)]
        refine congrArg (· + lc_ct p 48) (lc_ct_ext 48 (fun c hc => ?_))
        unfold lm_cut
        cases e3 : p c with
        | true => simp [hc]
        | false => simp
      obtain ⟨q1, q2, q3, q4, q5⟩ := ih (lm_cut p s 48) co1 nt1 (fun d hd => (hcut.1 d).elim (fun z => by rw [z]; exact h4 d hd) (fun z => by rw [z]; exact Nat.zero_le _)) (by omega)
      refine ⟨⟨fun c => ?_, fun c hc => by rw [q1.2 c hc, hcut.2 c hc]⟩, q2, q3, q4, fun t ht' hstk => q5 t (hmax t ht' hstk) hstk⟩
      rcases q1.1 c with z | z
      · rw [z]; exact hcut.1 c
      · exact Or.inr z
theorem sub_eq {u : Nat → Nat} (h1 : lc_sub t s) (h2 : lc_sub u s) (h3 : ∀ c, c < 48 → 0 < t c → 0 < u c) (h4 : ∀ c, c < 48 → 0 < u c → 0 < t c) : t = u := by
  funext c
  by_cases hc : c < 48
  · rcases h1.1 c with a | a <;> rcases h2.1 c with b | b
    · rw [a, b]
    · by_cases z : 0 < t c
      · have := h3 c hc z; omega
      · omega
    · by_cases z : 0 < u c
      · have := h4 c hc z; omega
      · omega
    · rw [a, b]
  · rw [h1.2 c (by omega), h2.2 c (by omega)]
end RECKON
end
section
section SIM
variable {s : Nat → Nat} {nu fo fw ho fp fe co he : lc_A} {nt : Nat → Bool} {M : Nat → lc_A} {md ht len : Nat}
def lc_Log (s : Nat → Nat) (nu : lc_A) (nt : Nat → Bool) (fe : lc_A) (len : Nat) (M : Nat → lc_A) (he : lc_A) : Prop := len ≤ 5 ∧ (∀ k, k < len → lc_al s nu (fe k)) ∧ (∀ j k, j < len → k < len → fe j = fe k → j = k) ∧ (∀ c, c < 48 → 0 < s c → nt c = lc_on fe len (nu c)) ∧
  (∀ k c, k < len → c < 48 → 0 < s c → nu c = fe k → ∀ j, j < s c → M k j = he (4 * k + j) ∧ lc_rf s nu (M k j))
/-- class and reference agree; what both keep alike (made, stack, the log's objects and length) stands here once -/
def lc_Sim (fo fw : lc_A) (md : Nat) (fp : lc_A) (ht : Nat) (fe : lc_A) (M : Nat → lc_A) (len : Nat) (nu : lc_A) (s : Nat → Nat) (co : lc_A) (nt : Nat → Bool) (ho he : lc_A) : Prop :=
  lc_Lay s nu fo md ∧ lc_CW s nu fw ho (fun z => nI (lc_cn s (lc_od nu fe ho M len 0) z)) ∧ (∀ c, c < 48 → 0 < s c → co c = fw c) ∧ lc_Val s nu ho ∧ lc_Stk s nu fp ht ∧ lc_Log s nu nt fe len M he
/-- at the start -/
theorem sim_0 (fo fw fp fe nu co ho he : lc_A) (M : Nat → lc_A) (nt : Nat → Bool) (h : ∀ i, fo i = 0) : lc_Sim fo fw 0 fp 0 fe M 0 nu (fun _ => 0) co nt ho he := by
  exact ⟨⟨fun c _ hs => absurd hs (Nat.lt_irrefl 0), fun c _ hs => absurd hs (Nat.lt_irrefl 0), fun i _ h0 => absurd (h i) h0, fun c _ hs => absurd hs (Nat.lt_irrefl 0), fun c d _ _ hs => absurd hs (Nat.lt_irrefl 0), by omega⟩, fun c _ hs => absurd hs (Nat.lt_irrefl 0), fun c _ hs => absurd hs (Nat.lt_irrefl 0), fun c _ hs => absurd hs (Nat.lt_irrefl 0), ⟨by omega, fun j hj => by omega⟩, by omega, fun k hk => by omega, fun j k hj => by omega, fun c _ hs => absurd hs (Nat.lt_irrefl 0), fun k c hk => by omega⟩
theorem sim_reckon (h : lc_Sim fo fw md fp ht fe M len nu s co nt ho he) :
    lc_Sim (lc_bu fo fw fp ht fe M len).1 (lc_bu fo fw fp ht fe M len).2.1 md fp ht fe M 0 nu (lm_st nu ho fp ht 50 s co nt).1 (lm_st nu ho fp ht 50 s co nt).2.1 (lm_st nu ho fp ht 50 s co nt).2.2 ho he ∧
    lc_sub (lm_st nu ho fp ht 50 s co nt).1 s ∧ lc_ct (fun c => decide (0 < s c)) 48 = lc_ct (fun c => decide (0 < (lm_st nu ho fp ht 50 s co nt).1 c)) 48 + (lc_bu fo fw fp ht fe M len).2.2 := by
  obtain ⟨hL, hW, hC, hV, hS, hG⟩ := h
  have hFI : lc_FI s nu fo (lc_cl fo fe M fw len) ho fp md ht := ⟨hL, cw_all hL hG.2.1 hG.2.2.1 hW, hV, hS⟩
  obtain ⟨s', q1, q2, q3, q4, q5⟩ := class_free 48 s fo _ hFI (lc_ct_le 48)
  obtain ⟨m1, m2, m3, m4, m5⟩ := model_free (nu := nu) (ho := ho) (fp := fp) (ht := ht) 50 s co nt (fun d hd => lay_4 hL hd) (by have := lc_ct_le (p := fun c => decide (0 < s c)) 48; omega)
  have e : s' = (lm_st nu ho fp ht 50 s co nt).1 := sub_eq q2 m1 (fun c hc z => m5 s' q2 q3 c hc z) (fun c hc z => q5 _ m1 m2 c hc z)
  rw [← e] at m1 m2 m4 m5 ⊢
  refine ⟨⟨q1.1, ?_, ?_, q1.2.2.1, q1.2.2.2, ?_⟩, q2, q4⟩
  · exact q1.2.1
  · intro c hc hs
    rw [m4 c hc hs]
    exact ((q1.2.1 c hc hs).1).symm
  · refine ⟨by omega, fun k hk => by omega, fun j k hj => by omega, fun c hc _ => ?_, fun k c hk => by omega⟩
    rw [m3 c hc]
    rfl
theorem od_rf (h : lc_Sim fo fw md fp ht fe M len nu s co nt ho he) {d j : Nat} (hd : d < 48) (hj : j < s d) : lc_rf s nu (lc_od nu fe ho M len 0 d j) := by
  obtain ⟨hL, hW, hC, hV, hS, hG⟩ := h
  cases e : lc_ff (fun i => decide (fe i = nu d)) len 0 with
  | none => simp only [lc_od, e]; exact hV d hd (by omega) j hj
  | some i =>
    simp only [lc_od, e, Nat.not_lt_zero, if_false]
    obtain ⟨-, a2, a3, -⟩ := lc_ff_spec len 0 i e
    simp only [decide_eq_true_eq] at a3
    exact (hG.2.2.2.2 i d (by omega) hd (by omega) a3.symm j hj).2
theorem al_le (h : lc_Lay s nu fo md) {x : Int32} (hx : lc_rf s nu x) : x ≠ nI (md + 1) := by
  have hm := h.2.2.2.2.2
  rcases hx with rfl | ⟨c, hc, hs, rfl⟩
  · exact fun q => nI_ne0 (n := md + 1) (by omega) (by omega) q.symm
  · obtain ⟨n, a1, a2, a3⟩ := h.2.2.2.1 c hc hs
    rw [a3]
    exact fun q => by have := (nI_eq (by omega) (by omega)).mp q; omega
theorem sim_make (h : lc_Sim fo fw md fp ht fe M len nu s co nt ho he) {a n : Nat} (hn : 1 ≤ n) (hn4 : n ≤ 4) (ha : a + (n + 1) ≤ 48) (hz : ∀ k, a ≤ k → k < a + (n + 1) → fo k = 0) (hmd : md < 512) (hht : ht < 8) :
    lc_Sim (lc_fill fo a (n + 1) (nI (md + 1))) (lc_fill fw a (n + 1) 0) (md + 1) (upd fp ht (nI (md + 1))) (ht + 1) fe M len (upd nu a (nI (md + 1))) (va_up s a n) (upd co a 0) (va_up nt a false) (lc_fill ho (a + 1) n 0) he := by
  have hrf := @od_rf s nu fo fw ho fp fe co he nt M md ht len h
  obtain ⟨hL, hW, hC, hV, hS, hG⟩ := h
  obtain ⟨h1, h2, h3, h4, h5, h6⟩ := id hL
  have F0 : ∀ c, c < 48 → 0 < s c → ∀ k, k ≤ s c → ¬ (a ≤ c + k ∧ c + k < a + (n + 1)) := by
    intro c hc hs k hk q
    have e := h2 c hc hs k hk
    rw [hz _ q.1 q.2] at e
    exact lay_ne0 hL hc hs e.symm
  have F1 : ∀ i, a ≤ i → i < a + (n + 1) → s i = 0 := by
    intro i i1 i2
    by_cases e : 0 < s i
    · exact absurd ⟨by omega, by omega⟩ (F0 i (by omega) e 0 (by omega))
    · omega
  have Fa : ∀ c, 0 < va_up s a n c → c = a ∨ (c ≠ a ∧ 0 < s c ∧ va_up s a n c = s c) := by
    intro c hs
    by_cases e : c = a
    · exact Or.inl e
    · rw [va_up_ne s n e] at hs
      exact Or.inr ⟨e, hs, va_up_ne s n e⟩
  have Fo : ∀ c, c < 48 → 0 < s c → c ≠ a := fun c hc hs q => by
    have := F1 c (by omega) (by omega)
    omega
  have al1 : ∀ x, lc_al s nu x → lc_al (va_up s a n) (upd nu a (nI (md + 1))) x := by
    rintro x ⟨c, hc, hs, e⟩
    have hne := Fo c hc hs
    exact ⟨c, hc, by rw [va_up_ne s n hne]; exact hs, by rw [pk_un hne]; exact e⟩
  have rf1 : ∀ x, lc_rf s nu x → lc_rf (va_up s a n) (upd nu a (nI (md + 1))) x := fun x hx => hx.elim Or.inl (fun q => Or.inr (al1 x q))
  have hnf : ∀ i, i < len → fe i ≠ nI (md + 1) := fun i hi => al_le hL (Or.inr (hG.2.1 i hi))
  have hff : lc_ff (fun i => decide (fe i = nI (md + 1))) len 0 = none := lc_ff_none len 0 (fun k _ hk => by simp only [decide_eq_false_iff_not]; exact hnf k (by omega))
  have hod : ∀ d j, d < 48 → d ≠ a → j < s d → lc_od (upd nu a (nI (md + 1))) fe (lc_fill ho (a + 1) n 0) M len 0 d j = lc_od nu fe ho M len 0 d j := by
    intro d j hd hne hj
    have e1 : lc_fill ho (a + 1) n 0 (d + 1 + j) = ho (d + 1 + j) := by
      unfold lc_fill
      rw [if_neg]
      intro q
      exact F0 d hd (by omega) (j + 1) (by omega) ⟨by omega, by omega⟩
    unfold lc_od
    rw [pk_un hne]
    simp only [e1]
  have hcn : ∀ x, x ≠ 0 → lc_cn (va_up s a n) (lc_od (upd nu a (nI (md + 1))) fe (lc_fill ho (a + 1) n 0) M len 0) x = lc_cn s (lc_od nu fe ho M len 0) x := by
    intro x hx
    refine lc_sm_ext 48 (fun d hd => ?_)
    by_cases e : d = a
    · subst e
      rw [va_up_self, F1 d (by omega) (by omega)]
      show _ = 0
      refine lc_ct_none n (fun j hj => ?_)
      simp only [decide_eq_false_iff_not, lc_od, pk_us, hff, lc_fill]
      rw [if_pos (by omega)]
      exact fun q => hx q.symm
    · rw [va_up_ne s n e]
      refine lc_ct_ext (s d) (fun j hj => ?_)
      rw [hod d j hd e hj]
  have hcn0 : lc_cn s (lc_od nu fe ho M len 0) (nI (md + 1)) = 0 := by
    refine (Nat.le_zero.mp ?_)
    refine Nat.le_trans (lc_sm_le (b := 0) 48 (fun d hd => ?_)) (by omega)
    refine Nat.le_of_eq (lc_ct_none (s d) (fun j hj => ?_))
    simp only [decide_eq_false_iff_not]
    exact al_le hL (hrf hd hj)
  have hne1 : nI (md + 1) ≠ 0 := nI_ne0 (by omega) (by omega)
  refine ⟨⟨fun c hc hs => ?_, fun c hc hs k hk => ?_, fun i hi h0 => ?_, fun c hc hs => ?_, fun c d hc hd hs hsd e => ?_, by omega⟩, fun c hc hs => ?_, fun c hc hs => ?_, fun c hc hs k hk => ?_, ⟨by omega, fun j hj => ?_⟩, hG.1, fun k hk => al1 _ (hG.2.1 k hk), hG.2.2.1, fun c hc hs => ?_, fun k c hk hc hs e j hj => ?_⟩
  · rcases Fa c hs with e | ⟨e, e2, e3⟩
    · subst e
      rw [va_up_self]
      refine ⟨hn4, by omega, fun k hk => ?_⟩
      rw [va_up_ne s n (by omega)]
      exact F1 _ (by omega) (by omega)
    · rw [e3]
      obtain ⟨q1, q2, q3⟩ := h1 c hc e2
      refine ⟨q1, q2, fun k hk => ?_⟩
      have : c + 1 + k ≠ a := fun q => F0 c hc e2 (k + 1) (by omega) ⟨by omega, by omega⟩
      rw [va_up_ne s n this]
      exact q3 k hk
  · rcases Fa c hs with e | ⟨e, e2, e3⟩
    · subst e
      rw [va_up_self] at hk
      unfold lc_fill
      rw [if_pos (by omega), pk_us]
    · rw [e3] at hk
      unfold lc_fill
      rw [if_neg (F0 c hc e2 k hk), pk_un e]
      exact h2 c hc e2 k hk
  · unfold lc_fill at h0
    by_cases q : a ≤ i ∧ i < a + (n + 1)
    · exact ⟨a, q.1, by rw [va_up_self]; omega, by rw [va_up_self]; omega⟩
    · rw [if_neg q] at h0
      obtain ⟨c, c1, c2, c3⟩ := h3 i hi h0
      have hne := Fo c (by omega) c2
      exact ⟨c, c1, by rw [va_up_ne s n hne]; exact c2, by rw [va_up_ne s n hne]; exact c3⟩
  · rcases Fa c hs with e | ⟨e, e2, e3⟩
    · subst e
      exact ⟨md + 1, by omega, by omega, pk_us⟩
    · obtain ⟨k, k1, k2, k3⟩ := h4 c hc e2
      exact ⟨k, k1, by omega, by rw [pk_un e]; exact k3⟩
  · rcases Fa c hs with e1 | ⟨e1, e2, e3⟩ <;> rcases Fa d hsd with f1 | ⟨f1, f2, f3⟩
    · omega
    · subst e1
      rw [pk_us, pk_un f1] at e
      exact absurd e.symm (al_le hL (Or.inr ⟨d, hd, f2, rfl⟩))
    · subst f1
      rw [pk_us, pk_un e1] at e
      exact absurd e (al_le hL (Or.inr ⟨c, hc, e2, rfl⟩))
    · rw [pk_un e1, pk_un f1] at e
      exact h5 c d hc hd e2 f2 e
  · rcases Fa c hs with e | ⟨e, e2, e3⟩
    · subst e
      rw [pk_us]
      refine ⟨?_, fun k hk => ?_⟩
      · show _ = nI (lc_cn _ _ _)
        rw [hcn _ hne1, hcn0, nI_0]
        unfold lc_fill
        rw [if_pos (by omega)]
      · rw [va_up_self] at hk
        unfold lc_fill
        rw [if_pos (by omega), if_pos (by omega)]
    · rw [e3]
      obtain ⟨q1, q2⟩ := hW c hc e2
      rw [pk_un e]
      refine ⟨?_, fun k hk => ?_⟩
      · show _ = nI (lc_cn _ _ _)
        rw [hcn _ (lay_ne0 hL hc e2)]
        refine Eq.trans ?_ q1
        unfold lc_fill
        rw [if_neg]
        intro q
        exact F0 c hc e2 0 (by omega) ⟨by omega, by omega⟩
      · have hno := F0 c hc e2 (k + 1) (by omega)
        unfold lc_fill
        rw [if_neg (by omega), if_neg (by omega)]
        exact q2 k hk
  · rcases Fa c hs with e | ⟨e, e2, e3⟩
    · subst e
      unfold lc_fill
      rw [pk_us, if_pos (by omega)]
    · rw [pk_un e, hC c hc e2]
      unfold lc_fill
      rw [if_neg]
      intro q
      exact F0 c hc e2 0 (by omega) ⟨by omega, by omega⟩
  · rcases Fa c hs with e | ⟨e, e2, e3⟩
    · subst e
      rw [va_up_self] at hk
      refine Or.inl ?_
      unfold lc_fill
      rw [if_pos (by omega)]
    · rw [e3] at hk
      have hno := F0 c hc e2 (k + 1) (by omega)
      unfold lc_fill
      rw [if_neg (by omega)]
      exact rf1 _ (hV c hc e2 k hk)
  · by_cases e : j = ht
    · subst e
      rw [pk_us]
      exact Or.inr ⟨a, by omega, by rw [va_up_self]; omega, pk_us⟩
    · rw [pk_un e]
      exact rf1 _ (hS.2 j (by omega))
  · rcases Fa c hs with e | ⟨e, e2, e3⟩
    · subst e
      rw [va_up_self, pk_us]
      exact (lc_an_false len (fun i hi => by simp only [decide_eq_false_iff_not]; exact hnf i hi)).symm
    · rw [va_up_ne nt false e, pk_un e]
      exact hG.2.2.2.1 c hc e2
  · rcases Fa c hs with e1 | ⟨e1, e2, e3⟩
    · subst e1
      rw [pk_us] at e
      exact absurd e.symm (hnf k hk)
    · rw [e3] at hj
      rw [pk_un e1] at e
      obtain ⟨q1, q2⟩ := hG.2.2.2.2 k c hk hc e2 e j hj
      exact ⟨q1, rf1 _ q2⟩
theorem sim_push (h : lc_Sim fo fw md fp ht fe M len nu s co nt ho he) {x : Int32} (hx : lc_rf s nu x) (hht : ht < 8) : lc_Sim fo fw md (upd fp ht x) (ht + 1) fe M len nu s co nt ho he := by
  obtain ⟨hL, hW, hC, hV, hS, hG⟩ := h
  refine ⟨hL, hW, hC, hV, ⟨by omega, fun j hj => ?_⟩, hG⟩
  by_cases e : j = ht
  · subst e; rw [pk_us]; exact hx
  · rw [pk_un e]; exact hS.2 j (by omega)
theorem sim_pop (h : lc_Sim fo fw md fp (ht + 1) fe M len nu s co nt ho he) : lc_Sim fo fw md fp ht fe M len nu s co nt ho he := by
  obtain ⟨hL, hW, hC, hV, hS, hG⟩ := h
  exact ⟨hL, hW, hC, hV, ⟨by have := hS.1; omega, fun j hj => hS.2 j (by omega)⟩, hG⟩
theorem lc_on_ff {x : Int32} {len : Nat} {fe : lc_A} (h : lc_on fe len x = true) : ∃ k, lc_ff (fun i => decide (fe i = x)) len 0 = some k := by
  cases e : lc_ff (fun i => decide (fe i = x)) len 0 with
  | some k => exact ⟨k, rfl⟩
  | none =>
    obtain ⟨i, hi, h2⟩ := lc_an_spec len h
    have := lc_ff_nspec len 0 e i (Nat.zero_le _) (by omega)
    rw [this] at h2
    cases h2
theorem lc_off_ff {x : Int32} {len : Nat} {fe : lc_A} (h : lc_on fe len x = false) : lc_ff (fun i => decide (fe i = x)) len 0 = none :=
  lc_ff_none len 0 (fun k _ hk => lc_an_nspec len h k (by omega))
/-- a cell of a slot belongs to one object alone -/
theorem lay_slot (h : lc_Lay s nu fo md) {a j c k : Nat} (ha : a < 48) (hsa : 0 < s a) (hj : j < s a) (hc : c < 48) (hs : 0 < s c) (hk : k < s c) (e : c + 1 + k = a + 1 + j) : c = a ∧ k = j := by
  have e1 := h.2.1 a ha hsa (j + 1) (by omega)
  have e2 := h.2.1 c hc hs (k + 1) (by omega)
  rw [show a + (j + 1) = c + (k + 1) by omega, e2] at e1
  have := lay_inj h hc ha hs hsa e1
  omega
theorem sim_set (h : lc_Sim fo fw md fp ht fe M len nu s co nt ho he) {a j : Nat} {x : Int32} (ha : a < 48) (hsa : 0 < s a) (hj : j < s a) (hon : lc_on fe len (nu a) = true) (hx : lc_rf s nu x) :
    lc_Sim fo (upd fw (a + 1 + j) x) md fp ht fe M len nu s co nt (upd ho (a + 1 + j) x) he := by
  obtain ⟨hL, hW, hC, hV, hS, hG⟩ := h
  have hz : s (a + 1 + j) = 0 := (hL.1 a ha hsa).2.2 j hj
  have hne : ∀ c, 0 < s c → c ≠ a + 1 + j := fun c hs q => by rw [q] at hs; omega
  obtain ⟨k0, hk0⟩ := lc_on_ff hon
  have hod : ∀ d i, d < 48 → i < s d → lc_od nu fe (upd ho (a + 1 + j) x) M len 0 d i = lc_od nu fe ho M len 0 d i := by
    intro d i hd hi
    by_cases e : d = a
    · subst e
      simp only [lc_od, hk0, Nat.not_lt_zero, if_false]
    · have : d + 1 + i ≠ a + 1 + j := fun q => e (lay_slot hL ha hsa hj hd (by omega) hi q).1
      unfold lc_od
      rw [pk_un this]
  refine ⟨hL, fun c hc hs => ?_, fun c hc hs => ?_, fun c hc hs k hk => ?_, hS, hG⟩
  · obtain ⟨q1, q2⟩ := hW c hc hs
    refine ⟨?_, fun k hk => ?_⟩
    · rw [pk_un (hne c hs)]
      exact q1.trans (congrArg nI (lc_cn_ext hod).symm)
    · by_cases e : c + 1 + k = a + 1 + j
      · rw [e, pk_us, pk_us]
      · rw [pk_un e, pk_un e]; exact q2 k hk
  · rw [pk_un (hne c hs)]; exact hC c hc hs
  · by_cases e : c + 1 + k = a + 1 + j
    · rw [e, pk_us]; exact hx
    · rw [pk_un e]; exact hV c hc hs k hk
theorem sim_note (h : lc_Sim fo fw md fp ht fe M len nu s co nt ho he) {a : Nat} (ha : a < 48) (hsa : 0 < s a) (hlen : len < 5) (hoff : lc_on fe len (nu a) = false) :
    lc_Sim fo fw md fp ht (upd fe len (nu a)) (va_up M len (lc_nr fw a (M len) (s a))) (len + 1) nu s co (va_up nt a true) ho (lm_nr s ho a len he 4) := by
  obtain ⟨hL, hW, hC, hV, hS, hG⟩ := h
  have hno : ∀ i, i < len → fe i ≠ nu a := fun i hi => by
    have := lc_an_nspec len hoff i hi
    simpa using this
  have ffN : ∀ x, x ≠ nu a → lc_ff (fun i => decide (upd fe len (nu a) i = x)) (len + 1) 0 = lc_ff (fun i => decide (fe i = x)) len 0 := by
    intro x hx
    cases e : lc_ff (fun i => decide (fe i = x)) len 0 with
    | none =>
      refine lc_ff_none (len + 1) 0 (fun k _ hk => ?_)
      simp only [decide_eq_false_iff_not]
      by_cases ek : k = len
      · subst ek; rw [pk_us]; exact fun q => hx q.symm
      · rw [pk_un ek]
        have := lc_ff_nspec len 0 e k (Nat.zero_le _) (by omega)
        simpa using this
    | some i =>
      obtain ⟨-, a2, a3, a4⟩ := lc_ff_spec len 0 i e
      refine lc_ff_some (len + 1) 0 i (Nat.zero_le _) (by omega) ?_ (fun j hj1 hj2 => ?_)
      · simp only [decide_eq_true_eq] at a3 ⊢
        rw [pk_un (by omega)]; exact a3
      · have := a4 j hj1 hj2
        simp only [decide_eq_false_iff_not] at this ⊢
        rw [pk_un (by omega)]; exact this
  have ffA : lc_ff (fun i => decide (upd fe len (nu a) i = nu a)) (len + 1) 0 = some len := by
    refine lc_ff_some (len + 1) 0 len (Nat.zero_le _) (by omega) (by simp [pk_us]) (fun j _ hj => ?_)
    simp only [decide_eq_false_iff_not]
    rw [pk_un (by omega)]
    exact hno j hj
  have onN : ∀ x, x ≠ nu a → lc_on (upd fe len (nu a)) (len + 1) x = lc_on fe len x := by
    intro x hx
    cases e : lc_on fe len x with
    | false =>
      refine lc_an_false (len + 1) (fun i hi => ?_)
      simp only [decide_eq_false_iff_not]
      by_cases ei : i = len
      · subst ei; rw [pk_us]; exact fun q => hx q.symm
      · rw [pk_un ei]
        have := lc_an_nspec len e i (by omega)
        simpa using this
    | true =>
      obtain ⟨i, hi, h2⟩ := lc_an_spec len e
      refine lc_an_true (len + 1) i (by omega) ?_
      simp only [decide_eq_true_eq] at h2 ⊢
      rw [pk_un (by omega)]; exact h2
  have hod : ∀ d j, d < 48 → j < s d → lc_od nu (upd fe len (nu a)) ho (va_up M len (lc_nr fw a (M len) (s a))) (len + 1) 0 d j = lc_od nu fe ho M len 0 d j := by
    intro d j hd hj
    by_cases e : d = a
    · subst e
      simp only [lc_od, ffA, lc_off_ff hoff, Nat.not_lt_zero, if_false, va_up_self, lc_nr, if_pos hj]
      exact (hW d hd (by omega)).2 j hj
    · have hne : nu d ≠ nu a := fun q => e (lay_inj hL hd ha (by omega) hsa q)
      unfold lc_od
      rw [ffN _ hne]
      cases e2 : lc_ff (fun i => decide (fe i = nu d)) len 0 with
      | none => rfl
      | some i =>
        obtain ⟨-, a2, -, -⟩ := lc_ff_spec len 0 i e2
        simp only [Nat.not_lt_zero, if_false]
        rw [va_up_ne M _ (by omega)]
  refine ⟨hL, ?_, hC, hV, hS, by omega, fun k hk => ?_, fun j k hj hk e => ?_, fun c hc hs => ?_, fun k c hk hc hs e j hj => ?_⟩
  · exact hW.to (fun c hc hs => congrArg nI (lc_cn_ext hod).symm)
  · by_cases e : k = len
    · subst e; rw [pk_us]; exact ⟨a, ha, hsa, rfl⟩
    · rw [pk_un e]; exact hG.2.1 k (by omega)
  · by_cases e1 : j = len <;> by_cases e2 : k = len
    · omega
    · subst e1
      rw [pk_us, pk_un e2] at e
      exact absurd e.symm (hno k (by omega))
    · subst e2
      rw [pk_us, pk_un e1] at e
      exact absurd e (hno j (by omega))
    · rw [pk_un e1, pk_un e2] at e
      exact hG.2.2.1 j k (by omega) (by omega) e
  · by_cases e : c = a
    · subst e
      rw [va_up_self]
      exact (lc_an_true (len + 1) len (by omega) (by simp [pk_us])).symm
    · have hne : nu c ≠ nu a := fun q => e (lay_inj hL hc ha hs hsa q)
      rw [va_up_ne nt true e, onN _ hne]
      exact hG.2.2.2.1 c hc hs
  · by_cases e1 : k = len
    · subst e1
      rw [pk_us] at e
      have : c = a := lay_inj hL hc ha hs hsa e
      subst this
      have h4 := (hL.1 c hc hs).1
      have hw := (hW c hc hs).2 j hj
      rw [va_up_self]
      simp only [lc_nr, lm_nr, if_pos hj]
      rw [if_pos (by omega), show 4 * k + j - 4 * k = j by omega, if_pos hj, hw]
      exact ⟨rfl, hV c hc hs j hj⟩
    · rw [pk_un e1] at e
      obtain ⟨q1, q2⟩ := hG.2.2.2.2 k c (by omega) hc hs e j hj
      have h4 := (hL.1 c hc hs).1
      rw [va_up_ne M _ e1]
      refine ⟨?_, q2⟩
      rw [q1]
      unfold lm_nr
      rw [if_neg (by omega)]
end SIM
end
section
section STEP
/-- class and reference, as two tuples -/
def lc_SimT (q : lc_CS) (g : lc_MS) : Prop := match q, g with
  | (fo, fw, md, fp, ht, fe, M, len, rk), (nu, s, co, nt, ho, md', ht', fp', en, wh, he, rn) => lc_Sim fo fw md fp ht fe M len nu s co nt ho he ∧ md' = md ∧ ht' = ht ∧ fp' = fp ∧ en = len ∧ wh = fe ∧ rn = rk
variable {s : Nat → Nat} {nu fo fw ho fp fe co he : lc_A} {nt : Nat → Bool} {M : Nat → lc_A} {md ht len : Nat} {rk : Int32}
theorem step_make (h : lc_Sim fo fw md fp ht fe M len nu s co nt ho he) (hmd : md < 512) (x : Int32) :
    (lx_make fo fw md fp ht fe M len rk x).1 = (lm_make nu s co nt ho md ht fp len fe he rk x).1 ∧ lc_SimT (lx_make fo fw md fp ht fe M len rk x).2 (lm_make nu s co nt ho md ht fp len fe he rk x).2 ∧ (lx_make fo fw md fp ht fe M len rk x).2.2.2.1 ≤ md + 1 := by
  have hht : ht ≤ 8 := h.2.2.2.2.1.1
  cases e : lc_14 x with
  | none =>
    simp only [lx_make, lm_make, e]
    exact ⟨(by trivial), ⟨h, (by trivial), (by trivial), (by trivial), (by trivial), (by trivial), (by trivial)⟩, by omega⟩
  | some n =>
    obtain ⟨n1, n4, -⟩ := lc_14_spec e
    by_cases e8 : ht = 8
    · simp only [lx_make, lm_make, e, if_pos e8]
      exact ⟨(by trivial), ⟨h, (by trivial), (by trivial), (by trivial), (by trivial), (by trivial), (by trivial)⟩, by omega⟩
    · have er := lay_room h.1 (n := n + 1) (by omega)
      cases r1 : lc_room fo (n + 1) with
      | some a =>
        rw [r1] at er
        simp only [lx_make, lm_make, e, if_neg e8, r1, ← er]
        obtain ⟨z1, z2⟩ := lc_room_spec (by omega) r1
        exact ⟨(by trivial), ⟨sim_make h n1 n4 z1 z2 hmd (by omega), (by trivial), (by trivial), (by trivial), (by trivial), (by trivial), (by trivial)⟩, Nat.le_refl _⟩
      | none =>
        rw [r1] at er
        obtain ⟨h2, -, -⟩ := sim_reckon h
        have er2 := lay_room h2.1 (n := n + 1) (by omega)
        cases r2 : lc_room (lc_bu fo fw fp ht fe M len).1 (n + 1) with
        | some a =>
          rw [r2] at er2
          simp only [lx_make, lm_make, e, if_neg e8, r1, r2, ← er, ← er2]
          obtain ⟨z1, z2⟩ := lc_room_spec (by omega) r2
          exact ⟨(by trivial), ⟨sim_make h2 n1 n4 z1 z2 hmd (by omega), (by trivial), (by trivial), (by trivial), (by trivial), (by trivial), (by trivial)⟩, Nat.le_refl _⟩
        | none =>
          rw [r2] at er2
          simp only [lx_make, lm_make, e, if_neg e8, r1, r2, ← er, ← er2]
          exact ⟨(by trivial), ⟨h2, (by trivial), (by trivial), (by trivial), (by trivial), (by trivial), (by trivial)⟩, by show md ≤ md + 1; omega⟩
theorem step_copy (h : lc_Sim fo fw md fp ht fe M len nu s co nt ho he) (x : Int32) : lc_Sim fo fw md (lx_copy fp ht x).2.1 (lx_copy fp ht x).2.2 fe M len nu s co nt ho he := by
  have hht : ht ≤ 8 := h.2.2.2.2.1.1
  cases e : lc_pl x ht with
  | none => simp only [lx_copy, e]; exact h
  | some j =>
    by_cases e8 : ht = 8
    · simp only [lx_copy, e, if_pos e8]; exact h
    · simp only [lx_copy, e, if_neg e8]
      exact sim_push h (h.2.2.2.2.1.2 j (lc_pl_spec (by omega) e).1) (by omega)
theorem rf_pos (h : lc_Lay s nu fo md) {x : Int32} (hx : lc_rf s nu x) : (¬ 0 < x ∧ x = 0 ∧ lc_first fo x = none) ∨ (0 < x ∧ ∃ a, a < 48 ∧ 0 < s a ∧ nu a = x ∧ lc_first fo x = some a ∧ lm_find nu s x = some a) := by
  rcases hx with rfl | ⟨a, ha, hs, rfl⟩
  · exact Or.inl ⟨by decide, rfl, by simp [lc_first]⟩
  · refine Or.inr ⟨?_, a, ha, hs, rfl, lay_first h ha hs, lay_fnd h ha hs⟩
    obtain ⟨n, n1, n2, n3⟩ := h.2.2.2.1 a ha hs
    rw [n3, ← nI_0]
    have := h.2.2.2.2.2
    exact nI_lt (by omega) (by omega)
/-- the slot that is meant: both find the same -/
theorem slotc_eq (h : lc_Sim fo fw md fp ht fe M len nu s co nt ho he) (x z : Int32) :
    (lm_slotc nu s fp ht x z = none ∧ (lc_fca fo fp ht x = none ∨ ∃ a, lc_fca fo fp ht x = some a ∧ lc_pl z (lc_sa fo a) = none)) ∨
    ∃ a j, lm_slotc nu s fp ht x z = some (a, j) ∧ lc_fca fo fp ht x = some a ∧ lc_pl z (lc_sa fo a) = some j ∧ a < 48 ∧ 0 < s a ∧ j < s a ∧ lc_sa fo a = s a ∧ ∃ k, k < ht ∧ fp k = nu a := by
  have hht : ht ≤ 8 := h.2.2.2.2.1.1
  cases e : lc_pl x ht with
  | none => exact Or.inl ⟨by simp only [lm_slotc, e], Or.inl (by simp only [lc_fca, e])⟩
  | some k =>
    have hk := (lc_pl_spec (by omega) e).1
    rcases rf_pos h.1 (h.2.2.2.2.1.2 k hk) with ⟨q1, q2, q3⟩ | ⟨q1, a, ha, hs, q4, q5, q6⟩
    · exact Or.inl ⟨by simp only [lm_slotc, e, if_neg q1], Or.inl (by simp only [lc_fca, e, q3])⟩
    · have esa := lay_sa h.1 ha hs
      cases e2 : lc_pl z (s a) with
      | none => exact Or.inl ⟨by simp only [lm_slotc, e, if_pos q1, q6, e2], Or.inr ⟨a, by simp only [lc_fca, e, q5], by rw [esa]; exact e2⟩⟩
      | some j =>
        have hj := (lc_pl_spec (by have := lay_4 h.1 ha; omega) e2).1
        exact Or.inr ⟨a, j, by simp only [lm_slotc, e, if_pos q1, q6, e2], by simp only [lc_fca, e, q5], by rw [esa]; exact e2, ha, hs, hj, esa, k, hk, q4.symm⟩
theorem step_load (h : lc_Sim fo fw md fp ht fe M len nu s co nt ho he) (x z : Int32) : lx_load fo fw fp ht x z = lm_load nu s ho fp ht x z ∧ lc_Sim fo fw md (lx_load fo fw fp ht x z).2.1 (lx_load fo fw fp ht x z).2.2 fe M len nu s co nt ho he := by
  have hht : ht ≤ 8 := h.2.2.2.2.1.1
  rcases slotc_eq h x z with ⟨q1, q2 | ⟨a, q2, q3⟩⟩ | ⟨a, j, q1, q2, q3, ha, hs, hj, esa, -⟩
  · simp only [lx_load, lm_load, q1, q2]
    exact ⟨(by trivial), h⟩
  · simp only [lx_load, lm_load, q1, q2, q3]
    exact ⟨(by trivial), h⟩
  · have ew := (h.2.1 a ha hs).2 j hj
    by_cases e8 : ht = 8
    · simp only [lx_load, lm_load, q1, q2, q3, if_pos e8]
      exact ⟨(by trivial), h⟩
    · simp only [lx_load, lm_load, q1, q2, q3, if_neg e8, ew]
      exact ⟨(by trivial), sim_push h (h.2.2.2.1 a ha hs j hj) (by omega)⟩
theorem fr0_rf (h : lc_Sim fo fw md fp ht fe M len nu s co nt ho he) {y v : Int32} (e : lc_fr0 fp ht y = some v) : v = 0 ∨ ∃ k, k < ht ∧ fp k = v := by
  have hht : ht ≤ 8 := h.2.2.2.2.1.1
  unfold lc_fr0 at e
  by_cases q : y = -1
  · rw [if_pos q] at e
    cases e
    exact Or.inl rfl
  · rw [if_neg q] at e
    cases e2 : lc_pl y ht with
    | none => rw [e2] at e; cases e
    | some j =>
      rw [e2] at e
      cases e
      exact Or.inr ⟨j, (lc_pl_spec (by omega) e2).1, rfl⟩
theorem step_note (h : lc_Sim fo fw md fp ht fe M len nu s co nt ho he) {a : Nat} (ha : a < 48) (hs : 0 < s a) (hst : ∃ k, k < ht ∧ fp k = nu a) :
    lc_SimT (lx_note fo fw md fp ht fe M len rk a) (lm_note nu s co nt ho md ht fp len fe he rk a) ∧ (lx_note fo fw md fp ht fe M len rk a).1 a = nu a ∧ (lm_note nu s co nt ho md ht fp len fe he rk a).2.1 a = s a ∧ (lm_note nu s co nt ho md ht fp len fe he rk a).1 = nu ∧
      lc_on (lx_note fo fw md fp ht fe M len rk a).2.2.2.2.2.1 (lx_note fo fw md fp ht fe M len rk a).2.2.2.2.2.2.2.1 (nu a) = true ∧ (lx_note fo fw md fp ht fe M len rk a).2.2.2.1 = fp ∧ (lx_note fo fw md fp ht fe M len rk a).2.2.2.2.1 = ht ∧ (lx_note fo fw md fp ht fe M len rk a).2.2.1 = md := by
  have e0 := lay_0 h.1 ha hs
  have ent := h.2.2.2.2.2.2.2.2.1 a ha hs
  have hlen := h.2.2.2.2.2.1
  by_cases e1 : lc_on fe len (nu a) = true
  · rw [e1] at ent
    simp only [lx_note, lm_note, e0, if_pos e1, if_pos ent]
    exact ⟨⟨h, (by trivial), (by trivial), (by trivial), (by trivial), (by trivial), (by trivial)⟩, (by trivial), (by trivial), (by trivial), e1, (by trivial), (by trivial), (by trivial)⟩
  · have e1' : lc_on fe len (nu a) = false := by simpa using e1
    have ent' : ¬ nt a = true := by rw [ent, e1']; decide
    by_cases e5 : len = 5
    · obtain ⟨h2, hsub, -⟩ := sim_reckon h
      have hsa : (lm_st nu ho fp ht 50 s co nt).1 a = s a := by
        obtain ⟨k, hk, ek⟩ := hst
        rcases hsub.1 a with z | z
        · exact z
        · exfalso
          rcases h2.2.2.2.2.1.2 k hk with q | ⟨c, hc, hsc, q⟩
          · rw [ek] at q; exact lay_ne0 h.1 ha hs q
          · have hs1 : 0 < s c := by rcases hsub.1 c with w | w <;> omega
            have := lay_inj h.1 hc ha hs1 hs (q.trans ek)
            subst this
            omega
      have h3 := sim_note h2 (a := a) ha (by omega) (by omega) rfl
      have e0' := lay_0 h2.1 ha (by omega)
      have esa := lay_sa h2.1 ha (by omega)
      simp only [lx_note, lm_note, e0, if_neg e1, if_neg ent', if_pos e5]
      rw [esa]
      exact ⟨⟨h3, (by trivial), (by trivial), (by trivial), (by trivial), (by trivial), (by trivial)⟩, e0', hsa, (by trivial), lc_an_true 1 0 (by omega) (by simp [pk_us]), (by trivial), (by trivial), (by trivial)⟩
    · have h3 := sim_note h (a := a) ha hs (by omega) e1'
      have esa := lay_sa h.1 ha hs
      simp only [lx_note, lm_note, e0, if_neg e1, if_neg ent', if_neg e5]
      rw [esa]
      exact ⟨⟨h3, (by trivial), (by trivial), (by trivial), (by trivial), (by trivial), (by trivial)⟩, (by trivial), (by trivial), (by trivial), lc_an_true (len + 1) len (by omega) (by simp [pk_us]), (by trivial), (by trivial), (by trivial)⟩
theorem step_store (h : lc_Sim fo fw md fp ht fe M len nu s co nt ho he) (x z y : Int32) :
    (lx_store fo fw md fp ht fe M len rk x z y).1 = (lm_store nu s co nt ho md ht fp len fe he rk x z y).1 ∧ lc_SimT (lx_store fo fw md fp ht fe M len rk x z y).2 (lm_store nu s co nt ho md ht fp len fe he rk x z y).2 ∧ (lx_store fo fw md fp ht fe M len rk x z y).2.2.2.1 = md := by
  rcases slotc_eq h x z with ⟨q1, q2 | ⟨a, q2, q3⟩⟩ | ⟨a, j, q1, q2, q3, ha, hs, hj, esa, hst⟩
  · simp only [lx_store, lm_store, q1, q2]
    exact ⟨(by trivial), ⟨h, (by trivial), (by trivial), (by trivial), (by trivial), (by trivial), (by trivial)⟩, (by trivial)⟩
  · simp only [lx_store, lm_store, q1, q2, q3]
    exact ⟨(by trivial), ⟨h, (by trivial), (by trivial), (by trivial), (by trivial), (by trivial), (by trivial)⟩, (by trivial)⟩
  · cases e : lc_fr0 fp ht y with
    | none =>
      simp only [lx_store, lm_store, q1, q2, q3, e]
      exact ⟨(by trivial), ⟨h, (by trivial), (by trivial), (by trivial), (by trivial), (by trivial), (by trivial)⟩, (by trivial)⟩
    | some v =>
      simp only [lx_store, lm_store, q1, q2, q3, e]
      obtain ⟨t1, t2, t3, t4, t5, t6, t7, t8⟩ := step_note (rk := rk) h ha hs hst
      have hv := fr0_rf h e
      generalize lx_note fo fw md fp ht fe M len rk a = q at t1 t2 t5 t6 t7 t8 ⊢
      generalize lm_note nu s co nt ho md ht fp len fe he rk a = g at t1 t3 t4 ⊢
      obtain ⟨fo1, fw1, md1, fp1, ht1, fe1, M1, len1, rk1⟩ := q
      obtain ⟨nu1, s1, co1, nt1, ho1, md2, ht2, fp2, en2, wh2, he2, rn2⟩ := g
      obtain ⟨hS, u1, u2, u3, u4, u5, u6⟩ := t1
      simp only at t2 t3 t4 t5 t6 t7 t8
      subst t4 t6 t7 t8
      refine ⟨(by trivial), ⟨sim_set hS ha (by omega) (by omega) t5 ?_, u1, u2, u3, u4, u5, u6⟩, (by trivial)⟩
      rcases hv with rfl | ⟨k, hk, rfl⟩
      · exact Or.inl rfl
      · exact hS.2.2.2.2.1.2 k hk
theorem step_drop (h : lc_Sim fo fw md fp ht fe M len nu s co nt ho he) : lc_Sim fo fw md fp (lx_drop fp ht).2 fe M len nu s co nt ho he := by
  unfold lx_drop
  by_cases e : ht = 0
  · rw [if_pos e]; exact h
  · rw [if_neg e]
    obtain ⟨k, rfl⟩ : ∃ k, ht = k + 1 := ⟨ht - 1, by omega⟩
    exact sim_pop h
theorem step_alive (h : lc_Sim fo fw md fp ht fe M len nu s co nt ho he) : lc_ct (lc_isF fo) 48 = lc_ct (fun c => decide (0 < s c)) 48 := lc_ct_ext 48 (fun c hc => lay_isF h.1 hc)
theorem step_table (h : lc_Sim fo fw md fp ht fe M len nu s co nt ho he) : lc_ct (lc_isU fo fw) 48 = lc_ct (fun c => decide (0 < s c) && decide (co c = 0)) 48 := by
  refine lc_ct_ext 48 (fun c hc => ?_)
  unfold lc_isU
  rw [lay_isF h.1 hc]
  by_cases hs : 0 < s c
  · rw [h.2.2.1 c hc hs]
  · simp [hs]
theorem step_count (h : lc_Sim fo fw md fp ht fe M len nu s co nt ho he) (x : Int32) : ax_count fo fw x = am_count nu s co x := by
  unfold ax_count am_count
  rw [lay_find h.1]
  cases e : lm_find nu s x with
  | none => rfl
  | some a =>
    obtain ⟨ha, hs, -⟩ := lay_fspec h.1 e
    exact (h.2.2.1 a ha hs).symm
theorem step_cell (h : lc_Sim fo fw md fp ht fe M len nu s co nt ho he) (x : Int32) : ax_cell fo x = am_cell nu s x := by
  unfold ax_cell am_cell
  rw [lay_find h.1]
theorem step_slot (h : lc_Sim fo fw md fp ht fe M len nu s co nt ho he) (x z : Int32) : ax_slot fo fw x z = am_slot nu s ho x z := by
  unfold ax_slot am_slot
  rw [lay_find h.1]
  cases e : lm_find nu s x with
  | none => rfl
  | some a =>
    obtain ⟨ha, hs, -⟩ := lay_fspec h.1 e
    simp only [lay_sa h.1 ha hs]
    cases e2 : lc_pl z (s a) with
    | none => rfl
    | some j => exact (h.2.1 a ha hs).2 j (lc_pl_spec (by have := lay_4 h.1 ha; omega) e2).1
theorem step_state (h : lc_Sim fo fw md fp ht fe M len nu s co nt ho he) (x : Int32) : ax_state fo fw fe len x = am_state nu s co nt x := by
  unfold ax_state am_state
  rw [lay_find h.1]
  cases e : lm_find nu s x with
  | none => rfl
  | some a =>
    obtain ⟨ha, hs, e2⟩ := lay_fspec h.1 e
    have e3 := h.2.2.2.2.2.2.2.2.1 a ha hs
    simp only [lc_isU, lay_isF h.1 ha, hs, decide_true, Bool.true_and, decide_eq_true_eq, h.2.2.1 a ha hs, e3, e2]
theorem step_entry (h : lc_Sim fo fw md fp ht fe M len nu s co nt ho he) (x z : Int32) : ax_entry fo fe M len x z = am_entry nu s fe he len x z := by
  unfold ax_entry am_entry
  have hlen := h.2.2.2.2.2.1
  cases e : lc_pl x len with
  | none => rfl
  | some k =>
    have hk := (lc_pl_spec (by omega) e).1
    obtain ⟨a, ha, hs, ea⟩ := h.2.2.2.2.2.2.1 k hk
    simp only
    by_cases q : z = -1
    · rw [if_pos q, if_pos q]
    · rw [if_neg q, if_neg q]
      have e1 : lc_sao fo (lc_first fo (fe k)) = s a := by
        rw [← ea, lay_first h.1 ha hs]
        exact lay_sa h.1 ha hs
      have e2 : am_so nu s (fe k) = s a := by
        unfold am_so
        rw [← ea, lay_fnd h.1 ha hs]
      rw [e1, e2]
      cases e3 : lc_pl z (s a) with
      | none => rfl
      | some j => exact (h.2.2.2.2.2.2.2.2.2 k a hk ha hs ea j (lc_pl_spec (by have := lay_4 h.1 ha; omega) e3).1).1
theorem step_free (h : lc_Sim fo fw md fp ht fe M len nu s co nt ho he) : nI (lc_ct (fun i => decide (fo i = 0)) 48) = nI 48 - nI (lc_sm (lc_wt s) 48) := by
  have := lay_cells h.1
  rw [pk_sub (by omega)]
  congr 1
  omega
end STEP
end
section
-- ===== PART A: goes FIRST, ahead of the names: the tables' words, and 'selects' of the private methods out of them =====
/-- a private method of a class that the tables say can be made, by its rows of tables_1 -/
def lw_okq (q : MethodName × Nat) : Prop := (q.1.cls ≠ "java/lang/invoke/MethodHandle" ∧ q.1.cls ≠ "java/lang/invoke/VarHandle") ∧ Cond.instantiable q.1.cls q.2 ∈ tables_1 ∧ Cond.privateMethod q.1 ∈ tables_1 ∧ Cond.instanceMethod q.1 ∈ tables_1
theorem lw_p0 : lw_okq (⟨"LazyCounts", "bringUpToDate", "()I"⟩, 4) := ⟨⟨by decide +kernel, by decide +kernel⟩, List.mem_of_getElem? (i := 7) (by decide +kernel), List.mem_of_getElem? (i := 88) (by decide +kernel), List.mem_of_getElem? (i := 89) (by decide +kernel)⟩
theorem lw_p1 : lw_okq (⟨"LazyCounts", "countChangesOf", "(I)V"⟩, 4) := ⟨⟨by decide +kernel, by decide +kernel⟩, List.mem_of_getElem? (i := 7) (by decide +kernel), List.mem_of_getElem? (i := 96) (by decide +kernel), List.mem_of_getElem? (i := 97) (by decide +kernel)⟩
theorem lw_p2 : lw_okq (⟨"LazyCounts", "freeUnheld", "()I"⟩, 4) := ⟨⟨by decide +kernel, by decide +kernel⟩, List.mem_of_getElem? (i := 7) (by decide +kernel), List.mem_of_getElem? (i := 129) (by decide +kernel), List.mem_of_getElem? (i := 130) (by decide +kernel)⟩
theorem lw_p3 : lw_okq (⟨"LazyCounts", "firstUnheld", "()I"⟩, 4) := ⟨⟨by decide +kernel, by decide +kernel⟩, List.mem_of_getElem? (i := 7) (by decide +kernel), List.mem_of_getElem? (i := 133) (by decide +kernel), List.mem_of_getElem? (i := 134) (by decide +kernel)⟩
theorem lw_p4 : lw_okq (⟨"LazyCounts", "firstCellAt", "(I)I"⟩, 4) := ⟨⟨by decide +kernel, by decide +kernel⟩, List.mem_of_getElem? (i := 7) (by decide +kernel), List.mem_of_getElem? (i := 184) (by decide +kernel), List.mem_of_getElem? (i := 185) (by decide +kernel)⟩
theorem lw_p5 : lw_okq (⟨"LazyCounts", "note", "(I)V"⟩, 4) := ⟨⟨by decide +kernel, by decide +kernel⟩, List.mem_of_getElem? (i := 7) (by decide +kernel), List.mem_of_getElem? (i := 196) (by decide +kernel), List.mem_of_getElem? (i := 197) (by decide +kernel)⟩
theorem lw_p6 : lw_okq (⟨"LazyCountsModel", "settle", "()V"⟩, 12) := ⟨⟨by decide +kernel, by decide +kernel⟩, List.mem_of_getElem? (i := 305) (by decide +kernel), List.mem_of_getElem? (i := 357) (by decide +kernel), List.mem_of_getElem? (i := 358) (by decide +kernel)⟩
theorem lw_p7 : lw_okq (⟨"LazyCountsModel", "recount", "()V"⟩, 12) := ⟨⟨by decide +kernel, by decide +kernel⟩, List.mem_of_getElem? (i := 305) (by decide +kernel), List.mem_of_getElem? (i := 361) (by decide +kernel), List.mem_of_getElem? (i := 362) (by decide +kernel)⟩
theorem lw_p8 : lw_okq (⟨"LazyCountsModel", "holders", "(I)I"⟩, 12) := ⟨⟨by decide +kernel, by decide +kernel⟩, List.mem_of_getElem? (i := 305) (by decide +kernel), List.mem_of_getElem? (i := 365) (by decide +kernel), List.mem_of_getElem? (i := 366) (by decide +kernel)⟩
theorem lw_p9 : lw_okq (⟨"LazyCountsModel", "round", "()I"⟩, 12) := ⟨⟨by decide +kernel, by decide +kernel⟩, List.mem_of_getElem? (i := 305) (by decide +kernel), List.mem_of_getElem? (i := 369) (by decide +kernel), List.mem_of_getElem? (i := 370) (by decide +kernel)⟩
theorem lw_p10 : lw_okq (⟨"LazyCountsModel", "onStack", "(I)Z"⟩, 12) := ⟨⟨by decide +kernel, by decide +kernel⟩, List.mem_of_getElem? (i := 305) (by decide +kernel), List.mem_of_getElem? (i := 373) (by decide +kernel), List.mem_of_getElem? (i := 374) (by decide +kernel)⟩
theorem lw_p11 : lw_okq (⟨"LazyCountsModel", "room", "(I)I"⟩, 12) := ⟨⟨by decide +kernel, by decide +kernel⟩, List.mem_of_getElem? (i := 305) (by decide +kernel), List.mem_of_getElem? (i := 384) (by decide +kernel), List.mem_of_getElem? (i := 385) (by decide +kernel)⟩
theorem lw_p12 : lw_okq (⟨"LazyCountsModel", "push", "(I)V"⟩, 12) := ⟨⟨by decide +kernel, by decide +kernel⟩, List.mem_of_getElem? (i := 305) (by decide +kernel), List.mem_of_getElem? (i := 388) (by decide +kernel), List.mem_of_getElem? (i := 389) (by decide +kernel)⟩
theorem lw_p13 : lw_okq (⟨"LazyCountsModel", "isPlace", "(I)Z"⟩, 12) := ⟨⟨by decide +kernel, by decide +kernel⟩, List.mem_of_getElem? (i := 305) (by decide +kernel), List.mem_of_getElem? (i := 396) (by decide +kernel), List.mem_of_getElem? (i := 397) (by decide +kernel)⟩
theorem lw_p14 : lw_okq (⟨"LazyCountsModel", "slotCell", "(II)I"⟩, 12) := ⟨⟨by decide +kernel, by decide +kernel⟩, List.mem_of_getElem? (i := 305) (by decide +kernel), List.mem_of_getElem? (i := 404) (by decide +kernel), List.mem_of_getElem? (i := 405) (by decide +kernel)⟩
theorem lw_p15 : lw_okq (⟨"LazyCountsModel", "find", "(I)I"⟩, 12) := ⟨⟨by decide +kernel, by decide +kernel⟩, List.mem_of_getElem? (i := 305) (by decide +kernel), List.mem_of_getElem? (i := 408) (by decide +kernel), List.mem_of_getElem? (i := 409) (by decide +kernel)⟩
def lw_privs_1 : List (MethodName × Nat) := [(⟨"LazyCounts", "bringUpToDate", "()I"⟩, 4), (⟨"LazyCounts", "countChangesOf", "(I)V"⟩, 4), (⟨"LazyCounts", "freeUnheld", "()I"⟩, 4), (⟨"LazyCounts", "firstUnheld", "()I"⟩, 4), (⟨"LazyCounts", "firstCellAt", "(I)I"⟩, 4), (⟨"LazyCounts", "note", "(I)V"⟩, 4), (⟨"LazyCountsModel", "settle", "()V"⟩, 12), (⟨"LazyCountsModel", "recount", "()V"⟩, 12), (⟨"LazyCountsModel", "holders", "(I)I"⟩, 12), (⟨"LazyCountsModel", "round", "()I"⟩, 12), (⟨"LazyCountsModel", "onStack", "(I)Z"⟩, 12), (⟨"LazyCountsModel", "room", "(I)I"⟩, 12), (⟨"LazyCountsModel", "push", "(I)V"⟩, 12), (⟨"LazyCountsModel", "isPlace", "(I)Z"⟩, 12), (⟨"LazyCountsModel", "slotCell", "(II)I"⟩, 12), (⟨"LazyCountsModel", "find", "(I)I"⟩, 12)]
theorem lw_r1 : ∀ q ∈ lw_privs_1, lw_okq q := List.forall_mem_cons.mpr ⟨lw_p0, List.forall_mem_cons.mpr ⟨lw_p1, List.forall_mem_cons.mpr ⟨lw_p2, List.forall_mem_cons.mpr ⟨lw_p3, List.forall_mem_cons.mpr ⟨lw_p4, List.forall_mem_cons.mpr ⟨lw_p5, List.forall_mem_cons.mpr ⟨lw_p6, List.forall_mem_cons.mpr ⟨lw_p7, List.forall_mem_cons.mpr ⟨lw_p8, List.forall_mem_cons.mpr ⟨lw_p9, List.forall_mem_cons.mpr ⟨lw_p10, List.forall_mem_cons.mpr ⟨lw_p11, List.forall_mem_cons.mpr ⟨lw_p12, List.forall_mem_cons.mpr ⟨lw_p13, List.forall_mem_cons.mpr ⟨lw_p14, List.forall_mem_cons.mpr ⟨lw_p15, fun _ h => absurd h List.not_mem_nil⟩⟩⟩⟩⟩⟩⟩⟩⟩⟩⟩⟩⟩⟩⟩⟩
theorem lw_p16 : lw_okq (⟨"LazyCountsModel", "makeRoom", "()V"⟩, 12) := ⟨⟨by decide +kernel, by decide +kernel⟩, List.mem_of_getElem? (i := 305) (by decide +kernel), List.mem_of_getElem? (i := 416) (by decide +kernel), List.mem_of_getElem? (i := 417) (by decide +kernel)⟩
theorem lw_p17 : lw_okq (⟨"LazyCountsModel", "note", "(I)V"⟩, 12) := ⟨⟨by decide +kernel, by decide +kernel⟩, List.mem_of_getElem? (i := 305) (by decide +kernel), List.mem_of_getElem? (i := 420) (by decide +kernel), List.mem_of_getElem? (i := 421) (by decide +kernel)⟩
theorem lw_p18 : lw_okq (⟨"LazyCountsModel", "slotsOf", "(I)I"⟩, 12) := ⟨⟨by decide +kernel, by decide +kernel⟩, List.mem_of_getElem? (i := 305) (by decide +kernel), List.mem_of_getElem? (i := 465) (by decide +kernel), List.mem_of_getElem? (i := 466) (by decide +kernel)⟩
def lw_privs_2 : List (MethodName × Nat) := [(⟨"LazyCountsModel", "makeRoom", "()V"⟩, 12), (⟨"LazyCountsModel", "note", "(I)V"⟩, 12), (⟨"LazyCountsModel", "slotsOf", "(I)I"⟩, 12)]
theorem lw_r2 : ∀ q ∈ lw_privs_2, lw_okq q := List.forall_mem_cons.mpr ⟨lw_p16, List.forall_mem_cons.mpr ⟨lw_p17, List.forall_mem_cons.mpr ⟨lw_p18, fun _ h => absurd h List.not_mem_nil⟩⟩⟩
def lw_privs : List (MethodName × Nat) := lw_privs_1 ++ (lw_privs_2)
def lw_tbl : List Cond := k2_sels lw_privs ++ tables_1
theorem lw_privs_ok : ∀ q ∈ lw_privs, lw_okq q := by
  show ∀ q ∈ lw_privs_1 ++ (lw_privs_2), lw_okq q
  exact List.forall_mem_append.mpr ⟨lw_r1, lw_r2⟩
/-- the words that every state keeps -/
def zz_tb : List Cond := lw_tbl.filter (fun w => k2_isCode w || goodWord w)
def R_law : String := "LazyCountsLaw"
def R_X : String := "LazyCounts"
def F_X : u_T := fun k => match k with
  | 0 => ("LazyCounts", "heap", "LLazyCounts$Heap;", true)
  | 1 => ("LazyCounts", "places", "LLazyCounts$Places;", true)
  | 2 => ("LazyCounts", "entries", "LLazyCounts$Entries;", true)
  | _ => ("LazyCounts", "reckoned", "I", false)
def t_X : Nat → FieldType := fun k => match k with
  | 0 => .object "LazyCounts$Heap"
  | 1 => .object "LazyCounts$Places"
  | 2 => .object "LazyCounts$Entries"
  | _ => .int
abbrev w_X : List Cond := u_ws R_X F_X 4
def R_Heap : String := "LazyCounts$Heap"
def F_Heap : u_T := fun k => match k with
  | 0 => ("LazyCounts$Heap", "owners", "[I", true)
  | 1 => ("LazyCounts$Heap", "words", "[I", true)
  | _ => ("LazyCounts$Heap", "made", "I", false)
def t_Heap : Nat → FieldType := fun k => match k with
  | 0 => .array .int
  | 1 => .array .int
  | _ => .int
abbrev w_Heap : List Cond := u_ws R_Heap F_Heap 3
def R_Places : String := "LazyCounts$Places"
def F_Places : u_T := fun k => match k with
  | 0 => ("LazyCounts$Places", "objects", "[I", true)
  | _ => ("LazyCounts$Places", "height", "I", false)
def t_Places : Nat → FieldType := fun k => match k with
  | 0 => .array .int
  | _ => .int
abbrev w_Places : List Cond := u_ws R_Places F_Places 2
def R_Entries : String := "LazyCounts$Entries"
def F_Entries : u_T := fun k => match k with
  | 0 => ("LazyCounts$Entries", "objects", "[I", true)
  | 1 => ("LazyCounts$Entries", "slotsBefore", "[[I", true)
  | _ => ("LazyCounts$Entries", "length", "I", false)
def t_Entries : Nat → FieldType := fun k => match k with
  | 0 => .array .int
  | 1 => .array (.array .int)
  | _ => .int
abbrev w_Entries : List Cond := u_ws R_Entries F_Entries 3
def R_M : String := "LazyCountsModel"
def F_M : u_T := fun k => match k with
  | 0 => ("LazyCountsModel", "number", "[I", false)
  | 1 => ("LazyCountsModel", "slots", "[I", false)
  | 2 => ("LazyCountsModel", "counts", "[I", false)
  | 3 => ("LazyCountsModel", "noted", "[Z", false)
  | 4 => ("LazyCountsModel", "holds", "[I", false)
  | 5 => ("LazyCountsModel", "made", "I", false)
  | 6 => ("LazyCountsModel", "height", "I", false)
  | 7 => ("LazyCountsModel", "places", "[I", false)
  | 8 => ("LazyCountsModel", "entries", "I", false)
  | 9 => ("LazyCountsModel", "who", "[I", false)
  | 10 => ("LazyCountsModel", "held", "[I", false)
  | _ => ("LazyCountsModel", "runs", "I", false)
def t_M : Nat → FieldType := fun k => match k with
  | 0 => .array .int
  | 1 => .array .int
  | 2 => .array .int
  | 3 => .array .boolean
  | 4 => .array .int
  | 5 => .int
  | 6 => .int
  | 7 => .array .int
  | 8 => .int
  | 9 => .array .int
  | 10 => .array .int
  | _ => .int
abbrev w_M : List Cond := u_ws R_M F_M 12
abbrev b_X_init : ByteArray := prog_1_method_1_code
def y_X_init : MethodName := ⟨R_X, "<init>", "()V"⟩
abbrev b_X_make : ByteArray := prog_1_method_2_code
def y_X_make : MethodName := ⟨R_X, "make", "(I)I"⟩
abbrev b_X_copy : ByteArray := prog_1_method_3_code
def y_X_copy : MethodName := ⟨R_X, "copy", "(I)I"⟩
abbrev b_X_load : ByteArray := prog_1_method_4_code
def y_X_load : MethodName := ⟨R_X, "load", "(II)I"⟩
abbrev b_X_store : ByteArray := prog_1_method_5_code
def y_X_store : MethodName := ⟨R_X, "store", "(III)Z"⟩
abbrev b_X_drop : ByteArray := prog_1_method_6_code
def y_X_drop : MethodName := ⟨R_X, "drop", "()I"⟩
abbrev b_X_reckon : ByteArray := prog_1_method_7_code
def y_X_reckon : MethodName := ⟨R_X, "reckon", "()I"⟩
abbrev b_X_stack : ByteArray := prog_1_method_8_code
def y_X_stack : MethodName := ⟨R_X, "stack", "()I"⟩
abbrev b_X_held : ByteArray := prog_1_method_9_code
def y_X_held : MethodName := ⟨R_X, "held", "(I)I"⟩
abbrev b_X_alive : ByteArray := prog_1_method_10_code
def y_X_alive : MethodName := ⟨R_X, "alive", "()I"⟩
abbrev b_X_count : ByteArray := prog_1_method_11_code
def y_X_count : MethodName := ⟨R_X, "count", "(I)I"⟩
abbrev b_X_cell : ByteArray := prog_1_method_12_code
def y_X_cell : MethodName := ⟨R_X, "cell", "(I)I"⟩
abbrev b_X_slot : ByteArray := prog_1_method_13_code
def y_X_slot : MethodName := ⟨R_X, "slot", "(II)I"⟩
abbrev b_X_table : ByteArray := prog_1_method_14_code
def y_X_table : MethodName := ⟨R_X, "table", "()I"⟩
abbrev b_X_state : ByteArray := prog_1_method_15_code
def y_X_state : MethodName := ⟨R_X, "state", "(I)I"⟩
abbrev b_X_log : ByteArray := prog_1_method_16_code
def y_X_log : MethodName := ⟨R_X, "log", "()I"⟩
abbrev b_X_entry : ByteArray := prog_1_method_17_code
def y_X_entry : MethodName := ⟨R_X, "entry", "(II)I"⟩
abbrev b_X_free : ByteArray := prog_1_method_18_code
def y_X_free : MethodName := ⟨R_X, "free", "()I"⟩
abbrev b_X_reckonings : ByteArray := prog_1_method_19_code
def y_X_reckonings : MethodName := ⟨R_X, "reckonings", "()I"⟩
abbrev b_X_firstCellAt : ByteArray := prog_1_method_20_code
def y_X_firstCellAt : MethodName := ⟨R_X, "firstCellAt", "(I)I"⟩
abbrev b_X_note : ByteArray := prog_1_method_21_code
def y_X_note : MethodName := ⟨R_X, "note", "(I)V"⟩
abbrev b_X_bringUpToDate : ByteArray := prog_1_method_22_code
def y_X_bringUpToDate : MethodName := ⟨R_X, "bringUpToDate", "()I"⟩
abbrev b_X_countChangesOf : ByteArray := prog_1_method_23_code
def y_X_countChangesOf : MethodName := ⟨R_X, "countChangesOf", "(I)V"⟩
abbrev b_X_freeUnheld : ByteArray := prog_1_method_24_code
def y_X_freeUnheld : MethodName := ⟨R_X, "freeUnheld", "()I"⟩
abbrev b_X_firstUnheld : ByteArray := prog_1_method_25_code
def y_X_firstUnheld : MethodName := ⟨R_X, "firstUnheld", "()I"⟩
abbrev b_Heap_init : ByteArray := prog_3_method_1_code
def y_Heap_init : MethodName := ⟨R_Heap, "<init>", "()V"⟩
abbrev b_Heap_lowestRoom : ByteArray := prog_3_method_2_code
def y_Heap_lowestRoom : MethodName := ⟨R_Heap, "lowestRoom", "(I)I"⟩
abbrev b_Heap_layNew : ByteArray := prog_3_method_3_code
def y_Heap_layNew : MethodName := ⟨R_Heap, "layNew", "(II)I"⟩
abbrev b_Heap_giveBack : ByteArray := prog_3_method_4_code
def y_Heap_giveBack : MethodName := ⟨R_Heap, "giveBack", "(I)V"⟩
abbrev b_Heap_addToCount : ByteArray := prog_3_method_5_code
def y_Heap_addToCount : MethodName := ⟨R_Heap, "addToCount", "(II)V"⟩
abbrev b_Heap_firstCellOf : ByteArray := prog_3_method_6_code
def y_Heap_firstCellOf : MethodName := ⟨R_Heap, "firstCellOf", "(I)I"⟩
abbrev b_Heap_objectIn : ByteArray := prog_3_method_7_code
def y_Heap_objectIn : MethodName := ⟨R_Heap, "objectIn", "(I)I"⟩
abbrev b_Heap_countAt : ByteArray := prog_3_method_8_code
def y_Heap_countAt : MethodName := ⟨R_Heap, "countAt", "(I)I"⟩
abbrev b_Heap_slotsAt : ByteArray := prog_3_method_9_code
def y_Heap_slotsAt : MethodName := ⟨R_Heap, "slotsAt", "(I)I"⟩
abbrev b_Heap_hasSlot : ByteArray := prog_3_method_10_code
def y_Heap_hasSlot : MethodName := ⟨R_Heap, "hasSlot", "(II)Z"⟩
abbrev b_Heap_inSlot : ByteArray := prog_3_method_11_code
def y_Heap_inSlot : MethodName := ⟨R_Heap, "inSlot", "(II)I"⟩
abbrev b_Heap_setSlot : ByteArray := prog_3_method_12_code
def y_Heap_setSlot : MethodName := ⟨R_Heap, "setSlot", "(III)V"⟩
abbrev b_Heap_isFirst : ByteArray := prog_3_method_13_code
def y_Heap_isFirst : MethodName := ⟨R_Heap, "isFirst", "(I)Z"⟩
abbrev b_Heap_isUncounted : ByteArray := prog_3_method_14_code
def y_Heap_isUncounted : MethodName := ⟨R_Heap, "isUncounted", "(I)Z"⟩
abbrev b_Heap_objects : ByteArray := prog_3_method_15_code
def y_Heap_objects : MethodName := ⟨R_Heap, "objects", "()I"⟩
abbrev b_Heap_uncountedObjects : ByteArray := prog_3_method_16_code
def y_Heap_uncountedObjects : MethodName := ⟨R_Heap, "uncountedObjects", "()I"⟩
abbrev b_Heap_freeCells : ByteArray := prog_3_method_17_code
def y_Heap_freeCells : MethodName := ⟨R_Heap, "freeCells", "()I"⟩
abbrev b_Places_init : ByteArray := prog_4_method_1_code
def y_Places_init : MethodName := ⟨R_Places, "<init>", "()V"⟩
abbrev b_Places_size : ByteArray := prog_4_method_2_code
def y_Places_size : MethodName := ⟨R_Places, "size", "()I"⟩
abbrev b_Places_areFull : ByteArray := prog_4_method_3_code
def y_Places_areFull : MethodName := ⟨R_Places, "areFull", "()Z"⟩
abbrev b_Places_has : ByteArray := prog_4_method_4_code
def y_Places_has : MethodName := ⟨R_Places, "has", "(I)Z"⟩
abbrev b_Places_at : ByteArray := prog_4_method_5_code
def y_Places_at : MethodName := ⟨R_Places, "at", "(I)I"⟩
abbrev b_Places_push : ByteArray := prog_4_method_6_code
def y_Places_push : MethodName := ⟨R_Places, "push", "(I)I"⟩
abbrev b_Places_pop : ByteArray := prog_4_method_7_code
def y_Places_pop : MethodName := ⟨R_Places, "pop", "()I"⟩
abbrev b_Places_hold : ByteArray := prog_4_method_8_code
def y_Places_hold : MethodName := ⟨R_Places, "hold", "(I)Z"⟩
abbrev b_Entries_init : ByteArray := prog_2_method_1_code
def y_Entries_init : MethodName := ⟨R_Entries, "<init>", "()V"⟩
abbrev b_Entries_size : ByteArray := prog_2_method_2_code
def y_Entries_size : MethodName := ⟨R_Entries, "size", "()I"⟩
abbrev b_Entries_areFull : ByteArray := prog_2_method_3_code
def y_Entries_areFull : MethodName := ⟨R_Entries, "areFull", "()Z"⟩
abbrev b_Entries_has : ByteArray := prog_2_method_4_code
def y_Entries_has : MethodName := ⟨R_Entries, "has", "(I)Z"⟩
abbrev b_Entries_tellOf : ByteArray := prog_2_method_5_code
def y_Entries_tellOf : MethodName := ⟨R_Entries, "tellOf", "(I)Z"⟩
abbrev b_Entries_objectOf : ByteArray := prog_2_method_6_code
def y_Entries_objectOf : MethodName := ⟨R_Entries, "objectOf", "(I)I"⟩
abbrev b_Entries_before : ByteArray := prog_2_method_7_code
def y_Entries_before : MethodName := ⟨R_Entries, "before", "(II)I"⟩
abbrev b_Entries_setBefore : ByteArray := prog_2_method_8_code
def y_Entries_setBefore : MethodName := ⟨R_Entries, "setBefore", "(III)V"⟩
abbrev b_Entries_open : ByteArray := prog_2_method_9_code
def y_Entries_open : MethodName := ⟨R_Entries, "open", "(I)I"⟩
abbrev b_Entries_clear : ByteArray := prog_2_method_10_code
def y_Entries_clear : MethodName := ⟨R_Entries, "clear", "()V"⟩
abbrev b_M_init : ByteArray := prog_6_method_1_code
def y_M_init : MethodName := ⟨R_M, "<init>", "()V"⟩
abbrev b_M_within : ByteArray := prog_6_method_2_code
def y_M_within : MethodName := ⟨R_M, "within", "(III)Z"⟩
abbrev b_M_find : ByteArray := prog_6_method_3_code
def y_M_find : MethodName := ⟨R_M, "find", "(I)I"⟩
abbrev b_M_holders : ByteArray := prog_6_method_4_code
def y_M_holders : MethodName := ⟨R_M, "holders", "(I)I"⟩
abbrev b_M_onStack : ByteArray := prog_6_method_5_code
def y_M_onStack : MethodName := ⟨R_M, "onStack", "(I)Z"⟩
abbrev b_M_recount : ByteArray := prog_6_method_6_code
def y_M_recount : MethodName := ⟨R_M, "recount", "()V"⟩
abbrev b_M_round : ByteArray := prog_6_method_7_code
def y_M_round : MethodName := ⟨R_M, "round", "()I"⟩
abbrev b_M_settle : ByteArray := prog_6_method_8_code
def y_M_settle : MethodName := ⟨R_M, "settle", "()V"⟩
abbrev b_M_reckon : ByteArray := prog_6_method_9_code
def y_M_reckon : MethodName := ⟨R_M, "reckon", "()I"⟩
abbrev b_M_room : ByteArray := prog_6_method_10_code
def y_M_room : MethodName := ⟨R_M, "room", "(I)I"⟩
abbrev b_M_push : ByteArray := prog_6_method_11_code
def y_M_push : MethodName := ⟨R_M, "push", "(I)V"⟩
abbrev b_M_make : ByteArray := prog_6_method_12_code
def y_M_make : MethodName := ⟨R_M, "make", "(I)I"⟩
abbrev b_M_isPlace : ByteArray := prog_6_method_13_code
def y_M_isPlace : MethodName := ⟨R_M, "isPlace", "(I)Z"⟩
abbrev b_M_copy : ByteArray := prog_6_method_14_code
def y_M_copy : MethodName := ⟨R_M, "copy", "(I)I"⟩
abbrev b_M_slotCell : ByteArray := prog_6_method_15_code
def y_M_slotCell : MethodName := ⟨R_M, "slotCell", "(II)I"⟩
abbrev b_M_load : ByteArray := prog_6_method_16_code
def y_M_load : MethodName := ⟨R_M, "load", "(II)I"⟩
abbrev b_M_makeRoom : ByteArray := prog_6_method_17_code
def y_M_makeRoom : MethodName := ⟨R_M, "makeRoom", "()V"⟩
abbrev b_M_note : ByteArray := prog_6_method_18_code
def y_M_note : MethodName := ⟨R_M, "note", "(I)V"⟩
abbrev b_M_store : ByteArray := prog_6_method_19_code
def y_M_store : MethodName := ⟨R_M, "store", "(III)Z"⟩
abbrev b_M_drop : ByteArray := prog_6_method_20_code
def y_M_drop : MethodName := ⟨R_M, "drop", "()I"⟩
abbrev b_M_stack : ByteArray := prog_6_method_21_code
def y_M_stack : MethodName := ⟨R_M, "stack", "()I"⟩
abbrev b_M_held : ByteArray := prog_6_method_22_code
def y_M_held : MethodName := ⟨R_M, "held", "(I)I"⟩
abbrev b_M_alive : ByteArray := prog_6_method_23_code
def y_M_alive : MethodName := ⟨R_M, "alive", "()I"⟩
abbrev b_M_count : ByteArray := prog_6_method_24_code
def y_M_count : MethodName := ⟨R_M, "count", "(I)I"⟩
abbrev b_M_cell : ByteArray := prog_6_method_25_code
def y_M_cell : MethodName := ⟨R_M, "cell", "(I)I"⟩
abbrev b_M_slot : ByteArray := prog_6_method_26_code
def y_M_slot : MethodName := ⟨R_M, "slot", "(II)I"⟩
abbrev b_M_table : ByteArray := prog_6_method_27_code
def y_M_table : MethodName := ⟨R_M, "table", "()I"⟩
abbrev b_M_state : ByteArray := prog_6_method_28_code
def y_M_state : MethodName := ⟨R_M, "state", "(I)I"⟩
abbrev b_M_log : ByteArray := prog_6_method_29_code
def y_M_log : MethodName := ⟨R_M, "log", "()I"⟩
abbrev b_M_slotsOf : ByteArray := prog_6_method_30_code
def y_M_slotsOf : MethodName := ⟨R_M, "slotsOf", "(I)I"⟩
abbrev b_M_entry : ByteArray := prog_6_method_31_code
def y_M_entry : MethodName := ⟨R_M, "entry", "(II)I"⟩
abbrev b_M_free : ByteArray := prog_6_method_32_code
def y_M_free : MethodName := ⟨R_M, "free", "()I"⟩
abbrev b_M_reckonings : ByteArray := prog_6_method_33_code
def y_M_reckonings : MethodName := ⟨R_M, "reckonings", "()I"⟩
abbrev classes : List vw_C := [(R_X, F_X, 4), (R_Heap, F_Heap, 3), (R_Places, F_Places, 2), (R_Entries, F_Entries, 3), (R_M, F_M, 12)]
theorem n_X : ∀ a, a < 4 → ∀ b, b < 4 → a ≠ b → (F_X a).2.1 ≠ (F_X b).2.1 := by decide +kernel
theorem t_X_ok : ∀ k, k < 4 → parseFieldDescriptor (F_X k).2.2.1 = some (t_X k) := by decide +kernel
set_option maxRecDepth 20000 in
theorem i_X : ∀ w ∈ w_X, w ∈ zz_tb := by decide +kernel
theorem n_Heap : ∀ a, a < 3 → ∀ b, b < 3 → a ≠ b → (F_Heap a).2.1 ≠ (F_Heap b).2.1 := by decide +kernel
theorem t_Heap_ok : ∀ k, k < 3 → parseFieldDescriptor (F_Heap k).2.2.1 = some (t_Heap k) := by decide +kernel
set_option maxRecDepth 20000 in
theorem i_Heap : ∀ w ∈ w_Heap, w ∈ zz_tb := by decide +kernel
theorem n_Places : ∀ a, a < 2 → ∀ b, b < 2 → a ≠ b → (F_Places a).2.1 ≠ (F_Places b).2.1 := by decide +kernel
theorem t_Places_ok : ∀ k, k < 2 → parseFieldDescriptor (F_Places k).2.2.1 = some (t_Places k) := by decide +kernel
set_option maxRecDepth 20000 in
theorem i_Places : ∀ w ∈ w_Places, w ∈ zz_tb := by decide +kernel
theorem n_Entries : ∀ a, a < 3 → ∀ b, b < 3 → a ≠ b → (F_Entries a).2.1 ≠ (F_Entries b).2.1 := by decide +kernel
theorem t_Entries_ok : ∀ k, k < 3 → parseFieldDescriptor (F_Entries k).2.2.1 = some (t_Entries k) := by decide +kernel
set_option maxRecDepth 20000 in
theorem i_Entries : ∀ w ∈ w_Entries, w ∈ zz_tb := by decide +kernel
theorem n_M : ∀ a, a < 12 → ∀ b, b < 12 → a ≠ b → (F_M a).2.1 ≠ (F_M b).2.1 := by decide +kernel
theorem t_M_ok : ∀ k, k < 12 → parseFieldDescriptor (F_M k).2.2.1 = some (t_M k) := by decide +kernel
set_option maxRecDepth 20000 in
theorem i_M : ∀ w ∈ w_M, w ∈ zz_tb := by decide +kernel
end
section
section BASE
/-! contracts that name the answer and the world behind the call; a call, a return, in one row each -/
def zz_w (y : MethodName) (b : ByteArray) (n : Nat) (ret : Option FieldType) : List Cond := Cond.code y b n ret :: zz_tb
abbrev zz_B (D : va_G) (tys : List (ClassId × FieldType)) (ws ws' : va_W) (sz : Nat) (_ : Unit) (t : State) : Prop := va_P D classes ws' t.heap ∧ va_K D classes tys t ∧ va_D (va_A ws sz) ws'
abbrev zz_Pre (D : va_G) (tys : List (ClassId × FieldType)) (av : List Value) (ws : va_W) (sz : Nat) : Array Value → State → Prop := va_Pc av (fun U => U.heap.size = sz ∧ va_P D classes ws U.heap ∧ va_K D classes tys U ∧ va_D (fun _ => True) ws)
def zz_MI (l : Launch) (y : MethodName) (b : ByteArray) (n : Nat) (ty : FieldType) (rm : Room) (D : va_G) (tys : List (ClassId × FieldType)) (av : List Value) (ws : va_W) (r : Int32) (ws' : va_W) : Prop :=
  ∀ sz : Nat, Met l y (zz_w y b n (some ty)) rm (zz_Pre D tys av ws sz) (va_Qi (fun (x : Int32) (_ : Unit) => x = r) (zz_B D tys ws ws' sz) (va_A ws sz)) 0 0 (va_A ws sz)
def zz_MV (l : Launch) (y : MethodName) (b : ByteArray) (n : Nat) (rm : Room) (D : va_G) (tys : List (ClassId × FieldType)) (av : List Value) (ws : va_W) (ws' : va_W) : Prop :=
  ∀ sz : Nat, Met l y (zz_w y b n none) rm (zz_Pre D tys av ws sz) (va_Qv (fun (_ : Unit) => True) (zz_B D tys ws ws' sz) (va_A ws sz)) 0 0 (va_A ws sz)
theorem zz_MI_of {l : Launch} {y : MethodName} {b : ByteArray} {n : Nat} {ty : FieldType} {rm : Room} {D : va_G} {tys : List (ClassId × FieldType)} {av : List Value} {ws : va_W} {r : Int32} {ws' : va_W}
    (hy : plainName y.cls = true) (hav : (lg_sl av).length ≤ n) (hnar : narrow ty (.int r) = .int r)
    (body : ∀ (p : Program) (e : Env) (s : State) (m : MethodId) (args : Array Value) (below : List Frame) (meth : Method) (c : Code) (A : Nat → Prop) (ls : Array Slot) (Q : State → Prop),
      p.tables.exec = Jvm.exec → c.code = b → c.maxLocals = n → s.vm.findClass y.cls = some m.cls → (∀ w ∈ zz_tb, w.before args s = true) →
      va_K D classes tys s → va_P D classes ws s.heap → va_D A ws → va_S A s.heap s.heap [] → (∀ q : Nat, s.heap.size ≤ q → A q) → lv_has ls n (lv_args 0 av) →
      (∀ (H : Heap) (locs : List Loc) (pc : Nat) (ls : Array Slot), decode b pc = .ok (.ireturn, 1) → va_P D classes ws' H → va_D A ws' → va_S A s.heap H locs → W p l e rm s m args below meth c H locs 0 0 Q (F0 m pc ls [.int r])) →
      W p l e rm s m args below meth c s.heap [] 0 0 Q (F0 m 0 ls [])) :
    zz_MI l y b n ty rm D tys av ws r ws' := by
  intro sz
  refine Met.ofW (cc := b) (maxL := n) (ret := some ty) hy rfl ?_
  intro p e s m args below meth c s₁ B hml hv
  obtain ⟨rfl, hsz, hP, hK, hD0⟩ := hv
  have hx := B.exec
  have hb := B.bytes
  have hr := B.returns
  have hts := atoms_spec (ws := zz_w y b n (some ty)) B.pre
  have hown : s.vm.findClass y.cls = some m.cls := findClass_of_methodNamed B.named
  have hlocks := B.notSynchronized
  subst hsz
  have hD := hD0.self (sz := s.heap.size)
  have hA : ∀ q : Nat, s.heap.size ≤ q → va_A ws s.heap.size q := fun q h => Or.inr h
  have hS : va_S (va_A ws s.heap.size) s.heap s.heap [] := va_S.rf
  have hl := lv_entry av (n := n) hav
  rw [lg_entry_eq]
  refine body p e s m _ below meth c (va_A ws s.heap.size) _ _ hx hb hml hown (fun w hw => hts w (List.mem_cons_of_mem _ hw)) hK hP hD hS hA hl ?_
  intro H locs pc ls hd hP' hD' hS'
  exact W.zret hx hb hr hnar (fun t ht hW => ⟨⟨r, (), rfl, rfl, by rw [ht]; exact hP', va_K.moved hW.alike hK, hD'⟩, hS'.F ht⟩) hS'.2.2 hd
theorem zz_MV_of {l : Launch} {y : MethodName} {b : ByteArray} {n : Nat} {rm : Room} {D : va_G} {tys : List (ClassId × FieldType)} {av : List Value} {ws : va_W} {ws' : va_W}
    (hy : plainName y.cls = true) (hav : (lg_sl av).length ≤ n)
    (body : ∀ (p : Program) (e : Env) (s : State) (m : MethodId) (args : Array Value) (below : List Frame) (meth : Method) (c : Code) (A : Nat → Prop) (ls : Array Slot) (Q : State → Prop),
      p.tables.exec = Jvm.exec → c.code = b → c.maxLocals = n → s.vm.findClass y.cls = some m.cls → (∀ w ∈ zz_tb, w.before args s = true) →
      va_K D classes tys s → va_P D classes ws s.heap → va_D A ws → va_S A s.heap s.heap [] → (∀ q : Nat, s.heap.size ≤ q → A q) → lv_has ls n (lv_args 0 av) →
      (∀ (H : Heap) (locs : List Loc) (pc : Nat) (ls : Array Slot), decode b pc = .ok (.return_, 1) → va_P D classes ws' H → va_D A ws' → va_S A s.heap H locs → W p l e rm s m args below meth c H locs 0 0 Q (F0 m pc ls [])) →
      W p l e rm s m args below meth c s.heap [] 0 0 Q (F0 m 0 ls [])) :
    zz_MV l y b n rm D tys av ws ws' := by
  intro sz
  refine Met.ofW (cc := b) (maxL := n) (ret := none) hy rfl ?_
  intro p e s m args below meth c s₁ B hml hv
  obtain ⟨rfl, hsz, hP, hK, hD0⟩ := hv
  have hx := B.exec
  have hb := B.bytes
  have hr := B.returns
  have hts := atoms_spec (ws := zz_w y b n none) B.pre
  have hown : s.vm.findClass y.cls = some m.cls := findClass_of_methodNamed B.named
  have hlocks := B.notSynchronized
  subst hsz
  have hD := hD0.self (sz := s.heap.size)
  have hA : ∀ q : Nat, s.heap.size ≤ q → va_A ws s.heap.size q := fun q h => Or.inr h
  have hS : va_S (va_A ws s.heap.size) s.heap s.heap [] := va_S.rf
  have hl := lv_entry av (n := n) hav
  rw [lg_entry_eq]
  refine body p e s m _ below meth c (va_A ws s.heap.size) _ _ hx hb hml hown (fun w hw => hts w (List.mem_cons_of_mem _ hw)) hK hP hD hS hA hl ?_
  intro H locs pc ls hd hP' hD' hS'
  exact W.vret hx hb hr (fun t ht hW => ⟨⟨(), rfl, trivial, by rw [ht]; exact hP', va_K.moved hW.alike hK, hD'⟩, hS'.F ht⟩) hS'.2.2 hd
theorem zz_subP {D : va_G} {cl : List vw_C} {ws wc : va_W} {H : Heap} {is : List Nat} (hC : is.map (fun i => ws[i]?) = wc.map some) (h : va_P D cl ws H) : va_P D cl wc H := by
  intro k q hk
  have h1 : (is.map (fun i => ws[i]?))[k]? = some (some q) := by rw [hC, List.getElem?_map, hk]; rfl
  rw [List.getElem?_map] at h1
  cases hi : is[k]? with
  | none => rw [hi] at h1; cases h1
  | some i => rw [hi] at h1; exact h i q (Option.some.inj h1)
theorem zz_toP {D : va_G} {cl : List vw_C} {ws ws' : va_W} {H : Heap} (e : ws = ws') (h : va_P D cl ws H) : va_P D cl ws' H := e ▸ h
theorem zz_toD {A : Nat → Prop} {ws ws' : va_W} (e : ws = ws') (h : va_D A ws) : va_D A ws' := e ▸ h
theorem zz_good0 : zz_tb.all (fun w => k2_isCode w || goodWord w) = true := List.all_eq_true.mpr (fun w hw => (List.mem_filter.mp hw).2)
theorem zz_good : GoodIn zz_tb zz_tb := by
  intro w hw
  refine ⟨hw, ?_⟩
  have h := List.all_eq_true.mp zz_good0 w hw
  simp only [Bool.or_eq_true] at h
  rcases h with h | h
  · cases w <;> first | (simp [k2_isCode] at h; done) | exact Or.inl rfl
  · exact good_of_word h
theorem zz_gv {own C : String} {idx n : Nat} {y : MethodName} {b : ByteArray} {ret : Option FieldType} (h1 : Cond.methodLink own idx y ∈ zz_tb) (h2 : Cond.instanceMethod y ∈ zz_tb) (h3 : Cond.selects C y y ∈ zz_tb) (h4 : Cond.initialized C ∈ zz_tb) (h5 : Cond.code y b n ret ∈ zz_tb) : GoodIn zz_tb (wsV own idx C y (zz_w y b n ret)) := by
  intro w hw
  refine zz_good w ?_
  simp only [wsV, zz_w, List.cons_append, List.nil_append, List.mem_cons] at hw
  rcases hw with rfl | rfl | rfl | rfl | rfl | hw
  · exact h1
  · exact h2
  · exact h3
  · exact h4
  · exact h5
  · exact hw
theorem zz_gs {own : String} {idx n : Nat} {y : MethodName} {b : ByteArray} {ret : Option FieldType} (h1 : Cond.methodLink own idx y ∈ zz_tb) (h2 : Cond.static y ∈ zz_tb) (h4 : Cond.initialized own ∈ zz_tb) (h5 : Cond.code y b n ret ∈ zz_tb) : GoodIn zz_tb (wsS own idx y (zz_w y b n ret)) := by
  intro w hw
  refine zz_good w ?_
  simp only [wsS, zz_w, List.cons_append, List.nil_append, List.mem_cons] at hw
  rcases hw with rfl | rfl | rfl | rfl | hw
  · exact h1
  · exact h2
  · exact h4
  · exact h5
  · exact hw
theorem zz_gi {n : Nat} {y : MethodName} {b : ByteArray} {ret : Option FieldType} (h5 : Cond.code y b n ret ∈ zz_tb) : GoodIn zz_tb (zz_w y b n ret) := by
  intro w hw
  refine zz_good w ?_
  simp only [zz_w, List.mem_cons] at hw
  rcases hw with rfl | hw
  · exact h5
  · exact hw
end BASE
section BASEW
variable {p : Program} {l : Launch} {e : Env} {R : Room} {s : State} {m : MethodId} {args : Array Value} {below : List Frame} {meth : Method} {c : Code} {H : Heap} {locs : List Loc} {cells slots : Nat} {Q : State → Prop}
variable {cc : ByteArray} {pc nL : Nat} {ls : Array Slot} {rest st0 As : List Value} {D : va_G} {A : Nat → Prop} {tys tysc : List (ClassId × FieldType)} {ws wc wr wc' ws' : va_W} {own C : String} {y : MethodName} {b : ByteArray} {n np index : Nat} {ty : FieldType} {rm : Room} {a : Nat} {r : Int32}
theorem zz_callI (hx : p.tables.exec = Jvm.exec) (hb : c.code = cc) (hml : c.maxLocals = nL) (hown : s.vm.findClass own = some m.cls) (hts : ∀ w ∈ zz_tb, w.before args s = true)
    (hK : va_K D classes tys s) (hP : va_P D classes ws H) (hD : va_D A ws) (hS : va_S A s.heap H locs) (hA : ∀ q : Nat, s.heap.size ≤ q → A q)
    (hM : zz_MI l y b n ty rm D tysc (.ref a :: As) wc r wc') (hg : GoodIn zz_tb (wsV own index C y (zz_w y b n (some ty))))
    (hd : y.cls = C ∧ y.cls ≠ "java/lang/invoke/MethodHandle" ∧ y.cls ≠ "java/lang/invoke/VarHandle" ∧ (parseMethodDescriptor y.desc).map (fun d => d.parameters.length) = some np)
    (hrc : rm.cells = 0) (hrs : rm.slots = 0) (hR : rm.frames + 1 ≤ R.frames ∧ 8 + (n + 11) + rm.locals ≤ R.locals) (hf : cells ≤ R.cells ∧ slots ≤ R.slots)
    (tt : List Nat) (htt : tt.filterMap (fun i => tys[i]?) = tysc) (q0 ci : Nat) {q : vw_C} {fs : List Value} (hc : classes[ci]? = some q) (hqC : q.1 = C) (he : ws[q0]? = some (a, .inr (ci, fs)))
    (isC isR perm : List Nat) (hC : isC.map (fun i => ws[i]?) = wc.map some) (hnC : va_nd isC = true) (hR' : isR.map (fun i => ws[i]?) = wr.map some) (hnR : va_nd isR = true) (hdis : ∀ i ∈ isR, i ∉ isC) (hpm : perm.map (fun i => (wr ++ wc')[i]?) = ws'.map some) (hnp : va_nd perm = true)
    (hn : As.length = np) (hsz : ls.size = nL) (hst : st0 = As.reverse ++ .ref a :: rest) (hrm : (rest.map fun v => v.category).sum ≤ 8) (hdg : decode cc pc = .ok (.invokevirtual index, 3))
    (kk : ∀ (H1 : Heap) (locs1 : List Loc), va_P D classes ws' H1 → va_D A ws' → va_S A s.heap H1 locs1 → W p l e R s m args below meth c H1 locs1 cells slots Q (F0 m (pc + 3) ls (.int r :: rest))) :
    W p l e R s m args below meth c H locs cells slots Q (F0 m pc ls st0) := by
  subst hqC
  have hPc := zz_subP hC hP
  have hDc := hD.sub isC hnC hC
  have hKc := hK.sub tt htt
  have hFc := va_free hD hS hA isC hC
  refine va_calli (va_runV (As := As) (rest := rest) ⟨hx, hb, hml, hown, hts⟩ (hM H.size) (cwV np hts hg rfl hrc hrs hd hR) ⟨?_, va_recv hK hP hc he, ?_⟩ rfl hn hsz hst (lv_room hrm) hdg hf) hS (fun q _ h => hFc q h) hFc (fun x u t H1 locs1 ht hvm hw hB hz1 hk1 hS1 => ?_)
  · intro a U g mk q
    obtain ⟨q0, q1, qP, qK, qD⟩ := q
    exact ⟨q0, q1, qP, va_K.moved (u := U) (U := U.calling g mk a) (Vm.Alike.refl U.vm) qK, qD⟩
  · exact fun U hU hW => ⟨rfl, by rw [hU], by rw [hU]; exact hPc, va_K.moved hW.alike hKc, hDc.weaken (fun _ _ _ _ => trivial)⟩
  · have hw : x = r := hw
    subst hw
    obtain ⟨hP1, hK1, hD1⟩ := hB
    rw [ht] at hP1
    obtain ⟨hP2, hD2⟩ := va_join hP hD isC isR hC hR' hnR hdis hk1 hFc hP1 hD1
    exact kk H1 locs1 (zz_subP hpm hP2) (hD2.sub perm hnp hpm) hS1
theorem zz_callV (hx : p.tables.exec = Jvm.exec) (hb : c.code = cc) (hml : c.maxLocals = nL) (hown : s.vm.findClass own = some m.cls) (hts : ∀ w ∈ zz_tb, w.before args s = true)
    (hK : va_K D classes tys s) (hP : va_P D classes ws H) (hD : va_D A ws) (hS : va_S A s.heap H locs) (hA : ∀ q : Nat, s.heap.size ≤ q → A q)
    (hM : zz_MV l y b n rm D tysc (.ref a :: As) wc wc') (hg : GoodIn zz_tb (wsV own index C y (zz_w y b n none)))
    (hd : y.cls = C ∧ y.cls ≠ "java/lang/invoke/MethodHandle" ∧ y.cls ≠ "java/lang/invoke/VarHandle" ∧ (parseMethodDescriptor y.desc).map (fun d => d.parameters.length) = some np)
    (hrc : rm.cells = 0) (hrs : rm.slots = 0) (hR : rm.frames + 1 ≤ R.frames ∧ 8 + (n + 11) + rm.locals ≤ R.locals) (hf : cells ≤ R.cells ∧ slots ≤ R.slots)
    (tt : List Nat) (htt : tt.filterMap (fun i => tys[i]?) = tysc) (q0 ci : Nat) {q : vw_C} {fs : List Value} (hc : classes[ci]? = some q) (hqC : q.1 = C) (he : ws[q0]? = some (a, .inr (ci, fs)))
    (isC isR perm : List Nat) (hC : isC.map (fun i => ws[i]?) = wc.map some) (hnC : va_nd isC = true) (hR' : isR.map (fun i => ws[i]?) = wr.map some) (hnR : va_nd isR = true) (hdis : ∀ i ∈ isR, i ∉ isC) (hpm : perm.map (fun i => (wr ++ wc')[i]?) = ws'.map some) (hnp : va_nd perm = true)
    (hn : As.length = np) (hsz : ls.size = nL) (hst : st0 = As.reverse ++ .ref a :: rest) (hrm : (rest.map fun v => v.category).sum ≤ 8) (hdg : decode cc pc = .ok (.invokevirtual index, 3))
    (kk : ∀ (H1 : Heap) (locs1 : List Loc), va_P D classes ws' H1 → va_D A ws' → va_S A s.heap H1 locs1 → W p l e R s m args below meth c H1 locs1 cells slots Q (F0 m (pc + 3) ls rest)) :
    W p l e R s m args below meth c H locs cells slots Q (F0 m pc ls st0) := by
  subst hqC
  have hPc := zz_subP hC hP
  have hDc := hD.sub isC hnC hC
  have hKc := hK.sub tt htt
  have hFc := va_free hD hS hA isC hC
  refine va_callv (va_runV (As := As) (rest := rest) ⟨hx, hb, hml, hown, hts⟩ (hM H.size) (cwV np hts hg rfl hrc hrs hd hR) ⟨?_, va_recv hK hP hc he, ?_⟩ rfl hn hsz hst (lv_room hrm) hdg hf) hS (fun q _ h => hFc q h) hFc (fun u t H1 locs1 ht hvm hw hB hz1 hk1 hS1 => ?_)
  · intro a U g mk q
    obtain ⟨q0, q1, qP, qK, qD⟩ := q
    exact ⟨q0, q1, qP, va_K.moved (u := U) (U := U.calling g mk a) (Vm.Alike.refl U.vm) qK, qD⟩
  · exact fun U hU hW => ⟨rfl, by rw [hU], by rw [hU]; exact hPc, va_K.moved hW.alike hKc, hDc.weaken (fun _ _ _ _ => trivial)⟩
  · obtain ⟨hP1, hK1, hD1⟩ := hB
    rw [ht] at hP1
    obtain ⟨hP2, hD2⟩ := va_join hP hD isC isR hC hR' hnR hdis hk1 hFc hP1 hD1
    exact kk H1 locs1 (zz_subP hpm hP2) (hD2.sub perm hnp hpm) hS1
/-- a static method that touches no cell -/
theorem zz_callS (hx : p.tables.exec = Jvm.exec) (hb : c.code = cc) (hml : c.maxLocals = nL) (hown : s.vm.findClass own = some m.cls) (hts : ∀ w ∈ zz_tb, w.before args s = true)
    (hK : va_K D classes tys s) (hP : va_P D classes ws H) (hD : va_D A ws) (hS : va_S A s.heap H locs) (hA : ∀ q : Nat, s.heap.size ≤ q → A q)
    (hM : zz_MI l y b n ty rm D [] As [] r []) (hg : GoodIn zz_tb (wsS own index y (zz_w y b n (some ty))))
    (hd : y.cls = own ∧ y.cls ≠ "java/lang/invoke/MethodHandle" ∧ y.cls ≠ "java/lang/invoke/VarHandle" ∧ (parseMethodDescriptor y.desc).map (fun d => d.parameters.length) = some np)
    (hrc : rm.cells = 0) (hrs : rm.slots = 0) (hR : rm.frames + 1 ≤ R.frames ∧ 8 + (n + 11) + rm.locals ≤ R.locals) (hf : cells ≤ R.cells ∧ slots ≤ R.slots)
    (isR : List Nat) (hR' : isR.map (fun i => ws[i]?) = ws.map some) (hnR : va_nd isR = true)
    (hn : As.length = np) (hsz : ls.size = nL) (hst : st0 = As.reverse ++ rest) (hrm : (rest.map fun v => v.category).sum ≤ 8) (hdg : decode cc pc = .ok (.invokestatic index, 3))
    (kk : ∀ (H1 : Heap) (locs1 : List Loc), va_P D classes ws H1 → va_D A ws → va_S A s.heap H1 locs1 → W p l e R s m args below meth c H1 locs1 cells slots Q (F0 m (pc + 3) ls (.int r :: rest))) :
    W p l e R s m args below meth c H locs cells slots Q (F0 m pc ls st0) := by
  have hPc : va_P D classes [] H := fun k q h => by simp at h
  have hDc : va_D A [] := ⟨fun i j p q h => by simp at h, fun k q h => by simp at h⟩
  have hKc := hK.sub (tys' := []) [] rfl
  have hFc := va_free (wc := []) hD hS hA [] rfl
  refine va_calli (va_runS (As := As) (rest := rest) ⟨hx, hb, hml, hown, hts⟩ (hM H.size) (cwS np hts hg rfl hrc hrs hd hR) ⟨?_, ?_⟩ rfl hn hsz hst (lv_room hrm) hdg hf) hS (fun q _ h => hFc q h) hFc (fun x u t H1 locs1 ht hvm hw hB hz1 hk1 hS1 => ?_)
  · intro a U g mk q
    obtain ⟨q0, q1, qP, qK, qD⟩ := q
    exact ⟨q0, q1, qP, va_K.moved (u := U) (U := U.calling g mk a) (Vm.Alike.refl U.vm) qK, qD⟩
  · exact fun U hU hW => ⟨rfl, by rw [hU], by rw [hU]; exact hPc, va_K.moved hW.alike hKc, hDc.weaken (fun _ _ _ _ => trivial)⟩
  · have hw : x = r := hw
    subst hw
    obtain ⟨hP1, hK1, hD1⟩ := hB
    rw [ht] at hP1
    obtain ⟨hP2, hD2⟩ := va_join (wr := ws) (w1 := []) hP hD [] isR rfl hR' hnR (fun _ _ h => by cases h) hk1 hFc hP1 hD1
    rw [List.append_nil] at hP2 hD2
    exact kk H1 locs1 hP2 hD2 hS1
/-! instructions over nI -/
theorem zz_iald (hx : p.tables.exec = Jvm.exec) (hb : c.code = cc) (hK : va_K D classes tys s) (hP : va_P D classes ws H) (q0 t0 : Nat) {cA : ClassId} {k : Nat} {f : Nat → Int32} (ha : ws[q0]? = some (a, .inl (cA, k, .inl f))) (ht : tys[t0]? = some (cA, .int)) {i : Nat} (hi : i < k) (hk : k < 2 ^ 31) (hdg : decode cc pc = .ok (.iaload, 1))
    (kk : W p l e R s m args below meth c H locs cells slots Q (F0 m (pc + 1) ls (.int (f i) :: rest))) : W p l e R s m args below meth c H locs cells slots Q (F0 m pc ls (.int (nI i) :: .ref a :: rest)) := by
  refine va_iald hx hb hK hP q0 t0 ha ht (vp_in_nI hi hk) hdg ?_
  rw [nI_clamp (by omega)]
  exact kk
theorem zz_zald (hx : p.tables.exec = Jvm.exec) (hb : c.code = cc) (hK : va_K D classes tys s) (hP : va_P D classes ws H) (q0 t0 : Nat) {cA : ClassId} {k : Nat} {f : Nat → Int32} (ha : ws[q0]? = some (a, .inl (cA, k, .inl f))) (ht : tys[t0]? = some (cA, .boolean)) {i : Nat} (hi : i < k) (hk : k < 2 ^ 31) (hdg : decode cc pc = .ok (.baload, 1))
    (kk : W p l e R s m args below meth c H locs cells slots Q (F0 m (pc + 1) ls (.int (f i) :: rest))) : W p l e R s m args below meth c H locs cells slots Q (F0 m pc ls (.int (nI i) :: .ref a :: rest)) := by
  refine va_zald hx hb hK hP q0 t0 ha ht (vp_in_nI hi hk) hdg ?_
  rw [nI_clamp (by omega)]
  exact kk
theorem zz_iast (hx : p.tables.exec = Jvm.exec) (hb : c.code = cc) (hK : va_K D classes tys s) (hP : va_P D classes ws H) (hD : va_D A ws) {H0 : Heap} (hS : va_S A H0 H locs) (q0 t0 : Nat) {cA : ClassId} {k : Nat} {f : Nat → Int32} (ha : ws[q0]? = some (a, .inl (cA, k, .inl f))) (ht : tys[t0]? = some (cA, .int)) {i : Nat} {x : Int32} (hi : i < k) (hk : k < 2 ^ 31) (hdg : decode cc pc = .ok (.iastore, 1))
    {g : Nat → Int32} (hg : upd f i x = g) (hw : ws.set q0 (a, .inl (cA, k, .inl g)) = ws')
    (kk : ∀ (H1 : Heap) (locs1 : List Loc), va_P D classes ws' H1 → va_D A ws' → va_S A H0 H1 locs1 → W p l e R s m args below meth c H1 locs1 cells slots Q (F0 m (pc + 1) ls rest)) : W p l e R s m args below meth c H locs cells slots Q (F0 m pc ls (.int x :: .int (nI i) :: .ref a :: rest)) := by
  subst hw
  subst hg
  refine va_iast hx hb hK hP hD hS q0 t0 ha ht (vp_in_nI hi hk) hdg ?_
  rw [nI_clamp (by omega)]
  exact kk
theorem zz_zast (hx : p.tables.exec = Jvm.exec) (hb : c.code = cc) (hK : va_K D classes tys s) (hP : va_P D classes ws H) (hD : va_D A ws) {H0 : Heap} (hS : va_S A H0 H locs) (q0 t0 : Nat) {cA : ClassId} {k : Nat} {f : Nat → Int32} (ha : ws[q0]? = some (a, .inl (cA, k, .inl f))) (ht : tys[t0]? = some (cA, .boolean)) {i : Nat} {x : Int32} (hi : i < k) (hk : k < 2 ^ 31) (hdg : decode cc pc = .ok (.bastore, 1))
    (hxn : vp_nar .boolean x = x) {g : Nat → Int32} (hg : upd f i x = g) (hw : ws.set q0 (a, .inl (cA, k, .inl g)) = ws')
    (kk : ∀ (H1 : Heap) (locs1 : List Loc), va_P D classes ws' H1 → va_D A ws' → va_S A H0 H1 locs1 → W p l e R s m args below meth c H1 locs1 cells slots Q (F0 m (pc + 1) ls rest)) : W p l e R s m args below meth c H locs cells slots Q (F0 m pc ls (.int x :: .int (nI i) :: .ref a :: rest)) := by
  subst hw
  subst hg
  refine va_zast hx hb hK hP hD hS q0 t0 ha ht (vp_in_nI hi hk) hdg ?_
  rw [nI_clamp (by omega), hxn]
  exact kk
theorem zz_top {x z : Int32} (h : x = z) (k : W p l e R s m args below meth c H locs cells slots Q (F0 m pc ls (.int z :: rest))) : W p l e R s m args below meth c H locs cells slots Q (F0 m pc ls (.int x :: rest)) := h ▸ k
theorem zz_icmp_eq (hx : p.tables.exec = Jvm.exec) (hb : c.code = cc) {i j : Nat} {off : Int} {tgt : Nat} (hi : i < 2 ^ 31) (hj : j < 2 ^ 31) (hdg : decode cc pc = .ok (.if_icmp .eq off, 3)) (ht : (pc : Int) + off = (tgt : Int))
    (kt : i = j → W p l e R s m args below meth c H locs cells slots Q (F0 m tgt ls rest)) (kf : i ≠ j → W p l e R s m args below meth c H locs cells slots Q (F0 m (pc + 3) ls rest)) : W p l e R s m args below meth c H locs cells slots Q (F0 m pc ls (.int (nI j) :: .int (nI i) :: rest)) :=
  lv_icmp_eq hx hb hdg ht (fun h => kt ((nI_eq hi hj).mp h)) (fun h => kf (fun q => h ((nI_eq hi hj).mpr q)))
theorem zz_icmp_ne (hx : p.tables.exec = Jvm.exec) (hb : c.code = cc) {i j : Nat} {off : Int} {tgt : Nat} (hi : i < 2 ^ 31) (hj : j < 2 ^ 31) (hdg : decode cc pc = .ok (.if_icmp .ne off, 3)) (ht : (pc : Int) + off = (tgt : Int))
    (kt : i ≠ j → W p l e R s m args below meth c H locs cells slots Q (F0 m tgt ls rest)) (kf : i = j → W p l e R s m args below meth c H locs cells slots Q (F0 m (pc + 3) ls rest)) : W p l e R s m args below meth c H locs cells slots Q (F0 m pc ls (.int (nI j) :: .int (nI i) :: rest)) :=
  lv_icmp_ne hx hb hdg ht (fun h => kt (fun q => h ((nI_eq hi hj).mpr q))) (fun h => kf ((nI_eq hi hj).mp h))
theorem zz_icmp_lt (hx : p.tables.exec = Jvm.exec) (hb : c.code = cc) {i j : Nat} {off : Int} {tgt : Nat} (hi : i < 2 ^ 31) (hj : j < 2 ^ 31) (hdg : decode cc pc = .ok (.if_icmp .lt off, 3)) (ht : (pc : Int) + off = (tgt : Int))
    (kt : i < j → W p l e R s m args below meth c H locs cells slots Q (F0 m tgt ls rest)) (kf : j ≤ i → W p l e R s m args below meth c H locs cells slots Q (F0 m (pc + 3) ls rest)) : W p l e R s m args below meth c H locs cells slots Q (F0 m pc ls (.int (nI j) :: .int (nI i) :: rest)) :=
  lv_icmp_lt hx hb hdg ht (fun h => kt ((nI_ltI hi hj).mp h)) (fun h => kf (Nat.not_lt.mp (fun q => h ((nI_ltI hi hj).mpr q))))
theorem zz_icmp_ge (hx : p.tables.exec = Jvm.exec) (hb : c.code = cc) {i j : Nat} {off : Int} {tgt : Nat} (hi : i < 2 ^ 31) (hj : j < 2 ^ 31) (hdg : decode cc pc = .ok (.if_icmp .ge off, 3)) (ht : (pc : Int) + off = (tgt : Int))
    (kt : j ≤ i → W p l e R s m args below meth c H locs cells slots Q (F0 m tgt ls rest)) (kf : i < j → W p l e R s m args below meth c H locs cells slots Q (F0 m (pc + 3) ls rest)) : W p l e R s m args below meth c H locs cells slots Q (F0 m pc ls (.int (nI j) :: .int (nI i) :: rest)) :=
  lv_icmp_ge hx hb hdg ht (fun h => kt ((nI_leI hj hi).mp h)) (fun h => kf (Nat.not_le.mp (fun q => h ((nI_leI hj hi).mpr q))))
theorem zz_icmp_gt (hx : p.tables.exec = Jvm.exec) (hb : c.code = cc) {i j : Nat} {off : Int} {tgt : Nat} (hi : i < 2 ^ 31) (hj : j < 2 ^ 31) (hdg : decode cc pc = .ok (.if_icmp .gt off, 3)) (ht : (pc : Int) + off = (tgt : Int))
    (kt : j < i → W p l e R s m args below meth c H locs cells slots Q (F0 m tgt ls rest)) (kf : i ≤ j → W p l e R s m args below meth c H locs cells slots Q (F0 m (pc + 3) ls rest)) : W p l e R s m args below meth c H locs cells slots Q (F0 m pc ls (.int (nI j) :: .int (nI i) :: rest)) :=
  lv_icmp_gt hx hb hdg ht (fun h => kt ((nI_ltI hj hi).mp h)) (fun h => kf (Nat.not_lt.mp (fun q => h ((nI_ltI hj hi).mpr q))))
theorem zz_icmp_le (hx : p.tables.exec = Jvm.exec) (hb : c.code = cc) {i j : Nat} {off : Int} {tgt : Nat} (hi : i < 2 ^ 31) (hj : j < 2 ^ 31) (hdg : decode cc pc = .ok (.if_icmp .le off, 3)) (ht : (pc : Int) + off = (tgt : Int))
    (kt : i ≤ j → W p l e R s m args below meth c H locs cells slots Q (F0 m tgt ls rest)) (kf : j < i → W p l e R s m args below meth c H locs cells slots Q (F0 m (pc + 3) ls rest)) : W p l e R s m args below meth c H locs cells slots Q (F0 m pc ls (.int (nI j) :: .int (nI i) :: rest)) :=
  lv_icmp_le hx hb hdg ht (fun h => kt ((nI_leI hi hj).mp h)) (fun h => kf (Nat.not_le.mp (fun q => h ((nI_leI hi hj).mpr q))))
theorem zz_if_eq (hx : p.tables.exec = Jvm.exec) (hb : c.code = cc) {i : Nat} {off : Int} {tgt : Nat} (hi : i < 2 ^ 31) (hdg : decode cc pc = .ok (.ifCond .eq off, 3)) (ht : (pc : Int) + off = (tgt : Int))
    (kt : i = 0 → W p l e R s m args below meth c H locs cells slots Q (F0 m tgt ls rest)) (kf : 0 < i → W p l e R s m args below meth c H locs cells slots Q (F0 m (pc + 3) ls rest)) : W p l e R s m args below meth c H locs cells slots Q (F0 m pc ls (.int (nI i) :: rest)) :=
  lv_if_eq hx hb hdg ht (fun h => kt (Decidable.byContradiction fun q => nI_ne0 (by omega) hi h)) (fun h => kf (Nat.pos_of_ne_zero (fun q => h (by rw [q]; exact nI_0))))
theorem zz_if_ne (hx : p.tables.exec = Jvm.exec) (hb : c.code = cc) {i : Nat} {off : Int} {tgt : Nat} (hi : i < 2 ^ 31) (hdg : decode cc pc = .ok (.ifCond .ne off, 3)) (ht : (pc : Int) + off = (tgt : Int))
    (kt : 0 < i → W p l e R s m args below meth c H locs cells slots Q (F0 m tgt ls rest)) (kf : i = 0 → W p l e R s m args below meth c H locs cells slots Q (F0 m (pc + 3) ls rest)) : W p l e R s m args below meth c H locs cells slots Q (F0 m pc ls (.int (nI i) :: rest)) :=
  lv_if_ne hx hb hdg ht (fun h => kt (Nat.pos_of_ne_zero (fun q => h (by rw [q]; exact nI_0)))) (fun h => kf (Decidable.byContradiction fun q => nI_ne0 (by omega) hi h))
theorem zz_if_gt (hx : p.tables.exec = Jvm.exec) (hb : c.code = cc) {i : Nat} {off : Int} {tgt : Nat} (hi : i < 2 ^ 31) (hdg : decode cc pc = .ok (.ifCond .gt off, 3)) (ht : (pc : Int) + off = (tgt : Int))
    (kt : 0 < i → W p l e R s m args below meth c H locs cells slots Q (F0 m tgt ls rest)) (kf : i = 0 → W p l e R s m args below meth c H locs cells slots Q (F0 m (pc + 3) ls rest)) : W p l e R s m args below meth c H locs cells slots Q (F0 m pc ls (.int (nI i) :: rest)) :=
  lv_if_gt hx hb hdg ht (fun h => kt (Nat.pos_of_ne_zero (fun q => by rw [q, nI_0] at h; exact absurd h (by decide)))) (fun h => kf (Decidable.byContradiction fun q => h (by rw [← nI_0]; exact nI_lt (by omega) hi)))
theorem zz_if_le (hx : p.tables.exec = Jvm.exec) (hb : c.code = cc) {i : Nat} {off : Int} {tgt : Nat} (hi : i < 2 ^ 31) (hdg : decode cc pc = .ok (.ifCond .le off, 3)) (ht : (pc : Int) + off = (tgt : Int))
    (kt : i = 0 → W p l e R s m args below meth c H locs cells slots Q (F0 m tgt ls rest)) (kf : 0 < i → W p l e R s m args below meth c H locs cells slots Q (F0 m (pc + 3) ls rest)) : W p l e R s m args below meth c H locs cells slots Q (F0 m pc ls (.int (nI i) :: rest)) :=
  lv_if_le hx hb hdg ht (fun h => kt (Decidable.byContradiction fun q => nI_nle (by omega) hi h)) (fun h => kf (Nat.pos_of_ne_zero (fun q => h (by rw [q, nI_0]; decide))))
theorem zz_iadd (hx : p.tables.exec = Jvm.exec) (hb : c.code = cc) {i j : Nat} (hdg : decode cc pc = .ok (.iadd, 1))
    (k : W p l e R s m args below meth c H locs cells slots Q (F0 m (pc + 1) ls (.int (nI (i + j)) :: rest))) : W p l e R s m args below meth c H locs cells slots Q (F0 m pc ls (.int (nI j) :: .int (nI i) :: rest)) := by
  refine lv_iadd hx hb hdg ?_
  rw [nI_add]
  exact k
theorem zz_isub (hx : p.tables.exec = Jvm.exec) (hb : c.code = cc) {i j : Nat} (hij : j ≤ i) (hdg : decode cc pc = .ok (.isub, 1))
    (k : W p l e R s m args below meth c H locs cells slots Q (F0 m (pc + 1) ls (.int (nI (i - j)) :: rest))) : W p l e R s m args below meth c H locs cells slots Q (F0 m pc ls (.int (nI j) :: .int (nI i) :: rest)) := by
  refine lv_isub hx hb hdg ?_
  rw [pk_sub hij]
  exact k
theorem zz_imul (hx : p.tables.exec = Jvm.exec) (hb : c.code = cc) {i j : Nat} (hdg : decode cc pc = .ok (.imul, 1))
    (k : W p l e R s m args below meth c H locs cells slots Q (F0 m (pc + 1) ls (.int (nI (i * j)) :: rest))) : W p l e R s m args below meth c H locs cells slots Q (F0 m pc ls (.int (nI j) :: .int (nI i) :: rest)) := by
  refine lv_imul hx hb hdg ?_
  rw [pk_mul]
  exact k
end BASEW
section BASES
variable {p : Program} {l : Launch} {e : Env} {R : Room} {s : State} {m : MethodId} {args : Array Value} {below : List Frame} {meth : Method} {c : Code} {H : Heap} {locs : List Loc} {cells slots pc : Nat} {Q : State → Prop} {ls : Array Slot} {rest : List Value}
theorem zz_bI {b : Bool} (kt : b = true → W p l e R s m args below meth c H locs cells slots Q (F0 m pc ls (.int (nI 1) :: rest))) (kf : b = false → W p l e R s m args below meth c H locs cells slots Q (F0 m pc ls (.int (nI 0) :: rest))) : W p l e R s m args below meth c H locs cells slots Q (F0 m pc ls (.int (lc_bI b) :: rest)) := by
  cases b with
  | true => exact kt rfl
  | false => exact kf rfl
theorem zz_oI {o : Option Nat} (kn : o = none → W p l e R s m args below meth c H locs cells slots Q (F0 m pc ls (.int (-1) :: rest))) (ks : ∀ k, o = some k → W p l e R s m args below meth c H locs cells slots Q (F0 m pc ls (.int (nI k) :: rest))) : W p l e R s m args below meth c H locs cells slots Q (F0 m pc ls (.int (lc_oI o) :: rest)) := by
  cases o with
  | none => exact kn rfl
  | some k => exact ks k rfl
theorem zz_pl {x : Int32} {n : Nat} (hn : n < 2 ^ 31) (kn : lc_pl x n = none → W p l e R s m args below meth c H locs cells slots Q (F0 m pc ls (.int (nI 0) :: rest))) (ks : ∀ j, j < n → x = nI j → lc_pl x n = some j → W p l e R s m args below meth c H locs cells slots Q (F0 m pc ls (.int (nI 1) :: rest))) : W p l e R s m args below meth c H locs cells slots Q (F0 m pc ls (.int (lc_bI (lc_pl x n).isSome) :: rest)) := by
  cases h : lc_pl x n with
  | none => exact kn h
  | some j =>
    obtain ⟨h1, h2⟩ := lc_pl_spec hn h
    exact ks j h1 h2 h
end BASES
theorem zz_upN (f : Nat → Nat) (k v : Nat) : upd (fun i => nI (f i)) k (nI v) = fun i => nI (va_up f k v i) := by
  funext j
  by_cases h : j = k
  · subst h; rw [pk_us, va_up_self]
  · rw [pk_un h, va_up_ne f v h]
theorem zz_upB (f : Nat → Bool) (k : Nat) (v : Bool) : upd (fun i => lc_bI (f i)) k (lc_bI v) = fun i => lc_bI (va_up f k v i) := by
  funext j
  by_cases h : j = k
  · subst h; rw [pk_us, va_up_self]
  · rw [pk_un h, va_up_ne f v h]
theorem zz_nm1 {i : Nat} (hi : i < 2 ^ 31) : ¬ nI i = -1 := by
  intro h
  have h1 := congrArg Int32.toInt h
  rw [nI_toInt hi] at h1
  have h2 : (-1 : Int32).toInt = -1 := by decide
  rw [h2] at h1
  omega
end
