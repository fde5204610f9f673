section
section PURE1
/-! pure words, and what they say: first, last, count, any, sum, run -/
def lc_bI (b : Bool) : Int32 := if b = true then nI 1 else nI 0
def lc_oI (o : Option Nat) : Int32 := match o with
  | none => -1
  | some k => nI k
def lc_ff (p : Nat → Bool) : Nat → Nat → Option Nat
  | 0, _ => none
  | f + 1, i => if p i = true then some i else lc_ff p f (i + 1)
def lc_lf (p : Nat → Bool) : Nat → Option Nat
  | 0 => none
  | n + 1 => if p n = true then some n else lc_lf p n
def lc_ct (p : Nat → Bool) : Nat → Nat
  | 0 => 0
  | n + 1 => lc_ct p n + (if p n = true then 1 else 0)
def lc_an (p : Nat → Bool) : Nat → Bool
  | 0 => false
  | n + 1 => lc_an p n || p n
def lc_sm (f : Nat → Nat) : Nat → Nat
  | 0 => 0
  | n + 1 => lc_sm f n + f n
def lc_rn (p : Nat → Bool) : Nat → Nat → Nat
  | 0, _ => 0
  | f + 1, i => if p i = true then lc_rn p f (i + 1) + 1 else 0
theorem lc_ff_none {p : Nat → Bool} : ∀ (f i : Nat), (∀ k, i ≤ k → k < i + f → p k = false) → lc_ff p f i = none := by
  intro f
  induction f with
  | zero => intro i _; rfl
  | succ f ih =>
    intro i h
    have h0 : p i = false := h i (Nat.le_refl i) (by omega)
    simp only [lc_ff, h0]
    exact ih (i + 1) (fun k h1 h2 => h k (by omega) (by omega))
theorem lc_ff_some {p : Nat → Bool} : ∀ (f i k : Nat), i ≤ k → k < i + f → p k = true → (∀ j, i ≤ j → j < k → p j = false) → lc_ff p f i = some k := by
  intro f
  induction f with
  | zero => intro i k h1 h2; omega
  | succ f ih =>
    intro i k h1 h2 h3 h4
    by_cases e : i = k
    · subst e
      simp only [lc_ff, h3, if_true]
    · have h0 : p i = false := h4 i (Nat.le_refl i) (by omega)
      simp only [lc_ff, h0]
      exact ih (i + 1) k (by omega) (by omega) h3 (fun j a b => h4 j (by omega) b)
theorem lc_ff_spec {p : Nat → Bool} : ∀ (f i k : Nat), lc_ff p f i = some k → i ≤ k ∧ k < i + f ∧ p k = true ∧ ∀ j, i ≤ j → j < k → p j = false := by
  intro f
  induction f with
  | zero => intro i k h; simp [lc_ff] at h
  | succ f ih =>
    intro i k h
    by_cases e : p i = true
    · simp only [lc_ff, e, if_true] at h
      cases h
      exact ⟨Nat.le_refl i, by omega, e, fun j a b => by omega⟩
    · simp only [lc_ff, e] at h
      obtain ⟨h1, h2, h3, h4⟩ := ih (i + 1) k h
      refine ⟨by omega, by omega, h3, fun j a b => ?_⟩
      by_cases ej : j = i
      · subst ej; simpa using e
      · exact h4 j (by omega) b
theorem lc_ff_nspec {p : Nat → Bool} : ∀ (f i : Nat), lc_ff p f i = none → ∀ k, i ≤ k → k < i + f → p k = false := by
  intro f
  induction f with
  | zero => intro i _ k h1 h2; omega
  | succ f ih =>
    intro i h k h1 h2
    by_cases e : p i = true
    · simp only [lc_ff, e, if_true] at h
      cases h
    · simp only [lc_ff, e] at h
      by_cases ek : k = i
      · subst ek; simpa using e
      · exact ih (i + 1) h k (by omega) (by omega)
theorem lc_ff_ext {p q : Nat → Bool} : ∀ (f i : Nat), (∀ k, i ≤ k → k < i + f → p k = q k) → lc_ff p f i = lc_ff q f i := by
  intro f
  induction f with
  | zero => intro i _; rfl
  | succ f ih =>
    intro i h
    simp only [lc_ff, h i (Nat.le_refl i) (by omega), ih (i + 1) (fun k a b => h k (by omega) (by omega))]
theorem lc_lf_none {p : Nat → Bool} : ∀ (n : Nat), (∀ k, k < n → p k = false) → lc_lf p n = none := by
  intro n
  induction n with
  | zero => intro _; rfl
  | succ n ih =>
    intro h
    have h0 : p n = false := h n (by omega)
    simp only [lc_lf, h0]
    exact ih (fun k a => h k (by omega))
theorem lc_lf_some {p : Nat → Bool} : ∀ (n k : Nat), k < n → p k = true → (∀ j, j < n → p j = true → j = k) → lc_lf p n = some k := by
  intro n
  induction n with
  | zero => intro k h; omega
  | succ n ih =>
    intro k h1 h2 h3
    by_cases e : p n = true
    · have := h3 n (by omega) e
      subst this
      simp only [lc_lf, e, if_true]
    · simp only [lc_lf, e]
      refine ih k ?_ h2 (fun j a b => h3 j (by omega) b)
      rcases Nat.lt_or_ge k n with q | q
      · exact q
      · have : k = n := by omega
        subst this
        exact absurd h2 e
theorem lc_ct_ext {p q : Nat → Bool} : ∀ (n : Nat), (∀ k, k < n → p k = q k) → lc_ct p n = lc_ct q n := by
  intro n
  induction n with
  | zero => intro _; rfl
  | succ n ih =>
    intro h
    simp only [lc_ct, h n (by omega), ih (fun k a => h k (by omega))]
theorem lc_ct_le {p : Nat → Bool} : ∀ (n : Nat), lc_ct p n ≤ n := by
  intro n
  induction n with
  | zero => exact Nat.le_refl 0
  | succ n ih =>
    simp only [lc_ct]
    split <;> omega
theorem lc_ct_mono {p q : Nat → Bool} : ∀ (n : Nat), (∀ k, k < n → p k = true → q k = true) → lc_ct p n ≤ lc_ct q n := by
  intro n
  induction n with
  | zero => intro _; exact Nat.le_refl 0
  | succ n ih =>
    intro h
    have h1 := ih (fun k a => h k (by omega))
    have h2 := h n (by omega)
    simp only [lc_ct]
    by_cases e : p n = true
    · simp only [e, h2 e, if_true]; omega
    · by_cases f : q n = true
      · simp only [e, f, if_true, if_false, Bool.false_eq_true]; omega
      · simp only [e, f, if_false, Bool.false_eq_true]; omega
theorem lc_ct_zero {p : Nat → Bool} : ∀ (n : Nat), lc_ct p n = 0 → ∀ k, k < n → p k = false := by
  intro n
  induction n with
  | zero => intro _ k h; omega
  | succ n ih =>
    intro h k hk
    simp only [lc_ct] at h
    have h1 : lc_ct p n = 0 := by omega
    by_cases e : p n = true
    · simp [e] at h
    · by_cases ek : k = n
      · subst ek; simpa using e
      · exact ih h1 k (by omega)
theorem lc_ct_none {p : Nat → Bool} : ∀ (n : Nat), (∀ k, k < n → p k = false) → lc_ct p n = 0 := by
  intro n
  induction n with
  | zero => intro _; rfl
  | succ n ih =>
    intro h
    simp [lc_ct, h n (by omega), ih (fun k a => h k (by omega))]
theorem lc_ct_upd {p q : Nat → Bool} : ∀ (n a : Nat), a < n → (∀ k, k < n → k ≠ a → q k = p k) → lc_ct q n + (if p a = true then 1 else 0) = lc_ct p n + (if q a = true then 1 else 0) := by
  intro n
  induction n with
  | zero => intro a h; omega
  | succ n ih =>
    intro a h1 h2
    simp only [lc_ct]
    by_cases e : a = n
    · subst e
      rw [lc_ct_ext a (fun k hk => h2 k (by omega) (by omega))]
      omega
    · rw [h2 n (by omega) (fun z => e z.symm)]
      have := ih a (by omega) (fun k hk hn => h2 k (by omega) hn)
      omega
theorem lc_sm_ext {f g : Nat → Nat} : ∀ (n : Nat), (∀ k, k < n → f k = g k) → lc_sm f n = lc_sm g n := by
  intro n
  induction n with
  | zero => intro _; rfl
  | succ n ih =>
    intro h
    simp only [lc_sm, h n (by omega), ih (fun k a => h k (by omega))]
theorem lc_sm_mono {f g : Nat → Nat} : ∀ (n : Nat), (∀ k, k < n → f k ≤ g k) → lc_sm f n ≤ lc_sm g n := by
  intro n
  induction n with
  | zero => intro _; exact Nat.le_refl 0
  | succ n ih =>
    intro h
    have h1 := ih (fun k a => h k (by omega))
    have h2 := h n (by omega)
    simp only [lc_sm]
    omega
theorem lc_sm_upd {f g : Nat → Nat} : ∀ (n a : Nat), a < n → (∀ k, k < n → k ≠ a → g k = f k) → lc_sm g n + f a = lc_sm f n + g a := by
  intro n
  induction n with
  | zero => intro a h; omega
  | succ n ih =>
    intro a h1 h2
    simp only [lc_sm]
    by_cases e : a = n
    · subst e
      rw [lc_sm_ext a (fun k hk => h2 k (by omega) (by omega))]
      omega
    · rw [h2 n (by omega) (fun z => e z.symm)]
      have := ih a (by omega) (fun k hk hn => h2 k (by omega) hn)
      omega
theorem lc_sm_zero {f : Nat → Nat} : ∀ (n : Nat), lc_sm f n = 0 → ∀ k, k < n → f k = 0 := by
  intro n
  induction n with
  | zero => intro _ k h; omega
  | succ n ih =>
    intro h k hk
    simp only [lc_sm] at h
    by_cases ek : k = n
    · subst ek; omega
    · exact ih (by omega) k (by omega)
theorem lc_sm_le {f : Nat → Nat} {b : Nat} : ∀ (n : Nat), (∀ k, k < n → f k ≤ b) → lc_sm f n ≤ n * b := by
  intro n
  induction n with
  | zero => intro _; simp [lc_sm]
  | succ n ih =>
    intro h
    have h1 := ih (fun k a => h k (by omega))
    have h2 := h n (by omega)
    simp only [lc_sm, Nat.succ_mul]
    omega
theorem lc_an_true {p : Nat → Bool} : ∀ (n i : Nat), i < n → p i = true → lc_an p n = true := by
  intro n
  induction n with
  | zero => intro i h; omega
  | succ n ih =>
    intro i h1 h2
    simp only [lc_an, Bool.or_eq_true]
    by_cases e : i = n
    · subst e; exact Or.inr h2
    · exact Or.inl (ih i (by omega) h2)
theorem lc_an_false {p : Nat → Bool} : ∀ (n : Nat), (∀ i, i < n → p i = false) → lc_an p n = false := by
  intro n
  induction n with
  | zero => intro _; rfl
  | succ n ih =>
    intro h
    simp [lc_an, h n (by omega), ih (fun k a => h k (by omega))]
theorem lc_an_spec {p : Nat → Bool} : ∀ (n : Nat), lc_an p n = true → ∃ i, i < n ∧ p i = true := by
  intro n
  induction n with
  | zero => intro h; simp [lc_an] at h
  | succ n ih =>
    intro h
    simp only [lc_an, Bool.or_eq_true] at h
    rcases h with h | h
    · obtain ⟨i, h1, h2⟩ := ih h
      exact ⟨i, by omega, h2⟩
    · exact ⟨n, by omega, h⟩
theorem lc_an_nspec {p : Nat → Bool} (n : Nat) (h : lc_an p n = false) : ∀ i, i < n → p i = false := by
  intro i hi
  cases e : p i with
  | false => rfl
  | true => rw [lc_an_true n i hi e] at h; cases h
theorem lc_rn_le {p : Nat → Bool} : ∀ (f i : Nat), lc_rn p f i ≤ f := by
  intro f
  induction f with
  | zero => intro i; exact Nat.le_refl 0
  | succ f ih =>
    intro i
    simp only [lc_rn]
    have := ih (i + 1)
    split <;> omega
theorem lc_rn_eq {p : Nat → Bool} : ∀ (f i j : Nat), j ≤ f → (∀ k, k < j → p (i + k) = true) → (j = f ∨ p (i + j) = false) → lc_rn p f i = j := by
  intro f
  induction f with
  | zero => intro i j h1 _ _; simp only [lc_rn]; omega
  | succ f ih =>
    intro i j h1 h2 h3
    cases j with
    | zero =>
      rcases h3 with h | h
      · omega
      · simp at h
        simp [lc_rn, h]
    | succ j =>
      have h0 : p i = true := by simpa using h2 0 (by omega)
      simp only [lc_rn, h0, if_true]
      rw [ih (i + 1) j (by omega) (fun k hk => by have := h2 (k + 1) (by omega); rwa [show i + (k + 1) = i + 1 + k by omega] at this) (by
        rcases h3 with h | h
        · exact Or.inl (by omega)
        · exact Or.inr (by rwa [show i + (j + 1) = i + 1 + j by omega] at h))]
theorem lc_rn_all {p : Nat → Bool} : ∀ (f i k : Nat), k < lc_rn p f i → p (i + k) = true := by
  intro f
  induction f with
  | zero => intro i k h; simp [lc_rn] at h
  | succ f ih =>
    intro i k h
    by_cases e : p i = true
    · simp only [lc_rn, e, if_true] at h
      cases k with
      | zero => simpa using e
      | succ k =>
        have := ih (i + 1) k (by omega)
        rwa [show i + (k + 1) = i + 1 + k by omega]
    · simp [lc_rn, e] at h
theorem lc_ct_cutp {p q : Nat → Bool} : ∀ (n : Nat), (∀ c, c < n → q c = true → p c = true) → lc_ct p n = lc_ct (fun c => p c && !q c) n + lc_ct q n := by
  intro n
  induction n with
  | zero => intro _; rfl
  | succ n ih =>
    intro h
    have h1 := ih (fun c hc => h c (by omega))
    have h2 := h n (by omega)
    simp only [lc_ct]
    by_cases e1 : q n = true
    · simp only [e1, h2 e1, if_true, Bool.not_true, Bool.and_false, Bool.false_eq_true, if_false]; omega
    · have e2 : q n = false := by simpa using e1
      simp only [e2, Bool.not_false, Bool.and_true, Bool.false_eq_true, if_false]; omega
end PURE1
end
section
section MIRROR
/-! what the class's methods do, as functions of its arrays: fo owners, fw words, md made, fp places, ht height, fe the log's objects, M what they held, len its length, rk reckoned -/
abbrev lc_A : Type := Nat → Int32
abbrev lc_CS : Type := lc_A × lc_A × Nat × lc_A × Nat × lc_A × (Nat → lc_A) × Nat × Int32
def lc_pl (x : Int32) (n : Nat) : Option Nat := if 0 ≤ x ∧ x < nI n then some x.toNatClampNeg else none
theorem lc_pl_spec {x : Int32} {n j : Nat} (hn : n < 2 ^ 31) (h : lc_pl x n = some j) : j < n ∧ x = nI j := by
  unfold lc_pl at h
  by_cases q : 0 ≤ x ∧ x < nI n
  · rw [if_pos q] at h
    cases h
    rcases pk_ix x hn with z | z | ⟨j, hj, rfl⟩
    · exact absurd q.1 (Int32.not_le.mpr z)
    · exact absurd q.2 (Int32.not_lt.mpr z)
    · rw [nI_clamp (by omega)]
      exact ⟨hj, rfl⟩
  · rw [if_neg q] at h
    cases h
theorem lc_pl_nI {n j : Nat} (hn : n < 2 ^ 31) (hj : j < n) : lc_pl (nI j) n = some j := by
  unfold lc_pl
  rw [if_pos ⟨nI_pos' (by omega), nI_lt hj hn⟩, nI_clamp (by omega)]
theorem lc_pl_no {x : Int32} {n : Nat} (h : x < 0 ∨ nI n ≤ x) : lc_pl x n = none := by
  unfold lc_pl
  rw [if_neg]
  rintro ⟨q1, q2⟩
  rcases h with z | z
  · exact absurd q1 (Int32.not_le.mpr z)
  · exact absurd q2 (Int32.not_lt.mpr z)
def lc_first (fo : lc_A) (x : Int32) : Option Nat := if x = 0 then none else lc_ff (fun i => decide (fo i = x)) 48 0
def lc_sa (fo : lc_A) (a : Nat) : Nat := lc_rn (fun i => decide (fo i = fo a)) (47 - a) (a + 1)
def lc_sao (fo : lc_A) (o : Option Nat) : Nat := match o with
  | none => 0
  | some a => lc_sa fo a
def lc_isF (fo : lc_A) (i : Nat) : Bool := decide (fo i ≠ 0) && (decide (i = 0) || decide (fo (i - 1) ≠ fo i))
def lc_isU (fo fw : lc_A) (i : Nat) : Bool := lc_isF fo i && decide (fw i = 0)
def lc_add (fo fw : lc_A) (x d : Int32) : lc_A := match lc_first fo x with
  | none => fw
  | some f => upd fw f (fw f + d)
def lc_rm (fo : lc_A) (n : Nat) : Nat → Nat → Nat → Option Nat
  | 0, _, _ => none
  | f + 1, i, run => if (if fo i = 0 then run + 1 else 0) = n then some (i + 1 - n) else lc_rm fo n f (i + 1) (if fo i = 0 then run + 1 else 0)
def lc_room (fo : lc_A) (n : Nat) : Option Nat := lc_rm fo n 48 0 0
def lc_fill (f : lc_A) (a n : Nat) (v : Int32) : lc_A := fun i => if a ≤ i ∧ i < a + n then v else f i
def lc_gb (fo fw : lc_A) (a : Nat) : Nat → lc_A
  | 0 => fw
  | j + 1 => lc_add fo (lc_gb fo fw a j) (lc_gb fo fw a j (a + 1 + j)) (-1)
def lc_cc (fo : lc_A) (a : Nat) (B fw : lc_A) : Nat → lc_A
  | 0 => fw
  | j + 1 => lc_add fo (lc_add fo (lc_cc fo a B fw j) (B j) (-1)) (lc_add fo (lc_cc fo a B fw j) (B j) (-1) (a + 1 + j)) 1
def lc_cco (fo : lc_A) (o : Option Nat) (B fw : lc_A) : lc_A := match o with
  | none => fw
  | some a => lc_cc fo a B fw (lc_sa fo a)
def lc_cl (fo fe : lc_A) (M : Nat → lc_A) (fw : lc_A) : Nat → lc_A
  | 0 => fw
  | k + 1 => lc_cco fo (lc_first fo (fe k)) (M k) (lc_cl fo fe M fw k)
def lc_on (fp : lc_A) (ht : Nat) (x : Int32) : Bool := lc_an (fun i => decide (fp i = x)) ht
def lc_un (fo fw fp : lc_A) (ht : Nat) : Option Nat := lc_ff (fun i => lc_isU fo fw i && !lc_on fp ht (fo i)) 48 0
def lc_fr (fp : lc_A) (ht : Nat) : Nat → lc_A → lc_A → lc_A × lc_A × Nat
  | 0, fo, fw => (fo, fw, 0)
  | f + 1, fo, fw => match lc_un fo fw fp ht with
    | none => (fo, fw, 0)
    | some a => ((lc_fr fp ht f (lc_fill fo a (lc_sa fo a + 1) 0) (lc_gb fo fw a (lc_sa fo a))).1, (lc_fr fp ht f (lc_fill fo a (lc_sa fo a + 1) 0) (lc_gb fo fw a (lc_sa fo a))).2.1, (lc_fr fp ht f (lc_fill fo a (lc_sa fo a + 1) 0) (lc_gb fo fw a (lc_sa fo a))).2.2 + 1)
/-- a reckoning: owners, words, how many were given back -/
def lc_bu (fo fw fp : lc_A) (ht : Nat) (fe : lc_A) (M : Nat → lc_A) (len : Nat) : lc_A × lc_A × Nat := lc_fr fp ht 48 fo (lc_cl fo fe M fw len)
/-- the row that an entry holds, with the slots of the object at a -/
def lc_nr (fw : lc_A) (a : Nat) (B : lc_A) (n : Nat) : lc_A := fun j => if j < n then fw (a + 1 + j) else B j
def lc_fca (fo fp : lc_A) (ht : Nat) (p : Int32) : Option Nat := match lc_pl p ht with
  | none => none
  | some j => lc_first fo (fp j)
end MIRROR
section MIRRORM
/-! the reference: nu number, s slots, co counts, nt noted, ho holds -/
def lm_find (nu : lc_A) (s : Nat → Nat) (x : Int32) : Option Nat := lc_lf (fun c => decide (0 < s c) && decide (nu c = x)) 48
def lm_hs (s : Nat → Nat) (ho : lc_A) (x : Int32) : Nat → Nat := lc_sm (fun c => lc_ct (fun k => decide (ho (c + 1 + k) = x)) (s c))
def lm_rc (s : Nat → Nat) (nu ho : lc_A) (c : Nat) : Int32 := if 0 < s c then nI (lm_hs s ho (nu c) 48) else nI 0
def lm_mix (c : Nat) (g f : lc_A) : lc_A := fun i => if i < c then g i else f i
def lm_mixB (c : Nat) (f : Nat → Bool) : Nat → Bool := fun i => if i < c then false else f i
def lm_fr (s : Nat → Nat) (co nu fp : lc_A) (ht : Nat) (c : Nat) : Bool := decide (0 < s c) && decide (co c = 0) && !lc_on fp ht (nu c)
def lm_cut (p : Nat → Bool) (s : Nat → Nat) (c : Nat) : Nat → Nat := fun i => if i < c ∧ p i = true then 0 else s i
def lm_st (nu ho fp : lc_A) (ht : Nat) : Nat → (Nat → Nat) → lc_A → (Nat → Bool) → (Nat → Nat) × lc_A × (Nat → Bool)
  | 0, s, co, nt => (s, co, nt)
  | f + 1, s, co, nt => if lc_ct (lm_fr s (lm_mix 48 (lm_rc s nu ho) co) nu fp ht) 48 = 0 then (lm_cut (lm_fr s (lm_mix 48 (lm_rc s nu ho) co) nu fp ht) s 48, lm_mix 48 (lm_rc s nu ho) co, lm_mixB 48 nt)
    else lm_st nu ho fp ht f (lm_cut (lm_fr s (lm_mix 48 (lm_rc s nu ho) co) nu fp ht) s 48) (lm_mix 48 (lm_rc s nu ho) co) (lm_mixB 48 nt)
def lm_rm (s : Nat → Nat) (n : Nat) : Nat → Nat → Nat → Option Nat
  | 0, _, _ => none
  | f + 1, c, run => if c < 48 then (if 0 < s c then lm_rm s n f (c + s c + 1) 0 else if run + 1 = n then some (c + 1 - n) else lm_rm s n f (c + 1) (run + 1)) else none
def lm_room (s : Nat → Nat) (n : Nat) : Option Nat := lm_rm s n 49 0 0
end MIRRORM
end
section
section OPS
/-! the calls: answers and states. The class: -/
def lx_lay (fo fw : lc_A) (md : Nat) (fp : lc_A) (ht : Nat) (fe : lc_A) (M : Nat → lc_A) (len : Nat) (rk : Int32) (a n : Nat) : lc_CS := (lc_fill fo a (n + 1) (nI (md + 1)), lc_fill fw a (n + 1) 0, md + 1, upd fp ht (nI (md + 1)), ht + 1, fe, M, len, rk)
def lx_bring (fo fw : lc_A) (md : Nat) (fp : lc_A) (ht : Nat) (fe : lc_A) (M : Nat → lc_A) (len : Nat) (rk : Int32) : lc_CS := ((lc_bu fo fw fp ht fe M len).1, (lc_bu fo fw fp ht fe M len).2.1, md, fp, ht, fe, M, 0, rk + nI 1)
def lc_14 (x : Int32) : Option Nat := if nI 1 ≤ x ∧ x ≤ nI 4 then some x.toNatClampNeg else none
theorem lc_14_spec {x : Int32} {n : Nat} (h : lc_14 x = some n) : 1 ≤ n ∧ n ≤ 4 ∧ x = nI n := by
  unfold lc_14 at h
  by_cases q : nI 1 ≤ x ∧ x ≤ nI 4
  · rw [if_pos q] at h
    cases h
    have h0 : ¬ x < 0 := fun z => absurd (Int32.lt_of_le_of_lt q.1 z) (by decide +kernel)
    obtain ⟨j, hj, e⟩ := nI_of2 (M := nI 4) (n := 4) (by decide +kernel) h0 q.2
    subst e
    rw [nI_clamp (by omega)]
    refine ⟨?_, hj, rfl⟩
    have h1 : nI 1 ≤ nI j := q.1
    exact (nI_leI (by omega) (by omega)).mp h1
  · rw [if_neg q] at h
    cases h
theorem lc_14_no {x : Int32} (h : x < nI 1 ∨ nI 4 < x) : lc_14 x = none := by
  unfold lc_14
  rw [if_neg]
  rintro ⟨q1, q2⟩
  rcases h with z | z
  · exact absurd q1 (Int32.not_le.mpr z)
  · exact absurd q2 (Int32.not_le.mpr z)
theorem lc_14_yes {x : Int32} (h1 : nI 1 ≤ x) (h2 : x ≤ nI 4) : ∃ n, 1 ≤ n ∧ n ≤ 4 ∧ x = nI n ∧ lc_14 x = some n := by
  have h : lc_14 x = some x.toNatClampNeg := by
    unfold lc_14
    rw [if_pos ⟨h1, h2⟩]
  obtain ⟨a, b, c⟩ := lc_14_spec h
  exact ⟨_, a, b, c, h⟩
def lx_make (fo fw : lc_A) (md : Nat) (fp : lc_A) (ht : Nat) (fe : lc_A) (M : Nat → lc_A) (len : Nat) (rk : Int32) (x : Int32) : Int32 × lc_CS := match lc_14 x with
  | none => (-1, fo, fw, md, fp, ht, fe, M, len, rk)
  | some n => if ht = 8 then (-2, fo, fw, md, fp, ht, fe, M, len, rk) else match lc_room fo (n + 1) with
    | some a => (nI (md + 1), lx_lay fo fw md fp ht fe M len rk a n)
    | none => match lc_room (lc_bu fo fw fp ht fe M len).1 (n + 1) with
      | some a => (nI (md + 1), lx_lay (lc_bu fo fw fp ht fe M len).1 (lc_bu fo fw fp ht fe M len).2.1 md fp ht fe M 0 (rk + nI 1) a n)
      | none => (-3, lx_bring fo fw md fp ht fe M len rk)
def lx_push (fp : lc_A) (ht : Nat) (o : Option Int32) : Int32 × lc_A × Nat := match o with
  | none => (-1, fp, ht)
  | some x => if ht = 8 then (-2, fp, ht) else (x, upd fp ht x, ht + 1)
def lx_copy (fp : lc_A) (ht : Nat) (x : Int32) : Int32 × lc_A × Nat := match lc_pl x ht with
  | none => (-1, fp, ht)
  | some j => if ht = 8 then (-2, fp, ht) else (fp j, upd fp ht (fp j), ht + 1)
def lx_load (fo fw fp : lc_A) (ht : Nat) (x z : Int32) : Int32 × lc_A × Nat := match lc_fca fo fp ht x with
  | none => (-1, fp, ht)
  | some a => match lc_pl z (lc_sa fo a) with
    | none => (-1, fp, ht)
    | some j => if ht = 8 then (-2, fp, ht) else (fw (a + 1 + j), upd fp ht (fw (a + 1 + j)), ht + 1)
/-- the log takes the object at a in, if it isn't there -/
def lx_note (fo fw : lc_A) (md : Nat) (fp : lc_A) (ht : Nat) (fe : lc_A) (M : Nat → lc_A) (len : Nat) (rk : Int32) (a : Nat) : lc_CS :=
  if lc_on fe len (fo a) = true then (fo, fw, md, fp, ht, fe, M, len, rk)
  else if len = 5 then ((lc_bu fo fw fp ht fe M len).1, (lc_bu fo fw fp ht fe M len).2.1, md, fp, ht, upd fe 0 (fo a), va_up M 0 (lc_nr (lc_bu fo fw fp ht fe M len).2.1 a (M 0) (lc_sa (lc_bu fo fw fp ht fe M len).1 a)), 1, rk + nI 1)
  else (fo, fw, md, fp, ht, upd fe len (fo a), va_up M len (lc_nr fw a (M len) (lc_sa fo a)), len + 1, rk)
/-- what is stored: nothing, or what a place holds -/
def lc_fr0 (fp : lc_A) (ht : Nat) (x : Int32) : Option Int32 := if x = -1 then some 0 else match lc_pl x ht with
  | none => none
  | some j => some (fp j)
def lx_setw (q : lc_CS) (i : Nat) (x : Int32) : lc_CS := (q.1, upd q.2.1 i x, q.2.2)
def lx_store (fo fw : lc_A) (md : Nat) (fp : lc_A) (ht : Nat) (fe : lc_A) (M : Nat → lc_A) (len : Nat) (rk : Int32) (x z y : Int32) : Bool × lc_CS := match lc_fca fo fp ht x with
  | none => (false, fo, fw, md, fp, ht, fe, M, len, rk)
  | some a => match lc_pl z (lc_sa fo a) with
    | none => (false, fo, fw, md, fp, ht, fe, M, len, rk)
    | some j => match lc_fr0 fp ht y with
      | none => (false, fo, fw, md, fp, ht, fe, M, len, rk)
      | some v => (true, lx_setw (lx_note fo fw md fp ht fe M len rk a) (a + 1 + j) v)
def lx_drop (fp : lc_A) (ht : Nat) : Int32 × Nat := if ht = 0 then (-1, ht) else (fp (ht - 1), ht - 1)
def ax_held (fp : lc_A) (ht : Nat) (x : Int32) : Int32 := match lc_pl x ht with
  | none => -1
  | some j => fp j
def ax_count (fo fw : lc_A) (x : Int32) : Int32 := match lc_first fo x with
  | none => -3
  | some a => fw a
def ax_cell (fo : lc_A) (x : Int32) : Int32 := match lc_first fo x with
  | none => -3
  | some a => nI a
def ax_slot (fo fw : lc_A) (x z : Int32) : Int32 := match lc_first fo x with
  | none => -3
  | some a => match lc_pl z (lc_sa fo a) with
    | none => -1
    | some j => fw (a + 1 + j)
def ax_state (fo fw fe : lc_A) (len : Nat) (x : Int32) : Int32 := match lc_first fo x with
  | none => nI 0
  | some a => nI ((if lc_isU fo fw a = true then 1 else 0) + (if lc_on fe len x = true then 2 else 0))
def ax_entry (fo fe : lc_A) (M : Nat → lc_A) (len : Nat) (x z : Int32) : Int32 := match lc_pl x len with
  | none => -1
  | some k => if z = -1 then fe k else match lc_pl z (lc_sao fo (lc_first fo (fe k))) with
    | none => -1
    | some j => M k j
/-! the reference: -/
def lm_slotc (nu : lc_A) (s : Nat → Nat) (fp : lc_A) (ht : Nat) (x z : Int32) : Option (Nat × Nat) := match lc_pl x ht with
  | none => none
  | some k => if 0 < fp k then (match lm_find nu s (fp k) with
      | none => none
      | some a => match lc_pl z (s a) with
        | none => none
        | some j => some (a, j)) else none
def lc_wt (s : Nat → Nat) (c : Nat) : Nat := if 0 < s c then s c + 1 else 0
/-- the reference's row of an entry -/
def lm_nr (s : Nat → Nat) (ho : lc_A) (a en : Nat) (he : lc_A) (m : Nat) : lc_A := fun i => if 4 * en ≤ i ∧ i < 4 * en + m then (if i - 4 * en < s a then ho (a + 1 + (i - 4 * en)) else 0) else he i
abbrev lc_MS : Type := lc_A × (Nat → Nat) × lc_A × (Nat → Bool) × lc_A × Nat × Nat × lc_A × Nat × lc_A × lc_A × Int32
def lm_settle (nu : lc_A) (s : Nat → Nat) (co : lc_A) (nt : Nat → Bool) (ho : lc_A) (md ht : Nat) (fp : lc_A) (en : Nat) (wh he : lc_A) (rn : Int32) : lc_MS := (nu, (lm_st nu ho fp ht 50 s co nt).1, (lm_st nu ho fp ht 50 s co nt).2.1, (lm_st nu ho fp ht 50 s co nt).2.2, ho, md, ht, fp, 0, wh, he, rn + nI 1)
def lm_lay (g : lc_MS) (a n : Nat) : lc_MS := match g with
  | (nu, s, co, nt, ho, md, ht, fp, en, wh, he, rn) => (upd nu a (nI (md + 1)), va_up s a n, upd co a 0, va_up nt a false, lc_fill ho (a + 1) n 0, md + 1, ht + 1, upd fp ht (nI (md + 1)), en, wh, he, rn)
def lm_make (nu : lc_A) (s : Nat → Nat) (co : lc_A) (nt : Nat → Bool) (ho : lc_A) (md ht : Nat) (fp : lc_A) (en : Nat) (wh he : lc_A) (rn : Int32) (x : Int32) : Int32 × lc_MS := match lc_14 x with
  | none => (-1, nu, s, co, nt, ho, md, ht, fp, en, wh, he, rn)
  | some n => if ht = 8 then (-2, nu, s, co, nt, ho, md, ht, fp, en, wh, he, rn) else match lm_room s (n + 1) with
    | some a => (nI (md + 1), lm_lay (nu, s, co, nt, ho, md, ht, fp, en, wh, he, rn) a n)
    | none => match lm_room (lm_st nu ho fp ht 50 s co nt).1 (n + 1) with
      | some a => (nI (md + 1), lm_lay (lm_settle nu s co nt ho md ht fp en wh he rn) a n)
      | none => (-3, lm_settle nu s co nt ho md ht fp en wh he rn)
def lm_load (nu : lc_A) (s : Nat → Nat) (ho fp : lc_A) (ht : Nat) (x z : Int32) : Int32 × lc_A × Nat := match lm_slotc nu s fp ht x z with
  | none => (-1, fp, ht)
  | some (a, j) => if ht = 8 then (-2, fp, ht) else (ho (a + 1 + j), upd fp ht (ho (a + 1 + j)), ht + 1)
def lm_note (nu : lc_A) (s : Nat → Nat) (co : lc_A) (nt : Nat → Bool) (ho : lc_A) (md ht : Nat) (fp : lc_A) (en : Nat) (wh he : lc_A) (rn : Int32) (a : Nat) : lc_MS :=
  if nt a = true then (nu, s, co, nt, ho, md, ht, fp, en, wh, he, rn)
  else if en = 5 then (nu, (lm_st nu ho fp ht 50 s co nt).1, (lm_st nu ho fp ht 50 s co nt).2.1, va_up (lm_st nu ho fp ht 50 s co nt).2.2 a true, ho, md, ht, fp, 1, upd wh 0 (nu a), lm_nr (lm_st nu ho fp ht 50 s co nt).1 ho a 0 he 4, rn + nI 1)
  else (nu, s, co, va_up nt a true, ho, md, ht, fp, en + 1, upd wh en (nu a), lm_nr s ho a en he 4, rn)
def lm_seth (g : lc_MS) (i : Nat) (x : Int32) : lc_MS := (g.1, g.2.1, g.2.2.1, g.2.2.2.1, upd g.2.2.2.2.1 i x, g.2.2.2.2.2)
def lm_store (nu : lc_A) (s : Nat → Nat) (co : lc_A) (nt : Nat → Bool) (ho : lc_A) (md ht : Nat) (fp : lc_A) (en : Nat) (wh he : lc_A) (rn : Int32) (x z y : Int32) : Bool × lc_MS := match lm_slotc nu s fp ht x z with
  | none => (false, nu, s, co, nt, ho, md, ht, fp, en, wh, he, rn)
  | some (a, j) => match lc_fr0 fp ht y with
    | none => (false, nu, s, co, nt, ho, md, ht, fp, en, wh, he, rn)
    | some v => (true, lm_seth (lm_note nu s co nt ho md ht fp en wh he rn a) (a + 1 + j) v)
def am_count (nu : lc_A) (s : Nat → Nat) (co : lc_A) (x : Int32) : Int32 := match lm_find nu s x with
  | none => -3
  | some a => co a
def am_cell (nu : lc_A) (s : Nat → Nat) (x : Int32) : Int32 := match lm_find nu s x with
  | none => -3
  | some a => nI a
def am_slot (nu : lc_A) (s : Nat → Nat) (ho : lc_A) (x z : Int32) : Int32 := match lm_find nu s x with
  | none => -3
  | some a => match lc_pl z (s a) with
    | none => -1
    | some j => ho (a + 1 + j)
def am_state (nu : lc_A) (s : Nat → Nat) (co : lc_A) (nt : Nat → Bool) (x : Int32) : Int32 := match lm_find nu s x with
  | none => nI 0
  | some a => nI ((if co a = 0 then 1 else 0) + (if nt a = true then 2 else 0))
def am_so (nu : lc_A) (s : Nat → Nat) (x : Int32) : Nat := match lm_find nu s x with
  | none => 0
  | some a => s a
def am_entry (nu : lc_A) (s : Nat → Nat) (wh he : lc_A) (en : Nat) (x z : Int32) : Int32 := match lc_pl x en with
  | none => -1
  | some k => if z = -1 then wh k else match lc_pl z (am_so nu s (wh k)) with
    | none => -1
    | some j => he (4 * k + j)
end OPS
end
section
section HELP
variable {fo fw fp : lc_A} {x : Int32} {i k n a j run : Nat}
theorem lc_s48 (h : i < 48) : 48 - i = (48 - (i + 1)) + 1 := by omega
theorem lc_rm_s1 (hi : i < 48) (h0 : fo i = 0) (hne : run + 1 ≠ k) : lc_rm fo k (48 - (i + 1)) (i + 1) (run + 1) = lc_rm fo k (48 - i) i run := by
  rw [lc_s48 hi]
  simp only [lc_rm, if_pos h0, if_neg hne]
theorem lc_rm_s0 (hi : i < 48) (h0 : ¬ fo i = 0) (hk : 0 < k) : lc_rm fo k (48 - (i + 1)) (i + 1) 0 = lc_rm fo k (48 - i) i run := by
  rw [lc_s48 hi]
  simp only [lc_rm, if_neg h0]
  rw [if_neg (by omega)]
theorem lc_rm_ret (hi : i < 48) (h0 : fo i = 0) (hk : run + 1 = k) (hr : run ≤ i) (he : lc_rm fo k (48 - i) i run = lc_room fo k) : nI i - nI k + nI 1 = lc_oI (lc_room fo k) := by
  rw [← he, lc_s48 hi]
  simp only [lc_rm, if_pos h0, if_pos hk, lc_oI]
  have h1 : nI (i + 1 - k) + nI k = nI i + nI 1 := by
    rw [nI_add, nI_add]
    congr 1
    omega
  have h2 : nI (i + 1 - k) = nI i + nI 1 - nI k := by
    rw [← h1, Int32.add_sub_cancel]
  rw [h2, Int32.sub_eq_add_neg, Int32.sub_eq_add_neg, Int32.add_assoc, Int32.add_assoc, Int32.add_comm (-nI k)]
theorem lc_rm_end (hi : 48 ≤ i) (he : lc_rm fo k (48 - i) i run = lc_room fo k) : (-1 : Int32) = lc_oI (lc_room fo k) := by
  rw [← he, show 48 - i = 0 by omega]
  rfl
theorem lc_lt1 {P : Nat → Prop} (h : ∀ j, j < i → P j) (hi : P i) : ∀ j, j < i + 1 → P j := by
  intro j hj
  by_cases e : j = i
  · subst e; exact hi
  · exact h j (by omega)
theorem lc_first_0 (h : x = 0) : (-1 : Int32) = lc_oI (lc_first fo x) := by
  simp only [lc_first, if_pos h, lc_oI]
theorem lc_first_i (hi : i < 48) (h0 : ¬ x = 0) (he : fo i = x) (hn : ∀ j, j < i → fo j ≠ x) : nI i = lc_oI (lc_first fo x) := by
  simp only [lc_first, if_neg h0]
  rw [lc_ff_some 48 0 i (Nat.zero_le _) (by omega) (by simp [he]) (fun j _ hj => by simpa using hn j hj)]
  rfl
theorem lc_first_n (hi : 48 ≤ i) (h0 : ¬ x = 0) (hn : ∀ j, j < i → fo j ≠ x) : (-1 : Int32) = lc_oI (lc_first fo x) := by
  simp only [lc_first, if_neg h0]
  rw [lc_ff_none 48 0 (fun j _ hj => by simpa using hn j (by omega))]
  rfl
theorem lc_first_lt (h : lc_first fo x = some k) : k < 48 ∧ x ≠ 0 ∧ fo k = x := by
  unfold lc_first at h
  by_cases e : x = 0
  · rw [if_pos e] at h; cases h
  · rw [if_neg e] at h
    obtain ⟨-, h2, h3, -⟩ := lc_ff_spec 48 0 k h
    simp only [decide_eq_true_eq] at h3
    exact ⟨by omega, e, h3⟩
theorem lc_sa_le (fo : lc_A) (a : Nat) : lc_sa fo a ≤ 47 - a := lc_rn_le _ _
theorem lc_sa_end (ha : a < 48) (hj : a + 1 + j ≤ 48) (hn : ∀ k, k < j → fo (a + 1 + k) = fo a) (h : 48 ≤ a + 1 + j ∨ ¬ fo (a + 1 + j) = fo a) : nI j = nI (lc_sa fo a) := by
  congr 1
  refine (lc_rn_eq (47 - a) (a + 1) j (by omega) (fun k hk => by simpa using hn k hk) ?_).symm
  rcases h with h | h
  · exact Or.inl (by omega)
  · exact Or.inr (by simpa using h)
theorem lc_fill_s (f : lc_A) (a j : Nat) (v : Int32) : upd (lc_fill f a j v) (a + j) v = lc_fill f a (j + 1) v := by
  funext q
  by_cases e : q = a + j
  · subst e
    rw [pk_us]
    unfold lc_fill
    rw [if_pos (by omega)]
  · rw [pk_un e]
    unfold lc_fill
    by_cases h : a ≤ q ∧ q < a + j
    · rw [if_pos h, if_pos (by omega)]
    · rw [if_neg h, if_neg (by omega)]
theorem lc_fill_0 (f : lc_A) (a : Nat) (v : Int32) : lc_fill f a 0 v = f := by
  funext q
  unfold lc_fill
  rw [if_neg (by omega)]
theorem lc_has1 (h1 : ¬ x < 0) (h2 : ¬ nI n ≤ x) : nI 1 = lc_bI (lc_pl x n).isSome := by
  unfold lc_pl
  rw [if_pos ⟨Int32.not_lt.mp h1, Int32.not_le.mp h2⟩]
  rfl
theorem lc_has0 (h1 : x < 0) : nI 0 = lc_bI (lc_pl x n).isSome := by
  rw [lc_pl_no (Or.inl h1)]
  rfl
theorem lc_has2 (h1 : nI n ≤ x) : nI 0 = lc_bI (lc_pl x n).isSome := by
  rw [lc_pl_no (Or.inr h1)]
  rfl
theorem lc_on_t {ht : Nat} (hj : j < ht) (e : fp j = x) : nI 1 = lc_bI (lc_on fp ht x) := by
  unfold lc_on
  rw [lc_an_true ht j hj (by simp [e])]
  rfl
theorem lc_on_f {ht : Nat} (hi : ht ≤ i) (hn : ∀ j, j < i → fp j ≠ x) : nI 0 = lc_bI (lc_on fp ht x) := by
  unfold lc_on
  rw [lc_an_false ht (fun j hj => by simpa using hn j (by omega))]
  rfl
theorem lc_isF0 (h : fo i = 0) : nI 0 = lc_bI (lc_isF fo i) := by simp [lc_isF, lc_bI, h]
theorem lc_isF1 (h : ¬ fo i = 0) (h0 : i = 0) : nI 1 = lc_bI (lc_isF fo i) := by
  subst h0
  simp [lc_isF, lc_bI, h]
theorem lc_isF2 (h : ¬ fo i = 0) (h1 : ¬ fo (i - 1) = fo i) : nI 1 = lc_bI (lc_isF fo i) := by simp [lc_isF, lc_bI, h, h1]
theorem lc_isF3 (h0 : 0 < i) (h : fo (i - 1) = fo i) : nI 0 = lc_bI (lc_isF fo i) := by
  have : ¬ i = 0 := by omega
  simp [lc_isF, lc_bI, h, this]
theorem zz_narB (b : Bool) : narrow .boolean (.int (lc_bI b)) = .int (lc_bI b) := by
  cases b <;> decide +kernel
theorem lc_un_i {ht : Nat} (hi : i < 48) (h : (lc_isU fo fw i && !lc_on fp ht (fo i)) = true) (hn : ∀ j, j < i → (lc_isU fo fw j && !lc_on fp ht (fo j)) = false) : nI i = lc_oI (lc_un fo fw fp ht) := by
  unfold lc_un
  rw [lc_ff_some 48 0 i (Nat.zero_le _) (by omega) h (fun j _ hj => hn j hj)]
  rfl
theorem lc_un_n {ht : Nat} (hi : 48 ≤ i) (hn : ∀ j, j < i → (lc_isU fo fw j && !lc_on fp ht (fo j)) = false) : (-1 : Int32) = lc_oI (lc_un fo fw fp ht) := by
  unfold lc_un
  rw [lc_ff_none 48 0 (fun j _ hj => hn j (by omega))]
  rfl
theorem lc_un_lt {ht : Nat} (h : lc_un fo fw fp ht = some k) : k < 48 := by
  obtain ⟨-, h2, -, -⟩ := lc_ff_spec 48 0 k h
  omega
theorem lc_fr_s {ht : Nat} {R : lc_A × lc_A × Nat} (hk : k < 48) (h : lc_un fo fw fp ht = some a) (hE : (lc_fr fp ht (48 - k) fo fw).1 = R.1 ∧ (lc_fr fp ht (48 - k) fo fw).2.1 = R.2.1 ∧ k + (lc_fr fp ht (48 - k) fo fw).2.2 = R.2.2) :
    (lc_fr fp ht (48 - (k + 1)) (lc_fill fo a (lc_sa fo a + 1) 0) (lc_gb fo fw a (lc_sa fo a))).1 = R.1 ∧ (lc_fr fp ht (48 - (k + 1)) (lc_fill fo a (lc_sa fo a + 1) 0) (lc_gb fo fw a (lc_sa fo a))).2.1 = R.2.1 ∧ k + 1 + (lc_fr fp ht (48 - (k + 1)) (lc_fill fo a (lc_sa fo a + 1) 0) (lc_gb fo fw a (lc_sa fo a))).2.2 = R.2.2 := by
  rw [lc_s48 hk] at hE
  simp only [lc_fr, h] at hE
  obtain ⟨h1, h2, h3⟩ := hE
  exact ⟨h1, h2, by omega⟩
theorem lc_fr_0 {ht f : Nat} (h : lc_un fo fw fp ht = none) : lc_fr fp ht f fo fw = (fo, fw, 0) := by
  cases f with
  | zero => rfl
  | succ f => simp only [lc_fr, h]
theorem lc_fr_n {ht : Nat} {R : lc_A × lc_A × Nat} (h : lc_un fo fw fp ht = none) (hE : (lc_fr fp ht (48 - k) fo fw).1 = R.1 ∧ (lc_fr fp ht (48 - k) fo fw).2.1 = R.2.1 ∧ k + (lc_fr fp ht (48 - k) fo fw).2.2 = R.2.2) : R = (fo, fw, k) := by
  rw [lc_fr_0 h] at hE
  obtain ⟨h1, h2, h3⟩ := hE
  obtain ⟨r1, r2, r3⟩ := R
  simp only at h1 h2 h3
  rw [h1, h2, ← h3]
  rfl
theorem lc_fr_e {ht : Nat} {R : lc_A × lc_A × Nat} (h : 48 ≤ k) (hE : (lc_fr fp ht (48 - k) fo fw).1 = R.1 ∧ (lc_fr fp ht (48 - k) fo fw).2.1 = R.2.1 ∧ k + (lc_fr fp ht (48 - k) fo fw).2.2 = R.2.2) : R = (fo, fw, k) := by
  rw [show 48 - k = 0 by omega] at hE
  obtain ⟨h1, h2, h3⟩ := hE
  obtain ⟨r1, r2, r3⟩ := R
  simp only [lc_fr] at h1 h2 h3
  rw [h1, h2, ← h3]
  rfl
theorem lc_nr_0 (M : Nat → lc_A) (q : Nat) (fw : lc_A) (a : Nat) : va_up M q (lc_nr fw a (M q) 0) = M := by
  funext i
  by_cases e : i = q
  · subst e
    rw [va_up_self]
    funext j
    simp [lc_nr]
  · rw [va_up_ne M _ e]
theorem lc_nr_s (M : Nat → lc_A) (q : Nat) (fw : lc_A) (a j : Nat) : va_up (va_up M q (lc_nr fw a (M q) j)) q (upd (va_up M q (lc_nr fw a (M q) j) q) j (fw (a + 1 + j))) = va_up M q (lc_nr fw a (M q) (j + 1)) := by
  funext i
  by_cases e : i = q
  · subst e
    rw [va_up_self, va_up_self, va_up_self]
    funext k
    by_cases ek : k = j
    · subst ek
      rw [pk_us]
      simp [lc_nr]
    · rw [pk_un ek]
      unfold lc_nr
      by_cases h : k < j
      · rw [if_pos h, if_pos (by omega)]
      · rw [if_neg h, if_neg (by omega)]
  · rw [va_up_ne _ _ e, va_up_ne M _ e, va_up_ne M _ e]
theorem lc_fca_lt {ht : Nat} (h : lc_fca fo fp ht x = some a) : a < 48 := by
  unfold lc_fca at h
  cases e : lc_pl x ht with
  | none => rw [e] at h; cases h
  | some j => rw [e] at h; exact (lc_first_lt h).1
theorem zz_n1 : nI 1 = (1 : Int32) := by decide +kernel
theorem lc_pl_0 (x : Int32) : lc_pl x 0 = none := by
  cases e : lc_pl x 0 with
  | none => rfl
  | some j => have := (lc_pl_spec (by omega) e).1; omega
end HELP
end
section
section HELPM
variable {nu co ho fp he wh : lc_A} {sl : Nat → Nat} {nt : Nat → Bool} {x z v lo hi : Int32} {i k n a j run fu ht en : Nat}
theorem lc_w1 (h1 : ¬ v < lo) (h2 : ¬ hi < v) : nI 1 = lc_bI (decide (lo ≤ v) && decide (v ≤ hi)) := by
  have e1 := Int32.not_lt.mp h1
  have e2 := Int32.not_lt.mp h2
  simp [lc_bI, e1, e2]
theorem lc_w0 (h1 : v < lo) : nI 0 = lc_bI (decide (lo ≤ v) && decide (v ≤ hi)) := by
  have e1 := Int32.not_le.mpr h1
  simp [lc_bI, e1]
theorem lc_w2 (h1 : hi < v) : nI 0 = lc_bI (decide (lo ≤ v) && decide (v ≤ hi)) := by
  have e1 := Int32.not_le.mpr h1
  simp [lc_bI, e1]
theorem lc_within_pl (hn : n < 2 ^ 31) : lc_bI (decide (nI 0 ≤ x) && decide (x ≤ nI n - nI 1)) = lc_bI (lc_pl x n).isSome := by
  congr 1
  rcases pk_ix x hn with q | q | ⟨j, hj, rfl⟩
  · rw [lc_pl_no (Or.inl q)]
    have : ¬ nI 0 ≤ x := by rw [nI_0]; exact Int32.not_le.mpr q
    simp [this]
  · rw [lc_pl_no (Or.inr q)]
    have : ¬ (nI 0 ≤ x ∧ x ≤ nI n - nI 1) := by
      rintro ⟨r1, r2⟩
      cases n with
      | zero => exact absurd (Int32.le_trans r1 r2) (by decide +kernel)
      | succ n =>
        rw [pk_sub (by omega)] at r2
        exact absurd (Int32.le_trans q r2) (nI_ge (by omega) hn)
    simp only [Option.isSome_none]
    cases e : (decide (nI 0 ≤ x) && decide (x ≤ nI n - nI 1)) with
    | false => rfl
    | true =>
      simp only [Bool.and_eq_true, decide_eq_true_eq] at e
      exact absurd e this
  · rw [lc_pl_nI hn hj]
    cases n with
    | zero => omega
    | succ n =>
      rw [pk_sub (by omega)]
      have h1 : nI 0 ≤ nI j := nI_le (by omega) (by omega)
      have h2 : nI j ≤ nI (n + 1 - 1) := nI_le (by omega) (by omega)
      rw [show n + 1 - 1 = n by omega] at h2 ⊢
      simp [h1, h2]
theorem lc_14_w (h : (decide (nI 1 ≤ x) && decide (x ≤ nI 4)) = true) : ∃ n, 1 ≤ n ∧ n ≤ 4 ∧ x = nI n ∧ lc_14 x = some n := by
  simp only [Bool.and_eq_true, decide_eq_true_eq] at h
  exact lc_14_yes h.1 h.2
theorem lc_14_wn (h : (decide (nI 1 ≤ x) && decide (x ≤ nI 4)) = false) : lc_14 x = none := by
  unfold lc_14
  rw [if_neg]
  rintro ⟨h1, h2⟩
  simp [h1, h2] at h
theorem lm_mix_0 (g f : lc_A) : lm_mix 0 g f = f := by
  funext q
  simp [lm_mix]
theorem lm_mixB_0 (f : Nat → Bool) : lm_mixB 0 f = f := by
  funext q
  simp [lm_mixB]
theorem lm_mix_s {g f : lc_A} (h : v = g i) : upd (lm_mix i g f) i v = lm_mix (i + 1) g f := by
  funext q
  unfold lm_mix
  by_cases e : q = i
  · subst e
    rw [pk_us, if_pos (by omega), h]
  · rw [pk_un e]
    by_cases h2 : q < i
    · rw [if_pos h2, if_pos (by omega)]
    · rw [if_neg h2, if_neg (by omega)]
theorem lm_mixB_s (i : Nat) (f : Nat → Bool) : upd (fun k => lc_bI (lm_mixB i f k)) i (nI 0) = fun k => lc_bI (lm_mixB (i + 1) f k) := by
  funext q
  by_cases e : q = i
  · subst e
    rw [pk_us]
    simp [lm_mixB, lc_bI]
  · rw [pk_un e]
    unfold lm_mixB
    by_cases h2 : q < i
    · rw [if_pos h2, if_pos (by omega)]
    · rw [if_neg h2, if_neg (by omega)]
theorem lm_cut_0 (p : Nat → Bool) (s : Nat → Nat) : lm_cut p s 0 = s := by
  funext q
  simp [lm_cut]
theorem lm_cut_i (p : Nat → Bool) (s : Nat → Nat) (i : Nat) : lm_cut p s i i = s i := by
  simp [lm_cut]
theorem lm_cut_n {p : Nat → Bool} {s : Nat → Nat} (h : p i = false) : lm_cut p s i = lm_cut p s (i + 1) := by
  funext q
  unfold lm_cut
  by_cases e : q = i
  · subst e
    simp [h]
  · by_cases h2 : q < i
    · simp [h2, show q < i + 1 by omega]
    · simp [h2, show ¬ q < i + 1 by omega]
theorem lm_cut_s {p : Nat → Bool} {s : Nat → Nat} (h : p i = true) : upd (fun k => nI (lm_cut p s i k)) i (nI 0) = fun k => nI (lm_cut p s (i + 1) k) := by
  funext q
  by_cases e : q = i
  · subst e
    rw [pk_us]
    simp [lm_cut, h]
  · rw [pk_un e]
    unfold lm_cut
    by_cases h2 : q < i
    · simp [h2, show q < i + 1 by omega]
    · simp [h2, show ¬ q < i + 1 by omega]
theorem lm_cut_le (p : Nat → Bool) (s : Nat → Nat) (n i : Nat) : lm_cut p s n i ≤ s i := by
  unfold lm_cut
  split <;> omega
theorem lm_cut_48 {p : Nat → Bool} {s : Nat → Nat} (h : ∀ i, i < 48 → i + s i < 48) : ∀ i, i < 48 → i + lm_cut p s 48 i < 48 := by
  intro i hi
  have := lm_cut_le p s 48 i
  have := h i hi
  omega
def lm_lp (nu ho fp : lc_A) (ht f k : Nat) (s : Nat → Nat) (co : lc_A) (nt : Nat → Bool) : (Nat → Nat) × lc_A × (Nat → Bool) := if k = 0 then (s, co, nt) else lm_st nu ho fp ht f s co nt
theorem lm_lp_0 {T : (Nat → Nat) × lc_A × (Nat → Bool)} (hk : k = 0) (h : lm_lp nu ho fp ht n k sl co nt = T) : T = (sl, co, nt) := by
  unfold lm_lp at h
  rw [if_pos hk] at h
  exact h.symm
theorem lm_lp_s {T : (Nat → Nat) × lc_A × (Nat → Bool)} (hk : 0 < k) (h : lm_lp nu ho fp ht (fu + 1) k sl co nt = T) :
    lm_lp nu ho fp ht fu (lc_ct (lm_fr sl (lm_mix 48 (lm_rc sl nu ho) co) nu fp ht) 48) (lm_cut (lm_fr sl (lm_mix 48 (lm_rc sl nu ho) co) nu fp ht) sl 48) (lm_mix 48 (lm_rc sl nu ho) co) (lm_mixB 48 nt) = T := by
  unfold lm_lp at h
  rw [if_neg (by omega)] at h
  unfold lm_lp
  simp only [lm_st] at h
  exact h
theorem lm_fr_ct (s : Nat → Nat) (c1 : lc_A) : lc_ct (fun c => decide (0 < s c)) 48 = lc_ct (fun c => decide (0 < lm_cut (lm_fr s c1 nu fp ht) s 48 c)) 48 + lc_ct (lm_fr s c1 nu fp ht) 48 := by
  rw [lc_ct_cutp (q := lm_fr s c1 nu fp ht) 48 (fun c hc q => by simp only [lm_fr, Bool.and_eq_true] at q; exact q.1.1)]
  congr 1
  refine lc_ct_ext 48 (fun c hc => ?_)
  unfold lm_cut
  cases e3 : lm_fr s c1 nu fp ht c with
  | true => simp [hc]
  | false => simp
theorem lm_lp_m {c1 : lc_A} (hk : 0 < k) (hf : (if k = 0 then 0 else lc_ct (fun c => decide (0 < sl c)) 48 + 1) < fu + 1) :
    (if lc_ct (lm_fr sl c1 nu fp ht) 48 = 0 then 0 else lc_ct (fun c => decide (0 < lm_cut (lm_fr sl c1 nu fp ht) sl 48 c)) 48 + 1) < fu := by
  rw [if_neg (by omega)] at hf
  have := lm_fr_ct (nu := nu) (fp := fp) (ht := ht) sl c1
  split <;> omega
theorem lm_lp_m0 : (if 1 = 0 then 0 else lc_ct (fun c => decide (0 < sl c)) 48 + 1) < 50 := by
  have := lc_ct_le (p := fun c => decide (0 < sl c)) 48
  rw [if_neg (by omega)]
  omega
theorem lm_st_48 (nu ho fp : lc_A) (ht : Nat) : ∀ (f : Nat) (s : Nat → Nat) (co : lc_A) (nt : Nat → Bool), (∀ i, i < 48 → i + s i < 48) → ∀ i, i < 48 → i + (lm_st nu ho fp ht f s co nt).1 i < 48 := by
  intro f
  induction f with
  | zero => intro s co nt h; exact h
  | succ f ih =>
    intro s co nt h
    simp only [lm_st]
    split
    · exact lm_cut_48 h
    · exact ih _ _ _ (lm_cut_48 h)
theorem lm_rm_s1 (hi : i < 48) (h0 : sl i = 0) (hne : run + 1 ≠ k) : lm_rm sl k fu (i + 1) (run + 1) = lm_rm sl k (fu + 1) i run := by
  simp only [lm_rm, if_pos hi, h0, Nat.lt_irrefl, if_false, if_neg hne]
theorem lm_rm_s0 (hi : i < 48) (h0 : 0 < sl i) : lm_rm sl k fu (i + sl i + 1) 0 = lm_rm sl k (fu + 1) i run := by
  simp only [lm_rm, if_pos hi, if_pos h0]
theorem lm_rm_ret (hi : i < 48) (h0 : sl i = 0) (hk : run + 1 = k) (hr : run ≤ i) (he : lm_rm sl k (fu + 1) i run = lm_room sl k) : nI (i + 1 - k) = lc_oI (lm_room sl k) := by
  rw [← he]
  simp only [lm_rm, if_pos hi, h0, Nat.lt_irrefl, if_false, if_pos hk]
  rfl
theorem lm_rm_end (hi : 48 ≤ i) (he : lm_rm sl k (fu + 1) i run = lm_room sl k) : (-1 : Int32) = lc_oI (lm_room sl k) := by
  rw [← he]
  simp only [lm_rm]
  rw [if_neg (by omega)]
  rfl
theorem lm_rm_lt (hk : 0 < k) (hs : ∀ i, i < 48 → i + sl i < 48) : ∀ (f i run a : Nat), i ≤ 48 → run ≤ i → run < k → lm_rm sl k f i run = some a → a + k ≤ 48 := by
  intro f
  induction f with
  | zero => intro i run a _ _ _ h; simp [lm_rm] at h
  | succ f ih =>
    intro i run a hi hr hrk h
    simp only [lm_rm] at h
    by_cases e : i < 48
    · rw [if_pos e] at h
      have := hs i e
      by_cases e2 : 0 < sl i
      · rw [if_pos e2] at h
        exact ih _ _ a (by omega) (by omega) hk h
      · rw [if_neg e2] at h
        by_cases e3 : run + 1 = k
        · rw [if_pos e3] at h
          cases h
          omega
        · rw [if_neg e3] at h
          exact ih _ _ a (by omega) (by omega) (by omega) h
    · rw [if_neg e] at h
      cases h
theorem lm_room_lt (hk : 0 < k) (hs : ∀ i, i < 48 → i + sl i < 48) (h : lm_room sl k = some a) : a + k ≤ 48 := lm_rm_lt hk hs 49 0 0 a (by omega) (by omega) hk h
theorem lm_find_lt (h : lm_find nu sl x = some a) : a < 48 ∧ 0 < sl a := by
  have key : ∀ n, lc_lf (fun c => decide (0 < sl c) && decide (nu c = x)) n = some a → a < n ∧ 0 < sl a := by
    intro n
    induction n with
    | zero => intro h; simp [lc_lf] at h
    | succ n ih =>
      intro h
      simp only [lc_lf] at h
      split at h
      · cases h
        rename_i h2
        simp only [Bool.and_eq_true, decide_eq_true_eq] at h2
        exact ⟨by omega, h2.1⟩
      · have := ih h
        exact ⟨by omega, this.2⟩
  exact key 48 h
theorem lm_slotc_spec (hs : ∀ i, i < 48 → i + sl i < 48) (hht : ht ≤ 8) (h : lm_slotc nu sl fp ht x z = some (a, j)) : a < 48 ∧ 0 < sl a ∧ j < sl a ∧ z = nI j := by
  unfold lm_slotc at h
  cases e : lc_pl x ht with
  | none => rw [e] at h; cases h
  | some k =>
    rw [e] at h
    simp only at h
    split at h
    · cases e2 : lm_find nu sl (fp k) with
      | none => rw [e2] at h; cases h
      | some a' =>
        rw [e2] at h
        simp only at h
        obtain ⟨h1, h2⟩ := lm_find_lt e2
        have h3 := hs a' h1
        cases e3 : lc_pl z (sl a') with
        | none => rw [e3] at h; cases h
        | some j' =>
          rw [e3] at h
          cases h
          obtain ⟨h4, h5⟩ := lc_pl_spec (by omega) e3
          exact ⟨h1, h2, h4, h5⟩
    · cases h
theorem lm_so_lt (hs : ∀ i, i < 48 → i + sl i < 48) (x : Int32) : am_so nu sl x < 48 := by
  unfold am_so
  cases e : lm_find nu sl x with
  | none => simp
  | some a =>
    have := hs a (lm_find_lt e).1
    simp only
    omega
theorem lm_nr_0 (s : Nat → Nat) (ho : lc_A) (a en : Nat) (he : lc_A) : lm_nr s ho a en he 0 = he := by
  funext q
  unfold lm_nr
  rw [if_neg (by omega)]
theorem lm_nr_s {s : Nat → Nat} (h : v = if j < s a then ho (a + 1 + j) else 0) : upd (lm_nr s ho a en he j) (4 * en + j) v = lm_nr s ho a en he (j + 1) := by
  funext q
  by_cases e : q = 4 * en + j
  · subst e
    rw [pk_us, h]
    unfold lm_nr
    have c1 : 4 * en ≤ 4 * en + j ∧ 4 * en + j < 4 * en + (j + 1) := by omega
    rw [if_pos c1, show 4 * en + j - 4 * en = j by omega]
  · rw [pk_un e]
    unfold lm_nr
    by_cases h2 : 4 * en ≤ q ∧ q < 4 * en + j
    · have c1 : 4 * en ≤ q ∧ q < 4 * en + (j + 1) := by omega
      rw [if_pos h2, if_pos c1]
    · have c1 : ¬ (4 * en ≤ q ∧ q < 4 * en + (j + 1)) := by omega
      rw [if_neg h2, if_neg c1]
theorem lm_fr_0 : nI 48 = nI 48 - nI (lc_sm (lc_wt sl) 0) := by
  show nI 48 = nI 48 - nI 0
  decide +kernel
theorem lm_fr_1 (h : sl i = 0) : nI 48 - nI (lc_sm (lc_wt sl) i) = nI 48 - nI (lc_sm (lc_wt sl) (i + 1)) := by
  simp [lc_sm, lc_wt, h]
theorem lm_fr_2 (h : 0 < sl i) : nI 48 - nI (lc_sm (lc_wt sl) i) - nI (sl i) - nI 1 = nI 48 - nI (lc_sm (lc_wt sl) (i + 1)) := by
  simp only [lc_sm, lc_wt, if_pos h]
  rw [← nI_add, ← nI_add]
  rw [Int32.sub_sub, Int32.sub_sub]
end HELPM
section HELPW
variable {p : Program} {l : Launch} {e : Env} {R : Room} {s : State} {m : MethodId} {args : Array Value} {below : List Frame} {meth : Method} {c : Code} {H : Heap} {locs : List Loc} {cells slots pc : Nat} {Q : State → Prop} {ls : Array Slot} {rest : List Value}
theorem zz_sc {o : Option (Nat × Nat)} (kn : o = none → W p l e R s m args below meth c H locs cells slots Q (F0 m pc ls (.int (-1) :: rest))) (ks : ∀ a j, o = some (a, j) → W p l e R s m args below meth c H locs cells slots Q (F0 m pc ls (.int (nI (a + 1 + j)) :: rest))) : W p l e R s m args below meth c H locs cells slots Q (F0 m pc ls (.int (lc_oI (o.map (fun q => q.1 + 1 + q.2))) :: rest)) := by
  cases o with
  | none => exact kn rfl
  | some q => exact ks q.1 q.2 rfl
theorem zz_c1 {α : Type} {a a' : α} {l l' : List α} (h : a = a') (k : l = l') : a :: l = a' :: l' := by rw [h, k]
theorem zz_hlc {ls : Array Slot} {n : Nat} {l l' : List (Nat × Value)} (h : lv_has ls n l) (e : l = l') : lv_has ls n l' := e ▸ h
end HELPW
end
section
section LAY
variable {s : Nat → Nat} {nu fo fw ho fp : lc_A} {md ht : Nat}
/-! the layout: an object stands at its first cell c, 0 < s c its slots; nu its number; fo the cells' owners -/
def lc_al (s : Nat → Nat) (nu : lc_A) (x : Int32) : Prop := ∃ c, c < 48 ∧ 0 < s c ∧ nu c = x
def lc_rf (s : Nat → Nat) (nu : lc_A) (x : Int32) : Prop := x = 0 ∨ lc_al s nu x
def lc_Lay (s : Nat → Nat) (nu fo : lc_A) (md : Nat) : Prop :=
  (∀ c, c < 48 → 0 < s c → s c ≤ 4 ∧ c + s c < 48 ∧ ∀ k, k < s c → s (c + 1 + k) = 0) ∧
  (∀ c, c < 48 → 0 < s c → ∀ k, k ≤ s c → fo (c + k) = nu c) ∧
  (∀ i, i < 48 → fo i ≠ 0 → ∃ c, c ≤ i ∧ 0 < s c ∧ i ≤ c + s c) ∧
  (∀ c, c < 48 → 0 < s c → ∃ n, 1 ≤ n ∧ n ≤ md ∧ nu c = nI n) ∧
  (∀ c d, c < 48 → d < 48 → 0 < s c → 0 < s d → nu c = nu d → c = d) ∧ md ≤ 512
theorem lay_ne0 (h : lc_Lay s nu fo md) {c : Nat} (hc : c < 48) (hs : 0 < s c) : nu c ≠ 0 := by
  obtain ⟨-, -, -, h4, -, hm⟩ := h
  obtain ⟨n, h1, h2, h3⟩ := h4 c hc hs
  rw [h3]
  exact nI_ne0 (by omega) (by omega)
theorem lay_0 (h : lc_Lay s nu fo md) {c : Nat} (hc : c < 48) (hs : 0 < s c) : fo c = nu c := by
  have := h.2.1 c hc hs 0 (Nat.zero_le _)
  simpa using this
theorem lay_inj (h : lc_Lay s nu fo md) {c d : Nat} (hc : c < 48) (hd : d < 48) (hs : 0 < s c) (hsd : 0 < s d) (e : nu c = nu d) : c = d := h.2.2.2.2.1 c d hc hd hs hsd e
theorem lay_own (h : lc_Lay s nu fo md) {i : Nat} (hi : i < 48) (h0 : fo i ≠ 0) : ∃ c, c ≤ i ∧ c < 48 ∧ 0 < s c ∧ i ≤ c + s c ∧ fo i = nu c := by
  obtain ⟨-, h2, h3, -, -⟩ := h
  obtain ⟨c, a, b, d⟩ := h3 i hi h0
  refine ⟨c, a, by omega, b, d, ?_⟩
  have := h2 c (by omega) b (i - c) (by omega)
  rwa [show c + (i - c) = i by omega] at this
theorem lay_first (h : lc_Lay s nu fo md) {c : Nat} (hc : c < 48) (hs : 0 < s c) : lc_first fo (nu c) = some c := by
  have hne := lay_ne0 h hc hs
  unfold lc_first
  rw [if_neg hne]
  refine lc_ff_some 48 0 c (Nat.zero_le _) (by omega) ?_ ?_
  · simp only [decide_eq_true_eq]
    exact lay_0 h hc hs
  · intro j _ hj
    simp only [decide_eq_false_iff_not]
    intro e
    obtain ⟨d, a1, a2, a3, a4, a5⟩ := lay_own h (i := j) (by omega) (by rw [e]; exact hne)
    have := lay_inj h a2 hc a3 hs (a5.symm.trans e)
    omega
theorem lay_firstN (h : lc_Lay s nu fo md) {x : Int32} (hno : ¬ lc_al s nu x) : lc_first fo x = none := by
  unfold lc_first
  by_cases e : x = 0
  · rw [if_pos e]
  · rw [if_neg e]
    refine lc_ff_none 48 0 ?_
    intro k _ hk
    simp only [decide_eq_false_iff_not]
    intro e2
    obtain ⟨d, a1, a2, a3, a4, a5⟩ := lay_own h (i := k) (by omega) (by rw [e2]; exact e)
    exact hno ⟨d, a2, a3, a5.symm.trans e2⟩
theorem lay_fnd (h : lc_Lay s nu fo md) {c : Nat} (hc : c < 48) (hs : 0 < s c) : lm_find nu s (nu c) = some c := by
  unfold lm_find
  refine lc_lf_some 48 c hc (by simp [hs]) ?_
  intro j hj e
  simp only [Bool.and_eq_true, decide_eq_true_eq] at e
  exact lay_inj h hj hc e.1 hs e.2
theorem lay_fndN {x : Int32} (hno : ¬ lc_al s nu x) : lm_find nu s x = none := by
  unfold lm_find
  refine lc_lf_none 48 ?_
  intro k hk
  cases e : (decide (0 < s k) && decide (nu k = x)) with
  | false => rfl
  | true =>
    simp only [Bool.and_eq_true, decide_eq_true_eq] at e
    exact absurd ⟨k, hk, e.1, e.2⟩ hno
theorem lay_find (h : lc_Lay s nu fo md) (x : Int32) : lc_first fo x = lm_find nu s x := by
  by_cases e : lc_al s nu x
  · obtain ⟨c, hc, hs, rfl⟩ := e
    rw [lay_first h hc hs, lay_fnd h hc hs]
  · rw [lay_firstN h e, lay_fndN e]
theorem lay_fspec (h : lc_Lay s nu fo md) {x : Int32} {c : Nat} (e : lm_find nu s x = some c) : c < 48 ∧ 0 < s c ∧ nu c = x := by
  by_cases e2 : lc_al s nu x
  · obtain ⟨d, hc, hs, rfl⟩ := e2
    rw [lay_fnd h hc hs] at e
    cases e
    exact ⟨hc, hs, rfl⟩
  · rw [lay_fndN e2] at e
    cases e
theorem lay_sa (h : lc_Lay s nu fo md) {c : Nat} (hc : c < 48) (hs : 0 < s c) : lc_sa fo c = s c := by
  obtain ⟨a1, a2, a3⟩ := h.1 c hc hs
  have e0 := lay_0 h hc hs
  unfold lc_sa
  refine lc_rn_eq (47 - c) (c + 1) (s c) (by omega) ?_ ?_
  · intro k hk
    have e1 := h.2.1 c hc hs (k + 1) (by omega)
    simp only [decide_eq_true_eq]
    rw [show c + 1 + k = c + (k + 1) by omega, e1, e0]
  · by_cases e : s c = 47 - c
    · exact Or.inl e
    · right
      simp only [decide_eq_false_iff_not]
      intro q
      rw [e0] at q
      obtain ⟨d, b1, b2, b3, b4, b5⟩ := lay_own h (i := c + 1 + s c) (by omega) (by rw [q]; exact lay_ne0 h hc hs)
      have := lay_inj h b2 hc b3 hs (b5.symm.trans q)
      subst this
      omega
theorem lay_isF (h : lc_Lay s nu fo md) {i : Nat} (hi : i < 48) : lc_isF fo i = decide (0 < s i) := by
  by_cases hs : 0 < s i
  · have e0 := lay_0 h hi hs
    have hne := lay_ne0 h hi hs
    have hp : i = 0 ∨ fo (i - 1) ≠ fo i := by
      by_cases e : i = 0
      · exact Or.inl e
      · right
        intro q
        rw [e0] at q
        obtain ⟨d, b1, b2, b3, b4, b5⟩ := lay_own h (i := i - 1) (by omega) (by rw [q]; exact hne)
        have := lay_inj h b2 hi b3 hs (b5.symm.trans q)
        omega
    have : lc_isF fo i = true := by
      simp only [lc_isF, Bool.and_eq_true, Bool.or_eq_true, decide_eq_true_eq]
      exact ⟨by rw [e0]; exact hne, hp⟩
    rw [this]
    simp [hs]
  · have : lc_isF fo i = false := by
      cases e : lc_isF fo i with
      | false => rfl
      | true =>
        exfalso
        simp only [lc_isF, Bool.and_eq_true, Bool.or_eq_true, decide_eq_true_eq] at e
        obtain ⟨d, b1, b2, b3, b4, b5⟩ := lay_own h hi e.1
        have hdi : d ≠ i := fun q => hs (q ▸ b3)
        rcases e.2 with q | q
        · omega
        · apply q
          have e1 := h.2.1 d b2 b3 (i - 1 - d) (by omega)
          rw [show d + (i - 1 - d) = i - 1 by omega] at e1
          rw [e1, b5]
    rw [this]
    simp [hs]
/-- c stands between two objects -/
def lc_bd (s : Nat → Nat) (c : Nat) : Prop := ∀ d, d < c → 0 < s d → d + s d < c
theorem lay_free (h : lc_Lay s nu fo md) {c : Nat} (hc : c < 48) (hb : lc_bd s c) (h0 : s c = 0) : fo c = 0 := by
  by_cases e : fo c = 0
  · exact e
  · obtain ⟨d, b1, b2, b3, b4, b5⟩ := lay_own h hc e
    have hdc : d ≠ c := fun q => by rw [q] at b3; omega
    have := hb d (by omega) b3
    omega
theorem lay_bd1 {c : Nat} (hb : lc_bd s c) (h0 : s c = 0) : lc_bd s (c + 1) := by
  intro d hd hs
  by_cases e : d = c
  · subst e; omega
  · have := hb d (by omega) hs
    omega
theorem lay_bd2 (h : lc_Lay s nu fo md) {c : Nat} (hc : c < 48) (hb : lc_bd s c) (hs : 0 < s c) : lc_bd s (c + s c + 1) := by
  intro d hd hs2
  obtain ⟨-, a2, a3⟩ := h.1 c hc hs
  rcases Nat.lt_trichotomy d c with e | e | e
  · have := hb d e hs2
    omega
  · subst e; omega
  · have := a3 (d - c - 1) (by omega)
    rw [show c + 1 + (d - c - 1) = d by omega] at this
    omega
theorem lc_rm_skip {n : Nat} (hn : 0 < n) : ∀ (m f c : Nat), (∀ k, k < m → fo (c + k) ≠ 0) → lc_rm fo n (f + m) c 0 = lc_rm fo n f (c + m) 0 := by
  intro m
  induction m with
  | zero => intro f c _; rfl
  | succ m ih =>
    intro f c h
    have h0 : fo c ≠ 0 := by simpa using h 0 (by omega)
    rw [show f + (m + 1) = (f + m) + 1 by omega]
    simp only [lc_rm, if_neg h0]
    rw [if_neg (by omega), ih f (c + 1) (fun k hk => by have := h (k + 1) (by omega); rwa [show c + (k + 1) = c + 1 + k by omega] at this)]
    rw [show c + 1 + m = c + (m + 1) by omega]
theorem lay_rm (h : lc_Lay s nu fo md) {n : Nat} (hn : 0 < n) : ∀ (d c f run : Nat), c + d = 48 → d < f → run < n → lc_bd s c → lc_rm fo n d c run = lm_rm s n f c run := by
  intro d
  induction d using Nat.strongRecOn with
  | ind d ih =>
    intro c f run hcd hf hr hb
    cases f with
    | zero => omega
    | succ f =>
      cases d with
      | zero =>
        simp only [lc_rm, lm_rm]
        rw [if_neg (by omega)]
      | succ d =>
        have hc : c < 48 := by omega
        by_cases hs : 0 < s c
        · obtain ⟨-, a2, -⟩ := h.1 c hc hs
          have h0 : fo c ≠ 0 := by rw [lay_0 h hc hs]; exact lay_ne0 h hc hs
          simp only [lc_rm, lm_rm, if_neg h0, if_pos hc, if_pos hs]
          rw [if_neg (by omega)]
          rw [show d = (d - s c) + s c by omega, lc_rm_skip hn (s c) (d - s c) (c + 1) (fun k hk => ?_)]
          · rw [show c + 1 + s c = c + s c + 1 by omega]
            exact ih (d - s c) (by omega) (c + s c + 1) f 0 (by omega) (by omega) hn (lay_bd2 h hc hb hs)
          · have := h.2.1 c hc hs (k + 1) (by omega)
            rw [show c + 1 + k = c + (k + 1) by omega, this]
            exact lay_ne0 h hc hs
        · have hs0 : s c = 0 := by omega
          have h0 : fo c = 0 := lay_free h hc hb hs0
          simp only [lc_rm, lm_rm, if_pos h0, if_pos hc, if_neg hs]
          by_cases e : run + 1 = n
          · rw [if_pos e, if_pos e]
          · rw [if_neg e, if_neg e]
            exact ih d (by omega) (c + 1) f (run + 1) (by omega) (by omega) (by omega) (lay_bd1 hb hs0)
theorem lay_room (h : lc_Lay s nu fo md) {n : Nat} (hn : 0 < n) : lc_room fo n = lm_room s n := lay_rm h hn 48 0 49 0 rfl (by omega) hn (fun d hd => by omega)
/-- a room is free -/
theorem lc_rm_spec {n : Nat} (hn : 0 < n) : ∀ (f i run a : Nat), run ≤ i → (∀ k, i - run ≤ k → k < i → fo k = 0) → run < n → lc_rm fo n f i run = some a → a + n ≤ i + f ∧ ∀ k, a ≤ k → k < a + n → fo k = 0 := by
  intro f
  induction f with
  | zero => intro i run a _ _ _ h; simp [lc_rm] at h
  | succ f ih =>
    intro i run a h1 h2 h3 h
    by_cases e : fo i = 0
    · simp only [lc_rm, if_pos e] at h
      by_cases e2 : run + 1 = n
      · rw [if_pos e2] at h
        cases h
        refine ⟨by omega, fun k a b => ?_⟩
        by_cases ek : k = i
        · subst ek; exact e
        · exact h2 k (by omega) (by omega)
      · rw [if_neg e2] at h
        have := ih (i + 1) (run + 1) a (by omega) (fun k a b => by
          by_cases ek : k = i
          · subst ek; exact e
          · exact h2 k (by omega) (by omega)) (by omega) h
        exact ⟨by omega, this.2⟩
    · simp only [lc_rm, if_neg e] at h
      rw [if_neg (by omega)] at h
      have := ih (i + 1) 0 a (by omega) (fun k a b => by omega) hn h
      exact ⟨by omega, this.2⟩
theorem lc_room_spec {n a : Nat} (hn : 0 < n) (h : lc_room fo n = some a) : a + n ≤ 48 ∧ ∀ k, a ≤ k → k < a + n → fo k = 0 := by
  have := lc_rm_spec hn 48 0 0 a (by omega) (fun k a b => by omega) hn h
  simpa using this
theorem lc_ct_skip {p : Nat → Bool} (c : Nat) : ∀ (m : Nat), (∀ k, k < m → p (c + k) = false) → lc_ct p (c + m) = lc_ct p c := by
  intro m
  induction m with
  | zero => intro _; rfl
  | succ m ih =>
    intro h
    rw [show c + (m + 1) = (c + m) + 1 by omega]
    simp [lc_ct, h m (by omega), ih (fun k hk => h k (by omega))]
theorem lc_sm_skip {f : Nat → Nat} (c : Nat) : ∀ (m : Nat), (∀ k, k < m → f (c + k) = 0) → lc_sm f (c + m) = lc_sm f c := by
  intro m
  induction m with
  | zero => intro _; rfl
  | succ m ih =>
    intro h
    rw [show c + (m + 1) = (c + m) + 1 by omega]
    simp [lc_sm, h m (by omega), ih (fun k hk => h k (by omega))]
theorem lay_freeN (h : lc_Lay s nu fo md) : ∀ (d c : Nat), c + d = 48 → lc_bd s c → lc_ct (fun i => decide (fo i = 0)) c + lc_sm (lc_wt s) c = c → lc_ct (fun i => decide (fo i = 0)) 48 + lc_sm (lc_wt s) 48 = 48 := by
  intro d
  induction d using Nat.strongRecOn with
  | ind d ih =>
    intro c hcd hb hq
    cases d with
    | zero =>
      have : c = 48 := by omega
      subst this
      exact hq
    | succ d =>
      have hc : c < 48 := by omega
      by_cases hs : 0 < s c
      · obtain ⟨-, a2, a3⟩ := h.1 c hc hs
        refine ih (d - s c) (by omega) (c + s c + 1) (by omega) (lay_bd2 h hc hb hs) ?_
        rw [show c + s c + 1 = c + (s c + 1) by omega]
        rw [lc_ct_skip c (s c + 1) (fun k hk => by
          simp only [decide_eq_false_iff_not]
          rw [h.2.1 c hc hs k (by omega)]
          exact lay_ne0 h hc hs)]
        rw [show c + (s c + 1) = (c + 1) + s c by omega, lc_sm_skip (c + 1) (s c) (fun k hk => by simp [lc_wt, a3 k hk])]
        simp only [lc_sm, lc_wt, if_pos hs]
        omega
      · have hs0 : s c = 0 := by omega
        have h0 : fo c = 0 := lay_free h hc hb hs0
        refine ih d (by omega) (c + 1) (by omega) (lay_bd1 hb hs0) ?_
        simp only [lc_ct, lc_sm, lc_wt, if_neg hs, h0, decide_true, if_true]
        omega
theorem lay_cells (h : lc_Lay s nu fo md) : lc_ct (fun i => decide (fo i = 0)) 48 + lc_sm (lc_wt s) 48 = 48 := lay_freeN h 48 0 rfl (fun d hd => by omega) rfl
end LAY
end
section
section RECKON
variable {s t : Nat → Nat} {nu fo fw ho fp fe : lc_A} {md ht len : Nat}
/-- how often x stands among the values v d j of the slots j of the objects d -/
def lc_cn (s : Nat → Nat) (v : Nat → lc_A) (x : Int32) : Nat := lc_sm (fun d => lc_ct (fun j => decide (v d j = x)) (s d)) 48
/-- what the slots hold -/
def lc_hv (ho : lc_A) : Nat → lc_A := fun d j => ho (d + 1 + j)
theorem lc_cn_ext {v w : Nat → lc_A} {x : Int32} (h : ∀ d j, d < 48 → j < s d → v d j = w d j) : lc_cn s v x = lc_cn s w x := by
  refine lc_sm_ext 48 (fun d hd => lc_ct_ext (s d) (fun j hj => ?_))
  rw [h d j hd hj]
theorem lc_cn_upd {v w : Nat → lc_A} {x : Int32} {a b : Nat} (ha : a < 48) (hb : b < s a) (h : ∀ d j, d < 48 → j < s d → ¬ (d = a ∧ j = b) → w d j = v d j) :
    lc_cn s w x + (if v a b = x then 1 else 0) = lc_cn s v x + (if w a b = x then 1 else 0) := by
  have h1 := lc_sm_upd (f := fun d => lc_ct (fun j => decide (v d j = x)) (s d)) (g := fun d => lc_ct (fun j => decide (w d j = x)) (s d)) 48 a ha (fun k hk hn => lc_ct_ext (s k) (fun j hj => by rw [h k j hk hj (fun q => hn q.1)]))
  have h2 := lc_ct_upd (p := fun j => decide (v a j = x)) (q := fun j => decide (w a j = x)) (s a) b hb (fun k hk hn => by rw [h a k ha hk (fun q => hn q.2)])
  simp only [decide_eq_true_eq] at h2
  unfold lc_cn
  omega
theorem lc_cn_le {v : Nat → lc_A} {x : Int32} (h4 : ∀ d, d < 48 → s d ≤ 4) : lc_cn s v x ≤ 192 := by
  have := lc_sm_le (f := fun d => lc_ct (fun j => decide (v d j = x)) (s d)) (b := 4) 48 (fun d hd => Nat.le_trans (lc_ct_le (s d)) (h4 d hd))
  unfold lc_cn
  omega
theorem lc_cn_pos {v : Nat → lc_A} {x : Int32} {d j : Nat} (hd : d < 48) (hj : j < s d) (e : v d j = x) : lc_cn s v x ≠ 0 := by
  intro h
  have h1 := lc_sm_zero 48 h d hd
  have h2 := lc_ct_zero (s d) h1 j hj
  simp [e] at h2
theorem lay_4 (h : lc_Lay s nu fo md) {d : Nat} (hd : d < 48) : s d ≤ 4 := by
  by_cases hs : 0 < s d
  · exact (h.1 d hd hs).1
  · omega
/-- the words: an object's first is its count w, the others are what it holds -/
def lc_CW (s : Nat → Nat) (nu fw ho : lc_A) (w : Int32 → Int32) : Prop := ∀ c, c < 48 → 0 < s c → fw c = w (nu c) ∧ ∀ k, k < s c → fw (c + 1 + k) = ho (c + 1 + k)
theorem lc_CW.to {w w' : Int32 → Int32} (h : lc_CW s nu fw ho w) (e : ∀ c, c < 48 → 0 < s c → w (nu c) = w' (nu c)) : lc_CW s nu fw ho w' := fun c hc hs => ⟨(h c hc hs).1.trans (e c hc hs), (h c hc hs).2⟩
theorem cw_add (h : lc_Lay s nu fo md) {w : Int32 → Int32} (hw : lc_CW s nu fw ho w) (x d : Int32) : lc_CW s nu (lc_add fo fw x d) ho (fun z => if z = x then w z + d else w z) := by
  by_cases e : lc_al s nu x
  · obtain ⟨a, ha, hsa, rfl⟩ := e
    intro c hc hs
    obtain ⟨h1, h2⟩ := hw c hc hs
    unfold lc_add
    rw [lay_first h ha hsa]
    refine ⟨?_, fun k hk => ?_⟩
    · by_cases ec : c = a
      · subst ec
        simp only [if_true]
        rw [pk_us, h1]
      · show upd fw a (fw a + d) c = if nu c = nu a then w (nu c) + d else w (nu c)
        rw [if_neg (fun q => ec (lay_inj h hc ha hs hsa q)), pk_un ec, h1]
    · have h0 := (h.1 c hc hs).2.2 k hk
      have hne : c + 1 + k ≠ a := fun q => by rw [q] at h0; omega
      rw [← h2 k hk]
      exact pk_un hne
  · intro c hc hs
    obtain ⟨h1, h2⟩ := hw c hc hs
    unfold lc_add
    rw [lay_firstN h e]
    refine ⟨?_, h2⟩
    show fw c = if nu c = x then w (nu c) + d else w (nu c)
    rw [if_neg (fun q => e ⟨c, hc, hs, q⟩)]
    exact h1
theorem lc_m1p1 (x : Int32) : x + (-1) + 1 = x := by
  rw [Int32.add_assoc, show (-1 : Int32) + 1 = 0 by decide, Int32.add_zero]
/-- one entry: its object's slots from what the entry holds to what they hold -/
theorem cw_cc (h : lc_Lay s nu fo md) {v : Nat → lc_A} {B : lc_A} {a : Nat} (ha : a < 48) (hsa : 0 < s a) (hB : ∀ j, j < s a → v a j = B j) (hw : lc_CW s nu fw ho (fun z => nI (lc_cn s v z))) :
    ∀ j, j ≤ s a → lc_CW s nu (lc_cc fo a B fw j) ho (fun z => nI (lc_cn s (fun d i => if d = a ∧ i < j then ho (a + 1 + i) else v d i) z)) := by
  intro j
  induction j with
  | zero =>
    intro _
    refine hw.to (fun c hc hs => ?_)
    simp only [Nat.not_lt_zero, and_false, if_false]
  | succ j ih =>
    intro hj
    have h1 := cw_add h (ih (by omega)) (B j) (-1)
    have e1 : lc_add fo (lc_cc fo a B fw j) (B j) (-1) (a + 1 + j) = ho (a + 1 + j) := (h1 a ha hsa).2 j (by omega)
    have h2 := cw_add h h1 (ho (a + 1 + j)) 1
    simp only [lc_cc]
    rw [e1]
    refine h2.to (fun c hc hs => ?_)
    have hu := lc_cn_upd (s := s) (v := fun d i => if d = a ∧ i < j then ho (a + 1 + i) else v d i) (w := fun d i => if d = a ∧ i < j + 1 then ho (a + 1 + i) else v d i) (x := nu c) (a := a) (b := j) ha (by omega) (fun d i _ _ hn => by
      by_cases ed : d = a
      · by_cases ei : i < j
        · simp only [ed, ei, if_true, true_and]
          rw [if_pos (by omega)]
        · have : ¬ i < j + 1 := fun q => hn ⟨ed, by omega⟩
          simp only [ei, this, and_false, if_false]
      · simp only [ed, false_and, if_false])
    simp only [Nat.lt_irrefl, and_false, if_false, Nat.lt_succ_self, and_self, if_true] at hu
    rw [hB j (by omega)] at hu
    generalize lc_cn s (fun d i => if d = a ∧ i < j then ho (a + 1 + i) else v d i) (nu c) = N at hu ⊢
    generalize lc_cn s (fun d i => if d = a ∧ i < j + 1 then ho (a + 1 + i) else v d i) (nu c) = N' at hu ⊢
    by_cases p1 : nu c = B j
    · by_cases p2 : nu c = ho (a + 1 + j)
      · rw [if_pos p2, if_pos p1, lc_m1p1]
        rw [if_pos p1.symm, if_pos p2.symm] at hu
        congr 1
        omega
      · rw [if_neg p2, if_pos p1]
        rw [if_pos p1.symm, if_neg (fun q => p2 q.symm)] at hu
        rw [show N = N' + 1 by omega]
        exact pk_m1 N'
    · by_cases p2 : nu c = ho (a + 1 + j)
      · rw [if_pos p2, if_neg p1]
        rw [if_neg (fun q => p1 q.symm), if_pos p2.symm] at hu
        rw [nI_1]
        congr 1
        omega
      · rw [if_neg p2, if_neg p1]
        rw [if_neg (fun q => p1 q.symm), if_neg (fun q => p2 q.symm)] at hu
        congr 1
        omega
/-- what the slots held, but for the entries below k, which are brought up to date -/
def lc_od (nu fe ho : lc_A) (M : Nat → lc_A) (len k : Nat) : Nat → lc_A := fun d j => match lc_ff (fun i => decide (fe i = nu d)) len 0 with
  | some i => if i < k then ho (d + 1 + j) else M i j
  | none => ho (d + 1 + j)
theorem cw_cl (h : lc_Lay s nu fo md) {M : Nat → lc_A} (hal : ∀ k, k < len → lc_al s nu (fe k)) (hdis : ∀ j k, j < len → k < len → fe j = fe k → j = k)
    (hw : lc_CW s nu fw ho (fun z => nI (lc_cn s (lc_od nu fe ho M len 0) z))) :
    ∀ k, k ≤ len → lc_CW s nu (lc_cl fo fe M fw k) ho (fun z => nI (lc_cn s (lc_od nu fe ho M len k) z)) := by
  intro k
  induction k with
  | zero => intro _; exact hw
  | succ k ih =>
    intro hk
    obtain ⟨a, ha, hsa, hna⟩ := hal k (by omega)
    have hff : lc_ff (fun i => decide (fe i = nu a)) len 0 = some k := by
      refine lc_ff_some len 0 k (Nat.zero_le _) (by omega) (by simp [hna]) (fun j _ hj => ?_)
      simp only [decide_eq_false_iff_not]
      intro q
      have := hdis j k (by omega) (by omega) (q.trans hna)
      omega
    have h1 := cw_cc h ha hsa (B := M k) (v := lc_od nu fe ho M len k) (fun j _ => by simp only [lc_od, hff, Nat.lt_irrefl, if_false]) (ih (by omega)) (s a) (Nat.le_refl _)
    simp only [lc_cl]
    rw [← hna, lay_first h ha hsa]
    simp only [lc_cco]
    rw [lay_sa h ha hsa]
    refine h1.to (fun c hc hs => congrArg nI (lc_cn_ext (fun d j hd hj => ?_)))
    by_cases ed : d = a
    · subst ed
      rw [if_pos ⟨rfl, hj⟩]
      simp only [lc_od, hff, Nat.lt_succ_self, if_true]
    · rw [if_neg (fun q => ed q.1)]
      cases e : lc_ff (fun i => decide (fe i = nu d)) len 0 with
      | none => simp only [lc_od, e]
      | some i =>
        simp only [lc_od, e]
        obtain ⟨-, q2, q3, -⟩ := lc_ff_spec len 0 i e
        simp only [decide_eq_true_eq] at q3
        have hik : i ≠ k := by
          intro q
          subst q
          exact ed (lay_inj h hd ha (by omega) hsa (q3.symm.trans hna.symm))
        by_cases ei : i < k
        · rw [if_pos ei, if_pos (by omega)]
        · rw [if_neg ei, if_neg (by omega)]
theorem cw_all (h : lc_Lay s nu fo md) {M : Nat → lc_A} (hal : ∀ k, k < len → lc_al s nu (fe k)) (hdis : ∀ j k, j < len → k < len → fe j = fe k → j = k)
    (hw : lc_CW s nu fw ho (fun z => nI (lc_cn s (lc_od nu fe ho M len 0) z))) : lc_CW s nu (lc_cl fo fe M fw len) ho (fun z => nI (lc_cn s (lc_hv ho) z)) := by
  refine (cw_cl h hal hdis hw len (Nat.le_refl _)).to (fun c hc hs => congrArg nI (lc_cn_ext (fun d j _ _ => ?_)))
  cases e : lc_ff (fun i => decide (fe i = nu d)) len 0 with
  | none => simp only [lc_od, e, lc_hv]
  | some i =>
    obtain ⟨-, q2, -, -⟩ := lc_ff_spec len 0 i e
    simp only [lc_od, e, lc_hv]
    rw [if_pos (by omega)]
/-! giving back -/
def lc_Val (s : Nat → Nat) (nu ho : lc_A) : Prop := ∀ c, c < 48 → 0 < s c → ∀ k, k < s c → lc_rf s nu (ho (c + 1 + k))
def lc_Stk (s : Nat → Nat) (nu fp : lc_A) (ht : Nat) : Prop := ht ≤ 8 ∧ ∀ j, j < ht → lc_rf s nu (fp j)
def lc_sub (t s : Nat → Nat) : Prop := (∀ c, t c = s c ∨ t c = 0) ∧ ∀ c, 48 ≤ c → t c = s c
def lc_stuck (t : Nat → Nat) (nu ho fp : lc_A) (ht : Nat) : Prop := ∀ c, c < 48 → 0 < t c → lc_cn t (lc_hv ho) (nu c) ≠ 0 ∨ lc_on fp ht (nu c) = true
def lc_FI (s : Nat → Nat) (nu fo fw ho fp : lc_A) (md ht : Nat) : Prop := lc_Lay s nu fo md ∧ lc_CW s nu fw ho (fun z => nI (lc_cn s (lc_hv ho) z)) ∧ lc_Val s nu ho ∧ lc_Stk s nu fp ht
theorem lc_cn_mono {v : Nat → lc_A} {x : Int32} (h : ∀ c, t c = s c ∨ t c = 0) : lc_cn t v x ≤ lc_cn s v x := by
  refine lc_sm_mono 48 (fun d hd => ?_)
  rcases h d with e | e
  · rw [e]; exact Nat.le_refl _
  · rw [e]; exact Nat.zero_le _
/-- the slots of the one that is given back no longer count -/
theorem cw_gb (h : lc_Lay s nu fo md) {a : Nat} (ha : a < 48) (hsa : 0 < s a) (hw : lc_CW s nu fw ho (fun z => nI (lc_cn s (lc_hv ho) z))) :
    ∀ j, j ≤ s a → lc_CW s nu (lc_gb fo fw a j) ho (fun z => nI (lc_cn s (fun d i => if d = a ∧ i < j then 0 else lc_hv ho d i) z)) := by
  intro j
  induction j with
  | zero =>
    intro _
    refine hw.to (fun c hc hs => ?_)
    simp only [Nat.not_lt_zero, and_false, if_false]
  | succ j ih =>
    intro hj
    have h0 := ih (by omega)
    have e1 : lc_gb fo fw a j (a + 1 + j) = ho (a + 1 + j) := (h0 a ha hsa).2 j (by omega)
    have h2 := cw_add h h0 (ho (a + 1 + j)) (-1)
    simp only [lc_gb]
    rw [e1]
    refine h2.to (fun c hc hs => ?_)
    have hu := lc_cn_upd (s := s) (v := fun d i => if d = a ∧ i < j then 0 else lc_hv ho d i) (w := fun d i => if d = a ∧ i < j + 1 then 0 else lc_hv ho d i) (x := nu c) (a := a) (b := j) ha (by omega) (fun d i _ _ hn => by
      by_cases ed : d = a
      · by_cases ei : i < j
        · simp only [ed, ei, if_true, true_and]
          rw [if_pos (by omega)]
        · have : ¬ i < j + 1 := fun q => hn ⟨ed, by omega⟩
          simp only [ei, this, and_false, if_false]
      · simp only [ed, false_and, if_false])
    simp only [Nat.lt_irrefl, and_false, if_false, Nat.lt_succ_self, and_self, if_true] at hu
    rw [if_neg (show ¬ (0 : Int32) = nu c from fun q => lay_ne0 h hc hs q.symm)] at hu
    generalize lc_cn s (fun d i => if d = a ∧ i < j then 0 else lc_hv ho d i) (nu c) = N at hu ⊢
    generalize lc_cn s (fun d i => if d = a ∧ i < j + 1 then 0 else lc_hv ho d i) (nu c) = N' at hu ⊢
    rw [show lc_hv ho a j = ho (a + 1 + j) from rfl] at hu
    by_cases p2 : nu c = ho (a + 1 + j)
    · rw [if_pos p2]
      rw [if_pos p2.symm] at hu
      rw [show N = N' + 1 by omega]
      exact pk_m1 N'
    · rw [if_neg p2]
      rw [if_neg (fun q => p2 q.symm)] at hu
      congr 1
      omega
theorem up0_pos {a c : Nat} (h : 0 < va_up s a 0 c) : c ≠ a ∧ va_up s a 0 c = s c := by
  by_cases e : c = a
  · subst e; rw [va_up_self] at h; omega
  · exact ⟨e, va_up_ne s 0 e⟩
theorem lay_gb (h : lc_Lay s nu fo md) {a : Nat} (ha : a < 48) (hsa : 0 < s a) : lc_Lay (va_up s a 0) nu (lc_fill fo a (s a + 1) 0) md := by
  obtain ⟨h1, h2, h3, h4, h5, h6⟩ := id h
  refine ⟨fun c hc hs => ?_, fun c hc hs k hk => ?_, fun i hi h0 => ?_, fun c hc hs => ?_, fun c d hc hd hs hsd e => ?_, h6⟩
  · obtain ⟨e1, e2⟩ := up0_pos hs
    rw [e2] at hs ⊢
    obtain ⟨q1, q2, q3⟩ := h1 c hc hs
    refine ⟨q1, q2, fun k hk => ?_⟩
    by_cases e : c + 1 + k = a
    · rw [e, va_up_self]
    · rw [va_up_ne s 0 e]; exact q3 k hk
  · obtain ⟨e1, e2⟩ := up0_pos hs
    rw [e2] at hs hk
    unfold lc_fill
    rw [if_neg, h2 c hc hs k hk]
    intro q
    have ea := h2 a ha hsa (c + k - a) (by omega)
    rw [show a + (c + k - a) = c + k by omega, h2 c hc hs k hk] at ea
    exact e1 (lay_inj h hc ha hs hsa ea)
  · unfold lc_fill at h0
    by_cases q : a ≤ i ∧ i < a + (s a + 1)
    · rw [if_pos q] at h0; exact absurd rfl h0
    · rw [if_neg q] at h0
      obtain ⟨c, c1, c2, c3⟩ := h3 i hi h0
      have : c ≠ a := fun z => q (by subst z; omega)
      exact ⟨c, c1, by rw [va_up_ne s 0 this]; exact c2, by rw [va_up_ne s 0 this]; exact c3⟩
  · obtain ⟨e1, e2⟩ := up0_pos hs
    rw [e2] at hs
    exact h4 c hc hs
  · obtain ⟨e1, e2⟩ := up0_pos hs
    obtain ⟨e3, e4⟩ := up0_pos hsd
    rw [e2] at hs
    rw [e4] at hsd
    exact h5 c d hc hd hs hsd e
theorem lc_cn_up0 {a : Nat} {x : Int32} (hx : x ≠ 0) : lc_cn s (fun d i => if d = a ∧ i < s a then 0 else lc_hv ho d i) x = lc_cn (va_up s a 0) (lc_hv ho) x := by
  refine lc_sm_ext 48 (fun d hd => ?_)
  by_cases e : d = a
  · subst e
    rw [va_up_self]
    show _ = 0
    refine lc_ct_none (s d) (fun j hj => ?_)
    rw [decide_eq_false_iff_not]
    show ¬ (if d = d ∧ j < s d then (0 : Int32) else lc_hv ho d j) = x
    rw [if_pos ⟨rfl, hj⟩]
    exact fun q => hx q.symm
  · rw [va_up_ne s 0 e]
    refine lc_ct_ext (s d) (fun j hj => ?_)
    show decide ((if d = a ∧ j < s a then (0 : Int32) else lc_hv ho d j) = x) = _
    rw [if_neg (fun q => e q.1)]
theorem rf_up0 {a : Nat} {x : Int32} (h : lc_rf s nu x) (hx : x ≠ nu a) : lc_rf (va_up s a 0) nu x := by
  rcases h with h | ⟨c, hc, hs, e⟩
  · exact Or.inl h
  · refine Or.inr ⟨c, hc, ?_, e⟩
    have : c ≠ a := fun q => hx (by rw [← e, q])
    rw [va_up_ne s 0 this]; exact hs
theorem fi_gb (h : lc_FI s nu fo fw ho fp md ht) {a : Nat} (ha : a < 48) (hsa : 0 < s a) (h0 : lc_cn s (lc_hv ho) (nu a) = 0) (hst : lc_on fp ht (nu a) = false) :
    lc_FI (va_up s a 0) nu (lc_fill fo a (s a + 1) 0) (lc_gb fo fw a (s a)) ho fp md ht := by
  obtain ⟨hL, hW, hV, hS⟩ := h
  refine ⟨lay_gb hL ha hsa, fun c hc hs => ?_, fun c hc hs k hk => ?_, hS.1, fun j hj => ?_⟩
  · obtain ⟨e1, e2⟩ := up0_pos hs
    rw [e2] at hs
    obtain ⟨q1, q2⟩ := cw_gb hL ha hsa hW (s a) (Nat.le_refl _) c hc hs
    refine ⟨?_, fun k hk => q2 k (by rw [e2] at hk; exact hk)⟩
    exact q1.trans (congrArg nI (lc_cn_up0 (lay_ne0 hL hc hs)))
  · obtain ⟨e1, e2⟩ := up0_pos hs
    rw [e2] at hs hk
    refine rf_up0 (hV c hc hs k hk) (fun q => ?_)
    exact lc_cn_pos (s := s) (v := lc_hv ho) hc hk q h0
  · refine rf_up0 (hS.2 j hj) (fun q => ?_)
    have := lc_an_nspec ht hst j hj
    simp only [decide_eq_false_iff_not] at this
    exact this q
theorem sub_stuck (hst : lc_stuck t nu ho fp ht) (hsub : lc_sub t s) {a : Nat} (ha : a < 48) (h0 : lc_cn s (lc_hv ho) (nu a) = 0) (hon : lc_on fp ht (nu a) = false) : t a = 0 := by
  by_cases e : 0 < t a
  · rcases hst a ha e with q | q
    · have := lc_cn_mono (v := lc_hv ho) (x := nu a) hsub.1
      omega
    · rw [hon] at q; cases q
  · omega
theorem lc_ct_up0 {a : Nat} (ha : a < 48) (hsa : 0 < s a) : lc_ct (fun c => decide (0 < s c)) 48 = lc_ct (fun c => decide (0 < va_up s a 0 c)) 48 + 1 := by
  have := lc_ct_upd (p := fun c => decide (0 < s c)) (q := fun c => decide (0 < va_up s a 0 c)) 48 a ha (fun k hk hn => by rw [va_up_ne s 0 hn])
  simp only [va_up_self, hsa, decide_true, if_true] at this
  simp at this
  omega
theorem nI_z {n : Nat} (h : n ≤ 192) : nI n = 0 ↔ n = 0 := by
  rw [← nI_0]
  exact nI_eq (by omega) (by omega)
/-- the class gives back one by one: what is left can't be given back, and nothing that can stay was taken -/
theorem class_free : ∀ (f : Nat) (s : Nat → Nat) (fo fw : lc_A), lc_FI s nu fo fw ho fp md ht → lc_ct (fun c => decide (0 < s c)) 48 ≤ f →
    ∃ s' : Nat → Nat, lc_FI s' nu (lc_fr fp ht f fo fw).1 (lc_fr fp ht f fo fw).2.1 ho fp md ht ∧ lc_sub s' s ∧ lc_stuck s' nu ho fp ht ∧
      lc_ct (fun c => decide (0 < s c)) 48 = lc_ct (fun c => decide (0 < s' c)) 48 + (lc_fr fp ht f fo fw).2.2 ∧ ∀ t, lc_sub t s → lc_stuck t nu ho fp ht → ∀ c, c < 48 → 0 < t c → 0 < s' c := by
  intro f
  induction f with
  | zero =>
    intro s fo fw h hf
    have hz := lc_ct_zero 48 (Nat.le_zero.mp hf)
    refine ⟨s, h, ⟨fun c => Or.inl rfl, fun c _ => rfl⟩, fun c hc hs => ?_, rfl, fun t ht' hst c hc hs => ?_⟩
    · have := hz c hc; simp at this; omega
    · rcases ht'.1 c with q | q
      · rw [q] at hs; exact hs
      · omega
  | succ f ih =>
    intro s fo fw h hf
    cases e : lc_un fo fw fp ht with
    | none =>
      simp only [lc_fr, e]
      refine ⟨s, h, ⟨fun c => Or.inl rfl, fun c _ => rfl⟩, fun c hc hs => ?_, rfl, fun t ht' hst c hc hs => ?_⟩
      · have hn := lc_ff_nspec 48 0 e c (Nat.zero_le _) (by omega)
        simp only [lc_isU, lay_isF h.1 hc, hs, decide_true, Bool.true_and, lay_0 h.1 hc hs] at hn
        by_cases q : lc_cn s (lc_hv ho) (nu c) = 0
        · right
          have e2 := (h.2.1 c hc hs).1
          simp only [q] at e2
          rw [e2, nI_0] at hn
          simpa using hn
        · exact Or.inl q
      · rcases ht'.1 c with q | q
        · rw [q] at hs; exact hs
        · omega
    | some a =>
      simp only [lc_fr, e]
      obtain ⟨-, ha, hp, -⟩ := lc_ff_spec 48 0 a e
      have ha : a < 48 := by omega
      simp only [lc_isU, lay_isF h.1 ha, Bool.and_eq_true, decide_eq_true_eq, Bool.not_eq_true'] at hp
      obtain ⟨⟨hsa, hw0⟩, hon⟩ := hp
      rw [lay_0 h.1 ha hsa] at hon
      have h0 : lc_cn s (lc_hv ho) (nu a) = 0 := by
        have e2 := (h.2.1 a ha hsa).1
        rw [hw0] at e2
        exact (nI_z (lc_cn_le (fun d hd => lay_4 h.1 hd))).mp e2.symm
      rw [lay_sa h.1 ha hsa]
      have hc1 := lc_ct_up0 (s := s) ha hsa
      obtain ⟨s', q1, q2, q3, q4, q5⟩ := ih (va_up s a 0) _ _ (fi_gb h ha hsa h0 hon) (by omega)
      refine ⟨s', q1, ⟨fun c => ?_, fun c hc => ?_⟩, q3, by omega, fun t ht' hst c hc hs => ?_⟩
      · rcases q2.1 c with z | z
        · by_cases ec : c = a
          · subst ec; rw [va_up_self] at z; exact Or.inr z
          · rw [va_up_ne s 0 ec] at z; exact Or.inl z
        · exact Or.inr z
      · rw [q2.2 c hc, va_up_ne s 0 (by omega)]
      · have hta := sub_stuck hst ht' ha h0 hon
        refine q5 t ⟨fun d => ?_, fun d hd => ?_⟩ hst c hc hs
        · by_cases ed : d = a
          · subst ed; exact Or.inr hta
          · rw [va_up_ne s 0 ed]; exact ht'.1 d
        · rw [ht'.2 d hd, va_up_ne s 0 (by omega)]
theorem lm_rc_cn {c : Nat} (hs : 0 < s c) : lm_rc s nu ho c = nI (lc_cn s (lc_hv ho) (nu c)) := by
  unfold lm_rc
  rw [if_pos hs]
  rfl
/-- the reference gives back in rounds: the same two things -/
theorem model_free : ∀ (f : Nat) (s : Nat → Nat) (co : lc_A) (nt : Nat → Bool), (∀ d, d < 48 → s d ≤ 4) → lc_ct (fun c => decide (0 < s c)) 48 < f →
    lc_sub (lm_st nu ho fp ht f s co nt).1 s ∧ lc_stuck (lm_st nu ho fp ht f s co nt).1 nu ho fp ht ∧ (∀ c, c < 48 → (lm_st nu ho fp ht f s co nt).2.2 c = false) ∧
      (∀ c, c < 48 → 0 < (lm_st nu ho fp ht f s co nt).1 c → (lm_st nu ho fp ht f s co nt).2.1 c = nI (lc_cn (lm_st nu ho fp ht f s co nt).1 (lc_hv ho) (nu c))) ∧
      ∀ t, lc_sub t s → lc_stuck t nu ho fp ht → ∀ c, c < 48 → 0 < t c → 0 < (lm_st nu ho fp ht f s co nt).1 c := by
  intro f
  induction f with
  | zero => intro s co nt _ h; omega
  | succ f ih =>
    intro s co nt h4 hf
    generalize hco : lm_mix 48 (lm_rc s nu ho) co = co1
    generalize hnt : lm_mixB 48 nt = nt1
    generalize hp : lm_fr s co1 nu fp ht = p
    have hst : lm_st nu ho fp ht (f + 1) s co nt = if lc_ct p 48 = 0 then (lm_cut p s 48, co1, nt1) else lm_st nu ho fp ht f (lm_cut p s 48) co1 nt1 := by
      simp only [lm_st, hco, hnt, hp]
    have hp1 : ∀ c, c < 48 → (p c = true ↔ 0 < s c ∧ lc_cn s (lc_hv ho) (nu c) = 0 ∧ lc_on fp ht (nu c) = false) := by
      intro c hc
      rw [← hp]
      simp only [lm_fr, Bool.and_eq_true, decide_eq_true_eq, Bool.not_eq_true']
      constructor
      · rintro ⟨⟨a1, a2⟩, a3⟩
        refine ⟨a1, ?_, a3⟩
        rw [← hco] at a2
        simp only [lm_mix, if_pos hc] at a2
        rw [lm_rc_cn a1] at a2
        exact (nI_z (lc_cn_le h4)).mp a2
      · rintro ⟨a1, a2, a3⟩
        refine ⟨⟨a1, ?_⟩, a3⟩
        rw [← hco]
        simp only [lm_mix, if_pos hc]
        rw [lm_rc_cn a1, a2, nI_0]
    have hcut : lc_sub (lm_cut p s 48) s := by
      refine ⟨fun c => ?_, fun c hc => ?_⟩
      · unfold lm_cut
        split
        · exact Or.inr rfl
        · exact Or.inl rfl
      · unfold lm_cut
        rw [if_neg (by omega)]
    have hmax : ∀ t, lc_sub t s → lc_stuck t nu ho fp ht → lc_sub t (lm_cut p s 48) := by
      intro t ht' hstk
      refine ⟨fun c => ?_, fun c hc => ?_⟩
      · unfold lm_cut
        by_cases q : c < 48 ∧ p c = true
        · rw [if_pos q]
          obtain ⟨b1, b2, b3⟩ := (hp1 c q.1).mp q.2
          exact Or.inr (sub_stuck hstk ht' q.1 b2 b3)
        · rw [if_neg q]; exact ht'.1 c
      · rw [ht'.2 c hc, hcut.2 c hc]
    rw [hst]
    by_cases e : lc_ct p 48 = 0
    · rw [if_pos e]
      have hz := lc_ct_zero 48 e
      have hs : lm_cut p s 48 = s := by
        funext c
        unfold lm_cut
        by_cases hc : c < 48
        · rw [if_neg (by rw [hz c hc]; simp)]
        · rw [if_neg (by omega)]
      simp only [hs]
      refine ⟨⟨fun c => Or.inl rfl, fun c _ => rfl⟩, fun c hc hsc => ?_, fun c hc => ?_, fun c hc hsc => ?_, fun t ht' hstk c hc hsc => ?_⟩
      · by_cases q : lc_cn s (lc_hv ho) (nu c) = 0
        · right
          cases e3 : lc_on fp ht (nu c) with
          | true => rfl
          | false =>
            have := (hp1 c hc).mpr ⟨hsc, q, e3⟩
            rw [hz c hc] at this
            cases this
        · exact Or.inl q
      · rw [← hnt]
        simp only [lm_mixB, if_pos hc]
      · rw [← hco]
        simp only [lm_mix, if_pos hc]
        exact lm_rc_cn hsc
      · rcases ht'.1 c with q | q
        · rw [q] at hsc; exact hsc
        · omega
    · rw [if_neg e]
      have hal : lc_ct (fun c => decide (0 < s c)) 48 = lc_ct (fun c => decide (0 < lm_cut p s 48 c)) 48 + lc_ct p 48 := by
        rw [lc_ct_cutp (q := p) 48 (fun c hc q => by simp only [decide_eq_true_eq]; exact ((hp1 c hc).mp q).1)]
        refine congrArg (· + lc_ct p 48) (lc_ct_ext 48 (fun c hc => ?_))
        unfold lm_cut
        cases e3 : p c with
        | true => simp [hc]
        | false => simp
      obtain ⟨q1, q2, q3, q4, q5⟩ := ih (lm_cut p s 48) co1 nt1 (fun d hd => (hcut.1 d).elim (fun z => by rw [z]; exact h4 d hd) (fun z => by rw [z]; exact Nat.zero_le _)) (by omega)
      refine ⟨⟨fun c => ?_, fun c hc => by rw [q1.2 c hc, hcut.2 c hc]⟩, q2, q3, q4, fun t ht' hstk => q5 t (hmax t ht' hstk) hstk⟩
      rcases q1.1 c with z | z
      · rw [z]; exact hcut.1 c
      · exact Or.inr z
theorem sub_eq {u : Nat → Nat} (h1 : lc_sub t s) (h2 : lc_sub u s) (h3 : ∀ c, c < 48 → 0 < t c → 0 < u c) (h4 : ∀ c, c < 48 → 0 < u c → 0 < t c) : t = u := by
  funext c
  by_cases hc : c < 48
  · rcases h1.1 c with a | a <;> rcases h2.1 c with b | b
    · rw [a, b]
    · by_cases z : 0 < t c
      · have := h3 c hc z; omega
      · omega
    · by_cases z : 0 < u c
      · have := h4 c hc z; omega
      · omega
    · rw [a, b]
  · rw [h1.2 c (by omega), h2.2 c (by omega)]
end RECKON
end
section
section SIM
variable {s : Nat → Nat} {nu fo fw ho fp fe co he : lc_A} {nt : Nat → Bool} {M : Nat → lc_A} {md ht len : Nat}
def lc_Log (s : Nat → Nat) (nu : lc_A) (nt : Nat → Bool) (fe : lc_A) (len : Nat) (M : Nat → lc_A) (he : lc_A) : Prop := len ≤ 5 ∧ (∀ k, k < len → lc_al s nu (fe k)) ∧ (∀ j k, j < len → k < len → fe j = fe k → j = k) ∧ (∀ c, c < 48 → 0 < s c → nt c = lc_on fe len (nu c)) ∧
  (∀ k c, k < len → c < 48 → 0 < s c → nu c = fe k → ∀ j, j < s c → M k j = he (4 * k + j) ∧ lc_rf s nu (M k j))
/-- class and reference agree; what both keep alike (made, stack, the log's objects and length) stands here once -/
def lc_Sim (fo fw : lc_A) (md : Nat) (fp : lc_A) (ht : Nat) (fe : lc_A) (M : Nat → lc_A) (len : Nat) (nu : lc_A) (s : Nat → Nat) (co : lc_A) (nt : Nat → Bool) (ho he : lc_A) : Prop :=
  lc_Lay s nu fo md ∧ lc_CW s nu fw ho (fun z => nI (lc_cn s (lc_od nu fe ho M len 0) z)) ∧ (∀ c, c < 48 → 0 < s c → co c = fw c) ∧ lc_Val s nu ho ∧ lc_Stk s nu fp ht ∧ lc_Log s nu nt fe len M he
/-- at the start -/
theorem sim_0 (fo fw fp fe nu co ho he : lc_A) (M : Nat → lc_A) (nt : Nat → Bool) (h : ∀ i, fo i = 0) : lc_Sim fo fw 0 fp 0 fe M 0 nu (fun _ => 0) co nt ho he := by
  exact ⟨⟨fun c _ hs => absurd hs (Nat.lt_irrefl 0), fun c _ hs => absurd hs (Nat.lt_irrefl 0), fun i _ h0 => absurd (h i) h0, fun c _ hs => absurd hs (Nat.lt_irrefl 0), fun c d _ _ hs => absurd hs (Nat.lt_irrefl 0), by omega⟩, fun c _ hs => absurd hs (Nat.lt_irrefl 0), fun c _ hs => absurd hs (Nat.lt_irrefl 0), fun c _ hs => absurd hs (Nat.lt_irrefl 0), ⟨by omega, fun j hj => by omega⟩, by omega, fun k hk => by omega, fun j k hj => by omega, fun c _ hs => absurd hs (Nat.lt_irrefl 0), fun k c hk => by omega⟩
theorem sim_reckon (h : lc_Sim fo fw md fp ht fe M len nu s co nt ho he) :
    lc_Sim (lc_bu fo fw fp ht fe M len).1 (lc_bu fo fw fp ht fe M len).2.1 md fp ht fe M 0 nu (lm_st nu ho fp ht 50 s co nt).1 (lm_st nu ho fp ht 50 s co nt).2.1 (lm_st nu ho fp ht 50 s co nt).2.2 ho he ∧
    lc_sub (lm_st nu ho fp ht 50 s co nt).1 s ∧ lc_ct (fun c => decide (0 < s c)) 48 = lc_ct (fun c => decide (0 < (lm_st nu ho fp ht 50 s co nt).1 c)) 48 + (lc_bu fo fw fp ht fe M len).2.2 := by
  obtain ⟨hL, hW, hC, hV, hS, hG⟩ := h
  have hFI : lc_FI s nu fo (lc_cl fo fe M fw len) ho fp md ht := ⟨hL, cw_all hL hG.2.1 hG.2.2.1 hW, hV, hS⟩
  obtain ⟨s', q1, q2, q3, q4, q5⟩ := class_free 48 s fo _ hFI (lc_ct_le 48)
  obtain ⟨m1, m2, m3, m4, m5⟩ := model_free (nu := nu) (ho := ho) (fp := fp) (ht := ht) 50 s co nt (fun d hd => lay_4 hL hd) (by have := lc_ct_le (p := fun c => decide (0 < s c)) 48; omega)
  have e : s' = (lm_st nu ho fp ht 50 s co nt).1 := sub_eq q2 m1 (fun c hc z => m5 s' q2 q3 c hc z) (fun c hc z => q5 _ m1 m2 c hc z)
  rw [← e] at m1 m2 m4 m5 ⊢
  refine ⟨⟨q1.1, ?_, ?_, q1.2.2.1, q1.2.2.2, ?_⟩, q2, q4⟩
  · exact q1.2.1
  · intro c hc hs
    rw [m4 c hc hs]
    exact ((q1.2.1 c hc hs).1).symm
  · refine ⟨by omega, fun k hk => by omega, fun j k hj => by omega, fun c hc _ => ?_, fun k c hk => by omega⟩
    rw [m3 c hc]
    rfl
theorem od_rf (h : lc_Sim fo fw md fp ht fe M len nu s co nt ho he) {d j : Nat} (hd : d < 48) (hj : j < s d) : lc_rf s nu (lc_od nu fe ho M len 0 d j) := by
  obtain ⟨hL, hW, hC, hV, hS, hG⟩ := h
  cases e : lc_ff (fun i => decide (fe i = nu d)) len 0 with
  | none => simp only [lc_od, e]; exact hV d hd (by omega) j hj
  | some i =>
    simp only [lc_od, e, Nat.not_lt_zero, if_false]
    obtain ⟨-, a2, a3, -⟩ := lc_ff_spec len 0 i e
    simp only [decide_eq_true_eq] at a3
    exact (hG.2.2.2.2 i d (by omega) hd (by omega) a3.symm j hj).2
theorem al_le (h : lc_Lay s nu fo md) {x : Int32} (hx : lc_rf s nu x) : x ≠ nI (md + 1) := by
  have hm := h.2.2.2.2.2
  rcases hx with rfl | ⟨c, hc, hs, rfl⟩
  · exact fun q => nI_ne0 (n := md + 1) (by omega) (by omega) q.symm
  · obtain ⟨n, a1, a2, a3⟩ := h.2.2.2.1 c hc hs
    rw [a3]
    exact fun q => by have := (nI_eq (by omega) (by omega)).mp q; omega
theorem sim_make (h : lc_Sim fo fw md fp ht fe M len nu s co nt ho he) {a n : Nat} (hn : 1 ≤ n) (hn4 : n ≤ 4) (ha : a + (n + 1) ≤ 48) (hz : ∀ k, a ≤ k → k < a + (n + 1) → fo k = 0) (hmd : md < 512) (hht : ht < 8) :
    lc_Sim (lc_fill fo a (n + 1) (nI (md + 1))) (lc_fill fw a (n + 1) 0) (md + 1) (upd fp ht (nI (md + 1))) (ht + 1) fe M len (upd nu a (nI (md + 1))) (va_up s a n) (upd co a 0) (va_up nt a false) (lc_fill ho (a + 1) n 0) he := by
  have hrf := @od_rf s nu fo fw ho fp fe co he nt M md ht len h
  obtain ⟨hL, hW, hC, hV, hS, hG⟩ := h
  obtain ⟨h1, h2, h3, h4, h5, h6⟩ := id hL
  have F0 : ∀ c, c < 48 → 0 < s c → ∀ k, k ≤ s c → ¬ (a ≤ c + k ∧ c + k < a + (n + 1)) := by
    intro c hc hs k hk q
    have e := h2 c hc hs k hk
    rw [hz _ q.1 q.2] at e
    exact lay_ne0 hL hc hs e.symm
  have F1 : ∀ i, a ≤ i → i < a + (n + 1) → s i = 0 := by
    intro i i1 i2
    by_cases e : 0 < s i
    · exact absurd ⟨by omega, by omega⟩ (F0 i (by omega) e 0 (by omega))
    · omega
  have Fa : ∀ c, 0 < va_up s a n c → c = a ∨ (c ≠ a ∧ 0 < s c ∧ va_up s a n c = s c) := by
    intro c hs
    by_cases e : c = a
    · exact Or.inl e
    · rw [va_up_ne s n e] at hs
      exact Or.inr ⟨e, hs, va_up_ne s n e⟩
  have Fo : ∀ c, c < 48 → 0 < s c → c ≠ a := fun c hc hs q => by
    have := F1 c (by omega) (by omega)
    omega
  have al1 : ∀ x, lc_al s nu x → lc_al (va_up s a n) (upd nu a (nI (md + 1))) x := by
    rintro x ⟨c, hc, hs, e⟩
    have hne := Fo c hc hs
    exact ⟨c, hc, by rw [va_up_ne s n hne]; exact hs, by rw [pk_un hne]; exact e⟩
  have rf1 : ∀ x, lc_rf s nu x → lc_rf (va_up s a n) (upd nu a (nI (md + 1))) x := fun x hx => hx.elim Or.inl (fun q => Or.inr (al1 x q))
  have hnf : ∀ i, i < len → fe i ≠ nI (md + 1) := fun i hi => al_le hL (Or.inr (hG.2.1 i hi))
  have hff : lc_ff (fun i => decide (fe i = nI (md + 1))) len 0 = none := lc_ff_none len 0 (fun k _ hk => by simp only [decide_eq_false_iff_not]; exact hnf k (by omega))
  have hod : ∀ d j, d < 48 → d ≠ a → j < s d → lc_od (upd nu a (nI (md + 1))) fe (lc_fill ho (a + 1) n 0) M len 0 d j = lc_od nu fe ho M len 0 d j := by
    intro d j hd hne hj
    have e1 : lc_fill ho (a + 1) n 0 (d + 1 + j) = ho (d + 1 + j) := by
      unfold lc_fill
      rw [if_neg]
      intro q
      exact F0 d hd (by omega) (j + 1) (by omega) ⟨by omega, by omega⟩
    unfold lc_od
    rw [pk_un hne]
    simp only [e1]
  have hcn : ∀ x, x ≠ 0 → lc_cn (va_up s a n) (lc_od (upd nu a (nI (md + 1))) fe (lc_fill ho (a + 1) n 0) M len 0) x = lc_cn s (lc_od nu fe ho M len 0) x := by
    intro x hx
    refine lc_sm_ext 48 (fun d hd => ?_)
    by_cases e : d = a
    · subst e
      rw [va_up_self, F1 d (by omega) (by omega)]
      show _ = 0
      refine lc_ct_none n (fun j hj => ?_)
      simp only [decide_eq_false_iff_not, lc_od, pk_us, hff, lc_fill]
      rw [if_pos (by omega)]
      exact fun q => hx q.symm
    · rw [va_up_ne s n e]
      refine lc_ct_ext (s d) (fun j hj => ?_)
      rw [hod d j hd e hj]
  have hcn0 : lc_cn s (lc_od nu fe ho M len 0) (nI (md + 1)) = 0 := by
    refine (Nat.le_zero.mp ?_)
    refine Nat.le_trans (lc_sm_le (b := 0) 48 (fun d hd => ?_)) (by omega)
    refine Nat.le_of_eq (lc_ct_none (s d) (fun j hj => ?_))
    simp only [decide_eq_false_iff_not]
    exact al_le hL (hrf hd hj)
  have hne1 : nI (md + 1) ≠ 0 := nI_ne0 (by omega) (by omega)
  refine ⟨⟨fun c hc hs => ?_, fun c hc hs k hk => ?_, fun i hi h0 => ?_, fun c hc hs => ?_, fun c d hc hd hs hsd e => ?_, by omega⟩, fun c hc hs => ?_, fun c hc hs => ?_, fun c hc hs k hk => ?_, ⟨by omega, fun j hj => ?_⟩, hG.1, fun k hk => al1 _ (hG.2.1 k hk), hG.2.2.1, fun c hc hs => ?_, fun k c hk hc hs e j hj => ?_⟩
  · rcases Fa c hs with e | ⟨e, e2, e3⟩
    · subst e
      rw [va_up_self]
      refine ⟨hn4, by omega, fun k hk => ?_⟩
      rw [va_up_ne s n (by omega)]
      exact F1 _ (by omega) (by omega)
    · rw [e3]
      obtain ⟨q1, q2, q3⟩ := h1 c hc e2
      refine ⟨q1, q2, fun k hk => ?_⟩
      have : c + 1 + k ≠ a := fun q => F0 c hc e2 (k + 1) (by omega) ⟨by omega, by omega⟩
      rw [va_up_ne s n this]
      exact q3 k hk
  · rcases Fa c hs with e | ⟨e, e2, e3⟩
    · subst e
      rw [va_up_self] at hk
      unfold lc_fill
      rw [if_pos (by omega), pk_us]
    · rw [e3] at hk
      unfold lc_fill
      rw [if_neg (F0 c hc e2 k hk), pk_un e]
      exact h2 c hc e2 k hk
  · unfold lc_fill at h0
    by_cases q : a ≤ i ∧ i < a + (n + 1)
    · exact ⟨a, q.1, by rw [va_up_self]; omega, by rw [va_up_self]; omega⟩
    · rw [if_neg q] at h0
      obtain ⟨c, c1, c2, c3⟩ := h3 i hi h0
      have hne := Fo c (by omega) c2
      exact ⟨c, c1, by rw [va_up_ne s n hne]; exact c2, by rw [va_up_ne s n hne]; exact c3⟩
  · rcases Fa c hs with e | ⟨e, e2, e3⟩
    · subst e
      exact ⟨md + 1, by omega, by omega, pk_us⟩
    · obtain ⟨k, k1, k2, k3⟩ := h4 c hc e2
      exact ⟨k, k1, by omega, by rw [pk_un e]; exact k3⟩
  · rcases Fa c hs with e1 | ⟨e1, e2, e3⟩ <;> rcases Fa d hsd with f1 | ⟨f1, f2, f3⟩
    · omega
    · subst e1
      rw [pk_us, pk_un f1] at e
      exact absurd e.symm (al_le hL (Or.inr ⟨d, hd, f2, rfl⟩))
    · subst f1
      rw [pk_us, pk_un e1] at e
      exact absurd e (al_le hL (Or.inr ⟨c, hc, e2, rfl⟩))
    · rw [pk_un e1, pk_un f1] at e
      exact h5 c d hc hd e2 f2 e
  · rcases Fa c hs with e | ⟨e, e2, e3⟩
    · subst e
      rw [pk_us]
      refine ⟨?_, fun k hk => ?_⟩
      · show _ = nI (lc_cn _ _ _)
        rw [hcn _ hne1, hcn0, nI_0]
        unfold lc_fill
        rw [if_pos (by omega)]
      · rw [va_up_self] at hk
        unfold lc_fill
        rw [if_pos (by omega), if_pos (by omega)]
    · rw [e3]
      obtain ⟨q1, q2⟩ := hW c hc e2
      rw [pk_un e]
      refine ⟨?_, fun k hk => ?_⟩
      · show _ = nI (lc_cn _ _ _)
        rw [hcn _ (lay_ne0 hL hc e2)]
        refine Eq.trans ?_ q1
        unfold lc_fill
        rw [if_neg]
        intro q
        exact F0 c hc e2 0 (by omega) ⟨by omega, by omega⟩
      · have hno := F0 c hc e2 (k + 1) (by omega)
        unfold lc_fill
        rw [if_neg (by omega), if_neg (by omega)]
        exact q2 k hk
  · rcases Fa c hs with e | ⟨e, e2, e3⟩
    · subst e
      unfold lc_fill
      rw [pk_us, if_pos (by omega)]
    · rw [pk_un e, hC c hc e2]
      unfold lc_fill
      rw [if_neg]
      intro q
      exact F0 c hc e2 0 (by omega) ⟨by omega, by omega⟩
  · rcases Fa c hs with e | ⟨e, e2, e3⟩
    · subst e
      rw [va_up_self] at hk
      refine Or.inl ?_
      unfold lc_fill
      rw [if_pos (by omega)]
    · rw [e3] at hk
      have hno := F0 c hc e2 (k + 1) (by omega)
      unfold lc_fill
      rw [if_neg (by omega)]
      exact rf1 _ (hV c hc e2 k hk)
  · by_cases e : j = ht
    · subst e
      rw [pk_us]
      exact Or.inr ⟨a, by omega, by rw [va_up_self]; omega, pk_us⟩
    · rw [pk_un e]
      exact rf1 _ (hS.2 j (by omega))
  · rcases Fa c hs with e | ⟨e, e2, e3⟩
    · subst e
      rw [va_up_self, pk_us]
      exact (lc_an_false len (fun i hi => by simp only [decide_eq_false_iff_not]; exact hnf i hi)).symm
    · rw [va_up_ne nt false e, pk_un e]
      exact hG.2.2.2.1 c hc e2
  · rcases Fa c hs with e1 | ⟨e1, e2, e3⟩
    · subst e1
      rw [pk_us] at e
      exact absurd e.symm (hnf k hk)
    · rw [e3] at hj
      rw [pk_un e1] at e
      obtain ⟨q1, q2⟩ := hG.2.2.2.2 k c hk hc e2 e j hj
      exact ⟨q1, rf1 _ q2⟩
theorem sim_push (h : lc_Sim fo fw md fp ht fe M len nu s co nt ho he) {x : Int32} (hx : lc_rf s nu x) (hht : ht < 8) : lc_Sim fo fw md (upd fp ht x) (ht + 1) fe M len nu s co nt ho he := by
  obtain ⟨hL, hW, hC, hV, hS, hG⟩ := h
  refine ⟨hL, hW, hC, hV, ⟨by omega, fun j hj => ?_⟩, hG⟩
  by_cases e : j = ht
  · subst e; rw [pk_us]; exact hx
  · rw [pk_un e]; exact hS.2 j (by omega)
theorem sim_pop (h : lc_Sim fo fw md fp (ht + 1) fe M len nu s co nt ho he) : lc_Sim fo fw md fp ht fe M len nu s co nt ho he := by
  obtain ⟨hL, hW, hC, hV, hS, hG⟩ := h
  exact ⟨hL, hW, hC, hV, ⟨by have := hS.1; omega, fun j hj => hS.2 j (by omega)⟩, hG⟩
theorem lc_on_ff {x : Int32} {len : Nat} {fe : lc_A} (h : lc_on fe len x = true) : ∃ k, lc_ff (fun i => decide (fe i = x)) len 0 = some k := by
  cases e : lc_ff (fun i => decide (fe i = x)) len 0 with
  | some k => exact ⟨k, rfl⟩
  | none =>
    obtain ⟨i, hi, h2⟩ := lc_an_spec len h
    have := lc_ff_nspec len 0 e i (Nat.zero_le _) (by omega)
    rw [this] at h2
    cases h2
theorem lc_off_ff {x : Int32} {len : Nat} {fe : lc_A} (h : lc_on fe len x = false) : lc_ff (fun i => decide (fe i = x)) len 0 = none :=
  lc_ff_none len 0 (fun k _ hk => lc_an_nspec len h k (by omega))
/-- a cell of a slot belongs to one object alone -/
theorem lay_slot (h : lc_Lay s nu fo md) {a j c k : Nat} (ha : a < 48) (hsa : 0 < s a) (hj : j < s a) (hc : c < 48) (hs : 0 < s c) (hk : k < s c) (e : c + 1 + k = a + 1 + j) : c = a ∧ k = j := by
  have e1 := h.2.1 a ha hsa (j + 1) (by omega)
  have e2 := h.2.1 c hc hs (k + 1) (by omega)
  rw [show a + (j + 1) = c + (k + 1) by omega, e2] at e1
  have := lay_inj h hc ha hs hsa e1
  omega
theorem sim_set (h : lc_Sim fo fw md fp ht fe M len nu s co nt ho he) {a j : Nat} {x : Int32} (ha : a < 48) (hsa : 0 < s a) (hj : j < s a) (hon : lc_on fe len (nu a) = true) (hx : lc_rf s nu x) :
    lc_Sim fo (upd fw (a + 1 + j) x) md fp ht fe M len nu s co nt (upd ho (a + 1 + j) x) he := by
  obtain ⟨hL, hW, hC, hV, hS, hG⟩ := h
  have hz : s (a + 1 + j) = 0 := (hL.1 a ha hsa).2.2 j hj
  have hne : ∀ c, 0 < s c → c ≠ a + 1 + j := fun c hs q => by rw [q] at hs; omega
  obtain ⟨k0, hk0⟩ := lc_on_ff hon
  have hod : ∀ d i, d < 48 → i < s d → lc_od nu fe (upd ho (a + 1 + j) x) M len 0 d i = lc_od nu fe ho M len 0 d i := by
    intro d i hd hi
    by_cases e : d = a
    · subst e
      simp only [lc_od, hk0, Nat.not_lt_zero, if_false]
    · have : d + 1 + i ≠ a + 1 + j := fun q => e (lay_slot hL ha hsa hj hd (by omega) hi q).1
      unfold lc_od
      rw [pk_un this]
  refine ⟨hL, fun c hc hs => ?_, fun c hc hs => ?_, fun c hc hs k hk => ?_, hS, hG⟩
  · obtain ⟨q1, q2⟩ := hW c hc hs
    refine ⟨?_, fun k hk => ?_⟩
    · rw [pk_un (hne c hs)]
      exact q1.trans (congrArg nI (lc_cn_ext hod).symm)
    · by_cases e : c + 1 + k = a + 1 + j
      · rw [e, pk_us, pk_us]
      · rw [pk_un e, pk_un e]; exact q2 k hk
  · rw [pk_un (hne c hs)]; exact hC c hc hs
  · by_cases e : c + 1 + k = a + 1 + j
    · rw [e, pk_us]; exact hx
    · rw [pk_un e]; exact hV c hc hs k hk
theorem sim_note (h : lc_Sim fo fw md fp ht fe M len nu s co nt ho he) {a : Nat} (ha : a < 48) (hsa : 0 < s a) (hlen : len < 5) (hoff : lc_on fe len (nu a) = false) :
    lc_Sim fo fw md fp ht (upd fe len (nu a)) (va_up M len (lc_nr fw a (M len) (s a))) (len + 1) nu s co (va_up nt a true) ho (lm_nr s ho a len he 4) := by
  obtain ⟨hL, hW, hC, hV, hS, hG⟩ := h
  have hno : ∀ i, i < len → fe i ≠ nu a := fun i hi => by
    have := lc_an_nspec len hoff i hi
    simpa using this
  have ffN : ∀ x, x ≠ nu a → lc_ff (fun i => decide (upd fe len (nu a) i = x)) (len + 1) 0 = lc_ff (fun i => decide (fe i = x)) len 0 := by
    intro x hx
    cases e : lc_ff (fun i => decide (fe i = x)) len 0 with
    | none =>
      refine lc_ff_none (len + 1) 0 (fun k _ hk => ?_)
      simp only [decide_eq_false_iff_not]
      by_cases ek : k = len
      · subst ek; rw [pk_us]; exact fun q => hx q.symm
      · rw [pk_un ek]
        have := lc_ff_nspec len 0 e k (Nat.zero_le _) (by omega)
        simpa using this
    | some i =>
      obtain ⟨-, a2, a3, a4⟩ := lc_ff_spec len 0 i e
      refine lc_ff_some (len + 1) 0 i (Nat.zero_le _) (by omega) ?_ (fun j hj1 hj2 => ?_)
      · simp only [decide_eq_true_eq] at a3 ⊢
        rw [pk_un (by omega)]; exact a3
      · have := a4 j hj1 hj2
        simp only [decide_eq_false_iff_not] at this ⊢
        rw [pk_un (by omega)]; exact this
  have ffA : lc_ff (fun i => decide (upd fe len (nu a) i = nu a)) (len + 1) 0 = some len := by
    refine lc_ff_some (len + 1) 0 len (Nat.zero_le _) (by omega) (by simp [pk_us]) (fun j _ hj => ?_)
    simp only [decide_eq_false_iff_not]
    rw [pk_un (by omega)]
    exact hno j hj
  have onN : ∀ x, x ≠ nu a → lc_on (upd fe len (nu a)) (len + 1) x = lc_on fe len x := by
    intro x hx
    cases e : lc_on fe len x with
    | false =>
      refine lc_an_false (len + 1) (fun i hi => ?_)
      simp only [decide_eq_false_iff_not]
      by_cases ei : i = len
      · subst ei; rw [pk_us]; exact fun q => hx q.symm
      · rw [pk_un ei]
        have := lc_an_nspec len e i (by omega)
        simpa using this
    | true =>
      obtain ⟨i, hi, h2⟩ := lc_an_spec len e
      refine lc_an_true (len + 1) i (by omega) ?_
      simp only [decide_eq_true_eq] at h2 ⊢
      rw [pk_un (by omega)]; exact h2
  have hod : ∀ d j, d < 48 → j < s d → lc_od nu (upd fe len (nu a)) ho (va_up M len (lc_nr fw a (M len) (s a))) (len + 1) 0 d j = lc_od nu fe ho M len 0 d j := by
    intro d j hd hj
    by_cases e : d = a
    · subst e
      simp only [lc_od, ffA, lc_off_ff hoff, Nat.not_lt_zero, if_false, va_up_self, lc_nr, if_pos hj]
      exact (hW d hd (by omega)).2 j hj
    · have hne : nu d ≠ nu a := fun q => e (lay_inj hL hd ha (by omega) hsa q)
      unfold lc_od
      rw [ffN _ hne]
      cases e2 : lc_ff (fun i => decide (fe i = nu d)) len 0 with
      | none => rfl
      | some i =>
        obtain ⟨-, a2, -, -⟩ := lc_ff_spec len 0 i e2
        simp only [Nat.not_lt_zero, if_false]
        rw [va_up_ne M _ (by omega)]
  refine ⟨hL, ?_, hC, hV, hS, by omega, fun k hk => ?_, fun j k hj hk e => ?_, fun c hc hs => ?_, fun k c hk hc hs e j hj => ?_⟩
  · exact hW.to (fun c hc hs => congrArg nI (lc_cn_ext hod).symm)
  · by_cases e : k = len
    · subst e; rw [pk_us]; exact ⟨a, ha, hsa, rfl⟩
    · rw [pk_un e]; exact hG.2.1 k (by omega)
  · by_cases e1 : j = len <;> by_cases e2 : k = len
    · omega
    · subst e1
      rw [pk_us, pk_un e2] at e
      exact absurd e.symm (hno k (by omega))
    · subst e2
      rw [pk_us, pk_un e1] at e
      exact absurd e (hno j (by omega))
    · rw [pk_un e1, pk_un e2] at e
      exact hG.2.2.1 j k (by omega) (by omega) e
  · by_cases e : c = a
    · subst e
      rw [va_up_self]
      exact (lc_an_true (len + 1) len (by omega) (by simp [pk_us])).symm
    · have hne : nu c ≠ nu a := fun q => e (lay_inj hL hc ha hs hsa q)
      rw [va_up_ne nt true e, onN _ hne]
      exact hG.2.2.2.1 c hc hs
  · by_cases e1 : k = len
    · subst e1
      rw [pk_us] at e
      have : c = a := lay_inj hL hc ha hs hsa e
      subst this
      have h4 := (hL.1 c hc hs).1
      have hw := (hW c hc hs).2 j hj
      rw [va_up_self]
      simp only [lc_nr, lm_nr, if_pos hj]
      rw [if_pos (by omega), show 4 * k + j - 4 * k = j by omega, if_pos hj, hw]
      exact ⟨rfl, hV c hc hs j hj⟩
    · rw [pk_un e1] at e
      obtain ⟨q1, q2⟩ := hG.2.2.2.2 k c (by omega) hc hs e j hj
      have h4 := (hL.1 c hc hs).1
      rw [va_up_ne M _ e1]
      refine ⟨?_, q2⟩
      rw [q1]
      unfold lm_nr
      rw [if_neg (by omega)]
end SIM
end
section
section STEP
/-- class and reference, as two tuples -/
def lc_SimT (q : lc_CS) (g : lc_MS) : Prop := match q, g with
  | (fo, fw, md, fp, ht, fe, M, len, rk), (nu, s, co, nt, ho, md', ht', fp', en, wh, he, rn) => lc_Sim fo fw md fp ht fe M len nu s co nt ho he ∧ md' = md ∧ ht' = ht ∧ fp' = fp ∧ en = len ∧ wh = fe ∧ rn = rk
variable {s : Nat → Nat} {nu fo fw ho fp fe co he : lc_A} {nt : Nat → Bool} {M : Nat → lc_A} {md ht len : Nat} {rk : Int32}
theorem step_make (h : lc_Sim fo fw md fp ht fe M len nu s co nt ho he) (hmd : md < 512) (x : Int32) :
    (lx_make fo fw md fp ht fe M len rk x).1 = (lm_make nu s co nt ho md ht fp len fe he rk x).1 ∧ lc_SimT (lx_make fo fw md fp ht fe M len rk x).2 (lm_make nu s co nt ho md ht fp len fe he rk x).2 ∧ (lx_make fo fw md fp ht fe M len rk x).2.2.2.1 ≤ md + 1 := by
  have hht : ht ≤ 8 := h.2.2.2.2.1.1
  cases e : lc_14 x with
  | none =>
    simp only [lx_make, lm_make, e]
    exact ⟨(by trivial), ⟨h, (by trivial), (by trivial), (by trivial), (by trivial), (by trivial), (by trivial)⟩, by omega⟩
  | some n =>
    obtain ⟨n1, n4, -⟩ := lc_14_spec e
    by_cases e8 : ht = 8
    · simp only [lx_make, lm_make, e, if_pos e8]
      exact ⟨(by trivial), ⟨h, (by trivial), (by trivial), (by trivial), (by trivial), (by trivial), (by trivial)⟩, by omega⟩
    · have er := lay_room h.1 (n := n + 1) (by omega)
      cases r1 : lc_room fo (n + 1) with
      | some a =>
        rw [r1] at er
        simp only [lx_make, lm_make, e, if_neg e8, r1, ← er]
        obtain ⟨z1, z2⟩ := lc_room_spec (by omega) r1
        exact ⟨(by trivial), ⟨sim_make h n1 n4 z1 z2 hmd (by omega), (by trivial), (by trivial), (by trivial), (by trivial), (by trivial), (by trivial)⟩, Nat.le_refl _⟩
      | none =>
        rw [r1] at er
        obtain ⟨h2, -, -⟩ := sim_reckon h
        have er2 := lay_room h2.1 (n := n + 1) (by omega)
        cases r2 : lc_room (lc_bu fo fw fp ht fe M len).1 (n + 1) with
        | some a =>
          rw [r2] at er2
          simp only [lx_make, lm_make, e, if_neg e8, r1, r2, ← er, ← er2]
          obtain ⟨z1, z2⟩ := lc_room_spec (by omega) r2
          exact ⟨(by trivial), ⟨sim_make h2 n1 n4 z1 z2 hmd (by omega), (by trivial), (by trivial), (by trivial), (by trivial), (by trivial), (by trivial)⟩, Nat.le_refl _⟩
        | none =>
          rw [r2] at er2
          simp only [lx_make, lm_make, e, if_neg e8, r1, r2, ← er, ← er2]
          exact ⟨(by trivial), ⟨h2, (by trivial), (by trivial), (by trivial), (by trivial), (by trivial), (by trivial)⟩, by show md ≤ md + 1; omega⟩
theorem step_copy (h : lc_Sim fo fw md fp ht fe M len nu s co nt ho he) (x : Int32) : lc_Sim fo fw md (lx_copy fp ht x).2.1 (lx_copy fp ht x).2.2 fe M len nu s co nt ho he := by
  have hht : ht ≤ 8 := h.2.2.2.2.1.1
  cases e : lc_pl x ht with
  | none => simp only [lx_copy, e]; exact h
  | some j =>
    by_cases e8 : ht = 8
    · simp only [lx_copy, e, if_pos e8]; exact h
    · simp only [lx_copy, e, if_neg e8]
      exact sim_push h (h.2.2.2.2.1.2 j (lc_pl_spec (by omega) e).1) (by omega)
theorem rf_pos (h : lc_Lay s nu fo md) {x : Int32} (hx : lc_rf s nu x) : (¬ 0 < x ∧ x = 0 ∧ lc_first fo x = none) ∨ (0 < x ∧ ∃ a, a < 48 ∧ 0 < s a ∧ nu a = x ∧ lc_first fo x = some a ∧ lm_find nu s x = some a) := by
  rcases hx with rfl | ⟨a, ha, hs, rfl⟩
  · exact Or.inl ⟨by decide, rfl, by simp [lc_first]⟩
  · refine Or.inr ⟨?_, a, ha, hs, rfl, lay_first h ha hs, lay_fnd h ha hs⟩
    obtain ⟨n, n1, n2, n3⟩ := h.2.2.2.1 a ha hs
    rw [n3, ← nI_0]
    have := h.2.2.2.2.2
    exact nI_lt (by omega) (by omega)
/-- the slot that is meant: both find the same -/
theorem slotc_eq (h : lc_Sim fo fw md fp ht fe M len nu s co nt ho he) (x z : Int32) :
    (lm_slotc nu s fp ht x z = none ∧ (lc_fca fo fp ht x = none ∨ ∃ a, lc_fca fo fp ht x = some a ∧ lc_pl z (lc_sa fo a) = none)) ∨
    ∃ a j, lm_slotc nu s fp ht x z = some (a, j) ∧ lc_fca fo fp ht x = some a ∧ lc_pl z (lc_sa fo a) = some j ∧ a < 48 ∧ 0 < s a ∧ j < s a ∧ lc_sa fo a = s a ∧ ∃ k, k < ht ∧ fp k = nu a := by
  have hht : ht ≤ 8 := h.2.2.2.2.1.1
  cases e : lc_pl x ht with
  | none => exact Or.inl ⟨by simp only [lm_slotc, e], Or.inl (by simp only [lc_fca, e])⟩
  | some k =>
    have hk := (lc_pl_spec (by omega) e).1
    rcases rf_pos h.1 (h.2.2.2.2.1.2 k hk) with ⟨q1, q2, q3⟩ | ⟨q1, a, ha, hs, q4, q5, q6⟩
    · exact Or.inl ⟨by simp only [lm_slotc, e, if_neg q1], Or.inl (by simp only [lc_fca, e, q3])⟩
    · have esa := lay_sa h.1 ha hs
      cases e2 : lc_pl z (s a) with
      | none => exact Or.inl ⟨by simp only [lm_slotc, e, if_pos q1, q6, e2], Or.inr ⟨a, by simp only [lc_fca, e, q5], by rw [esa]; exact e2⟩⟩
      | some j =>
        have hj := (lc_pl_spec (by have := lay_4 h.1 ha; omega) e2).1
        exact Or.inr ⟨a, j, by simp only [lm_slotc, e, if_pos q1, q6, e2], by simp only [lc_fca, e, q5], by rw [esa]; exact e2, ha, hs, hj, esa, k, hk, q4.symm⟩
theorem step_load (h : lc_Sim fo fw md fp ht fe M len nu s co nt ho he) (x z : Int32) : lx_load fo fw fp ht x z = lm_load nu s ho fp ht x z ∧ lc_Sim fo fw md (lx_load fo fw fp ht x z).2.1 (lx_load fo fw fp ht x z).2.2 fe M len nu s co nt ho he := by
  have hht : ht ≤ 8 := h.2.2.2.2.1.1
  rcases slotc_eq h x z with ⟨q1, q2 | ⟨a, q2, q3⟩⟩ | ⟨a, j, q1, q2, q3, ha, hs, hj, esa, -⟩
  · simp only [lx_load, lm_load, q1, q2]
    exact ⟨(by trivial), h⟩
  · simp only [lx_load, lm_load, q1, q2, q3]
    exact ⟨(by trivial), h⟩
  · have ew := (h.2.1 a ha hs).2 j hj
    by_cases e8 : ht = 8
    · simp only [lx_load, lm_load, q1, q2, q3, if_pos e8]
      exact ⟨(by trivial), h⟩
    · simp only [lx_load, lm_load, q1, q2, q3, if_neg e8, ew]
      exact ⟨(by trivial), sim_push h (h.2.2.2.1 a ha hs j hj) (by omega)⟩
theorem fr0_rf (h : lc_Sim fo fw md fp ht fe M len nu s co nt ho he) {y v : Int32} (e : lc_fr0 fp ht y = some v) : v = 0 ∨ ∃ k, k < ht ∧ fp k = v := by
  have hht : ht ≤ 8 := h.2.2.2.2.1.1
  unfold lc_fr0 at e
  by_cases q : y = -1
  · rw [if_pos q] at e
    cases e
    exact Or.inl rfl
  · rw [if_neg q] at e
    cases e2 : lc_pl y ht with
    | none => rw [e2] at e; cases e
    | some j =>
      rw [e2] at e
      cases e
      exact Or.inr ⟨j, (lc_pl_spec (by omega) e2).1, rfl⟩
theorem step_note (h : lc_Sim fo fw md fp ht fe M len nu s co nt ho he) {a : Nat} (ha : a < 48) (hs : 0 < s a) (hst : ∃ k, k < ht ∧ fp k = nu a) :
    lc_SimT (lx_note fo fw md fp ht fe M len rk a) (lm_note nu s co nt ho md ht fp len fe he rk a) ∧ (lx_note fo fw md fp ht fe M len rk a).1 a = nu a ∧ (lm_note nu s co nt ho md ht fp len fe he rk a).2.1 a = s a ∧ (lm_note nu s co nt ho md ht fp len fe he rk a).1 = nu ∧
      lc_on (lx_note fo fw md fp ht fe M len rk a).2.2.2.2.2.1 (lx_note fo fw md fp ht fe M len rk a).2.2.2.2.2.2.2.1 (nu a) = true ∧ (lx_note fo fw md fp ht fe M len rk a).2.2.2.1 = fp ∧ (lx_note fo fw md fp ht fe M len rk a).2.2.2.2.1 = ht ∧ (lx_note fo fw md fp ht fe M len rk a).2.2.1 = md := by
  have e0 := lay_0 h.1 ha hs
  have ent := h.2.2.2.2.2.2.2.2.1 a ha hs
  have hlen := h.2.2.2.2.2.1
  by_cases e1 : lc_on fe len (nu a) = true
  · rw [e1] at ent
    simp only [lx_note, lm_note, e0, if_pos e1, if_pos ent]
    exact ⟨⟨h, (by trivial), (by trivial), (by trivial), (by trivial), (by trivial), (by trivial)⟩, (by trivial), (by trivial), (by trivial), e1, (by trivial), (by trivial), (by trivial)⟩
  · have e1' : lc_on fe len (nu a) = false := by simpa using e1
    have ent' : ¬ nt a = true := by rw [ent, e1']; decide
    by_cases e5 : len = 5
    · obtain ⟨h2, hsub, -⟩ := sim_reckon h
      have hsa : (lm_st nu ho fp ht 50 s co nt).1 a = s a := by
        obtain ⟨k, hk, ek⟩ := hst
        rcases hsub.1 a with z | z
        · exact z
        · exfalso
          rcases h2.2.2.2.2.1.2 k hk with q | ⟨c, hc, hsc, q⟩
          · rw [ek] at q; exact lay_ne0 h.1 ha hs q
          · have hs1 : 0 < s c := by rcases hsub.1 c with w | w <;> omega
            have := lay_inj h.1 hc ha hs1 hs (q.trans ek)
            subst this
            omega
      have h3 := sim_note h2 (a := a) ha (by omega) (by omega) rfl
      have e0' := lay_0 h2.1 ha (by omega)
      have esa := lay_sa h2.1 ha (by omega)
      simp only [lx_note, lm_note, e0, if_neg e1, if_neg ent', if_pos e5]
      rw [esa]
      exact ⟨⟨h3, (by trivial), (by trivial), (by trivial), (by trivial), (by trivial), (by trivial)⟩, e0', hsa, (by trivial), lc_an_true 1 0 (by omega) (by simp [pk_us]), (by trivial), (by trivial), (by trivial)⟩
    · have h3 := sim_note h (a := a) ha hs (by omega) e1'
      have esa := lay_sa h.1 ha hs
      simp only [lx_note, lm_note, e0, if_neg e1, if_neg ent', if_neg e5]
      rw [esa]
      exact ⟨⟨h3, (by trivial), (by trivial), (by trivial), (by trivial), (by trivial), (by trivial)⟩, (by trivial), (by trivial), (by trivial), lc_an_true (len + 1) len (by omega) (by simp [pk_us]), (by trivial), (by trivial), (by trivial)⟩
theorem step_store (h : lc_Sim fo fw md fp ht fe M len nu s co nt ho he) (x z y : Int32) :
    (lx_store fo fw md fp ht fe M len rk x z y).1 = (lm_store nu s co nt ho md ht fp len fe he rk x z y).1 ∧ lc_SimT (lx_store fo fw md fp ht fe M len rk x z y).2 (lm_store nu s co nt ho md ht fp len fe he rk x z y).2 ∧ (lx_store fo fw md fp ht fe M len rk x z y).2.2.2.1 = md := by
  rcases slotc_eq h x z with ⟨q1, q2 | ⟨a, q2, q3⟩⟩ | ⟨a, j, q1, q2, q3, ha, hs, hj, esa, hst⟩
  · simp only [lx_store, lm_store, q1, q2]
    exact ⟨(by trivial), ⟨h, (by trivial), (by trivial), (by trivial), (by trivial), (by trivial), (by trivial)⟩, (by trivial)⟩
  · simp only [lx_store, lm_store, q1, q2, q3]
    exact ⟨(by trivial), ⟨h, (by trivial), (by trivial), (by trivial), (by trivial), (by trivial), (by trivial)⟩, (by trivial)⟩
  · cases e : lc_fr0 fp ht y with
    | none =>
      simp only [lx_store, lm_store, q1, q2, q3, e]
      exact ⟨(by trivial), ⟨h, (by trivial), (by trivial), (by trivial), (by trivial), (by trivial), (by trivial)⟩, (by trivial)⟩
    | some v =>
      simp only [lx_store, lm_store, q1, q2, q3, e]
      obtain ⟨t1, t2, t3, t4, t5, t6, t7, t8⟩ := step_note (rk := rk) h ha hs hst
      have hv := fr0_rf h e
      generalize lx_note fo fw md fp ht fe M len rk a = q at t1 t2 t5 t6 t7 t8 ⊢
      generalize lm_note nu s co nt ho md ht fp len fe he rk a = g at t1 t3 t4 ⊢
      obtain ⟨fo1, fw1, md1, fp1, ht1, fe1, M1, len1, rk1⟩ := q
      obtain ⟨nu1, s1, co1, nt1, ho1, md2, ht2, fp2, en2, wh2, he2, rn2⟩ := g
      obtain ⟨hS, u1, u2, u3, u4, u5, u6⟩ := t1
      simp only at t2 t3 t4 t5 t6 t7 t8
      subst t4 t6 t7 t8
      refine ⟨(by trivial), ⟨sim_set hS ha (by omega) (by omega) t5 ?_, u1, u2, u3, u4, u5, u6⟩, (by trivial)⟩
      rcases hv with rfl | ⟨k, hk, rfl⟩
      · exact Or.inl rfl
      · exact hS.2.2.2.2.1.2 k hk
theorem step_drop (h : lc_Sim fo fw md fp ht fe M len nu s co nt ho he) : lc_Sim fo fw md fp (lx_drop fp ht).2 fe M len nu s co nt ho he := by
  unfold lx_drop
  by_cases e : ht = 0
  · rw [if_pos e]; exact h
  · rw [if_neg e]
    obtain ⟨k, rfl⟩ : ∃ k, ht = k + 1 := ⟨ht - 1, by omega⟩
    exact sim_pop h
theorem step_alive (h : lc_Sim fo fw md fp ht fe M len nu s co nt ho he) : lc_ct (lc_isF fo) 48 = lc_ct (fun c => decide (0 < s c)) 48 := lc_ct_ext 48 (fun c hc => lay_isF h.1 hc)
theorem step_table (h : lc_Sim fo fw md fp ht fe M len nu s co nt ho he) : lc_ct (lc_isU fo fw) 48 = lc_ct (fun c => decide (0 < s c) && decide (co c = 0)) 48 := by
  refine lc_ct_ext 48 (fun c hc => ?_)
  unfold lc_isU
  rw [lay_isF h.1 hc]
  by_cases hs : 0 < s c
  · rw [h.2.2.1 c hc hs]
  · simp [hs]
theorem step_count (h : lc_Sim fo fw md fp ht fe M len nu s co nt ho he) (x : Int32) : ax_count fo fw x = am_count nu s co x := by
  unfold ax_count am_count
  rw [lay_find h.1]
  cases e : lm_find nu s x with
  | none => rfl
  | some a =>
    obtain ⟨ha, hs, -⟩ := lay_fspec h.1 e
    exact (h.2.2.1 a ha hs).symm
theorem step_cell (h : lc_Sim fo fw md fp ht fe M len nu s co nt ho he) (x : Int32) : ax_cell fo x = am_cell nu s x := by
  unfold ax_cell am_cell
  rw [lay_find h.1]
theorem step_slot (h : lc_Sim fo fw md fp ht fe M len nu s co nt ho he) (x z : Int32) : ax_slot fo fw x z = am_slot nu s ho x z := by
  unfold ax_slot am_slot
  rw [lay_find h.1]
  cases e : lm_find nu s x with
  | none => rfl
  | some a =>
    obtain ⟨ha, hs, -⟩ := lay_fspec h.1 e
    simp only [lay_sa h.1 ha hs]
    cases e2 : lc_pl z (s a) with
    | none => rfl
    | some j => exact (h.2.1 a ha hs).2 j (lc_pl_spec (by have := lay_4 h.1 ha; omega) e2).1
theorem step_state (h : lc_Sim fo fw md fp ht fe M len nu s co nt ho he) (x : Int32) : ax_state fo fw fe len x = am_state nu s co nt x := by
  unfold ax_state am_state
  rw [lay_find h.1]
  cases e : lm_find nu s x with
  | none => rfl
  | some a =>
    obtain ⟨ha, hs, e2⟩ := lay_fspec h.1 e
    have e3 := h.2.2.2.2.2.2.2.2.1 a ha hs
    simp only [lc_isU, lay_isF h.1 ha, hs, decide_true, Bool.true_and, decide_eq_true_eq, h.2.2.1 a ha hs, e3, e2]
theorem step_entry (h : lc_Sim fo fw md fp ht fe M len nu s co nt ho he) (x z : Int32) : ax_entry fo fe M len x z = am_entry nu s fe he len x z := by
  unfold ax_entry am_entry
  have hlen := h.2.2.2.2.2.1
  cases e : lc_pl x len with
  | none => rfl
  | some k =>
    have hk := (lc_pl_spec (by omega) e).1
    obtain ⟨a, ha, hs, ea⟩ := h.2.2.2.2.2.2.1 k hk
    simp only
    by_cases q : z = -1
    · rw [if_pos q, if_pos q]
    · rw [if_neg q, if_neg q]
      have e1 : lc_sao fo (lc_first fo (fe k)) = s a := by
        rw [← ea, lay_first h.1 ha hs]
        exact lay_sa h.1 ha hs
      have e2 : am_so nu s (fe k) = s a := by
        unfold am_so
        rw [← ea, lay_fnd h.1 ha hs]
      rw [e1, e2]
      cases e3 : lc_pl z (s a) with
      | none => rfl
      | some j => exact (h.2.2.2.2.2.2.2.2.2 k a hk ha hs ea j (lc_pl_spec (by have := lay_4 h.1 ha; omega) e3).1).1
theorem step_free (h : lc_Sim fo fw md fp ht fe M len nu s co nt ho he) : nI (lc_ct (fun i => decide (fo i = 0)) 48) = nI 48 - nI (lc_sm (lc_wt s) 48) := by
  have := lay_cells h.1
  rw [pk_sub (by omega)]
  congr 1
  omega
end STEP
end
section
-- ===== PART A: goes FIRST, ahead of the names: the tables' words, and 'selects' of the private methods out of them =====
/-- a private method of a class that the tables say can be made, by its rows of tables_1 -/
def lw_okq (q : MethodName × Nat) : Prop := (q.1.cls ≠ "java/lang/invoke/MethodHandle" ∧ q.1.cls ≠ "java/lang/invoke/VarHandle") ∧ Cond.instantiable q.1.cls q.2 ∈ tables_1 ∧ Cond.privateMethod q.1 ∈ tables_1 ∧ Cond.instanceMethod q.1 ∈ tables_1
theorem lw_p0 : lw_okq (⟨"LazyCounts", "bringUpToDate", "()I"⟩, 4) := ⟨⟨by decide +kernel, by decide +kernel⟩, List.mem_of_getElem? (i := 7) (by decide +kernel), List.mem_of_getElem? (i := 88) (by decide +kernel), List.mem_of_getElem? (i := 89) (by decide +kernel)⟩
theorem lw_p1 : lw_okq (⟨"LazyCounts", "countChangesOf", "(I)V"⟩, 4) := ⟨⟨by decide +kernel, by decide +kernel⟩, List.mem_of_getElem? (i := 7) (by decide +kernel), List.mem_of_getElem? (i := 96) (by decide +kernel), List.mem_of_getElem? (i := 97) (by decide +kernel)⟩
theorem lw_p2 : lw_okq (⟨"LazyCounts", "freeUnheld", "()I"⟩, 4) := ⟨⟨by decide +kernel, by decide +kernel⟩, List.mem_of_getElem? (i := 7) (by decide +kernel), List.mem_of_getElem? (i := 129) (by decide +kernel), List.mem_of_getElem? (i := 130) (by decide +kernel)⟩
theorem lw_p3 : lw_okq (⟨"LazyCounts", "firstUnheld", "()I"⟩, 4) := ⟨⟨by decide +kernel, by decide +kernel⟩, List.mem_of_getElem? (i := 7) (by decide +kernel), List.mem_of_getElem? (i := 133) (by decide +kernel), List.mem_of_getElem? (i := 134) (by decide +kernel)⟩
theorem lw_p4 : lw_okq (⟨"LazyCounts", "firstCellAt", "(I)I"⟩, 4) := ⟨⟨by decide +kernel, by decide +kernel⟩, List.mem_of_getElem? (i := 7) (by decide +kernel), List.mem_of_getElem? (i := 184) (by decide +kernel), List.mem_of_getElem? (i := 185) (by decide +kernel)⟩
theorem lw_p5 : lw_okq (⟨"LazyCounts", "note", "(I)V"⟩, 4) := ⟨⟨by decide +kernel, by decide +kernel⟩, List.mem_of_getElem? (i := 7) (by decide +kernel), List.mem_of_getElem? (i := 196) (by decide +kernel), List.mem_of_getElem? (i := 197) (by decide +kernel)⟩
theorem lw_p6 : lw_okq (⟨"LazyCountsModel", "settle", "()V"⟩, 12) := ⟨⟨by decide +kernel, by decide +kernel⟩, List.mem_of_getElem? (i := 305) (by decide +kernel), List.mem_of_getElem? (i := 357) (by decide +kernel), List.mem_of_getElem? (i := 358) (by decide +kernel)⟩
theorem lw_p7 : lw_okq (⟨"LazyCountsModel", "recount", "()V"⟩, 12) := ⟨⟨by decide +kernel, by decide +kernel⟩, List.mem_of_getElem? (i := 305) (by decide +kernel), List.mem_of_getElem? (i := 361) (by decide +kernel), List.mem_of_getElem? (i := 362) (by decide +kernel)⟩
theorem lw_p8 : lw_okq (⟨"LazyCountsModel", "holders", "(I)I"⟩, 12) := ⟨⟨by decide +kernel, by decide +kernel⟩, List.mem_of_getElem? (i := 305) (by decide +kernel), List.mem_of_getElem? (i := 365) (by decide +kernel), List.mem_of_getElem? (i := 366) (by decide +kernel)⟩
theorem lw_p9 : lw_okq (⟨"LazyCountsModel", "round", "()I"⟩, 12) := ⟨⟨by decide +kernel, by decide +kernel⟩, List.mem_of_getElem? (i := 305) (by decide +kernel), List.mem_of_getElem? (i := 369) (by decide +kernel), List.mem_of_getElem? (i := 370) (by decide +kernel)⟩
theorem lw_p10 : lw_okq (⟨"LazyCountsModel", "onStack", "(I)Z"⟩, 12) := ⟨⟨by decide +kernel, by decide +kernel⟩, List.mem_of_getElem? (i := 305) (by decide +kernel), List.mem_of_getElem? (i := 373) (by decide +kernel), List.mem_of_getElem? (i := 374) (by decide +kernel)⟩
theorem lw_p11 : lw_okq (⟨"LazyCountsModel", "room", "(I)I"⟩, 12) := ⟨⟨by decide +kernel, by decide +kernel⟩, List.mem_of_getElem? (i := 305) (by decide +kernel), List.mem_of_getElem? (i := 384) (by decide +kernel), List.mem_of_getElem? (i := 385) (by decide +kernel)⟩
theorem lw_p12 : lw_okq (⟨"LazyCountsModel", "push", "(I)V"⟩, 12) := ⟨⟨by decide +kernel, by decide +kernel⟩, List.mem_of_getElem? (i := 305) (by decide +kernel), List.mem_of_getElem? (i := 388) (by decide +kernel), List.mem_of_getElem? (i := 389) (by decide +kernel)⟩
theorem lw_p13 : lw_okq (⟨"LazyCountsModel", "isPlace", "(I)Z"⟩, 12) := ⟨⟨by decide +kernel, by decide +kernel⟩, List.mem_of_getElem? (i := 305) (by decide +kernel), List.mem_of_getElem? (i := 396) (by decide +kernel), List.mem_of_getElem? (i := 397) (by decide +kernel)⟩
theorem lw_p14 : lw_okq (⟨"LazyCountsModel", "slotCell", "(II)I"⟩, 12) := ⟨⟨by decide +kernel, by decide +kernel⟩, List.mem_of_getElem? (i := 305) (by decide +kernel), List.mem_of_getElem? (i := 404) (by decide +kernel), List.mem_of_getElem? (i := 405) (by decide +kernel)⟩
theorem lw_p15 : lw_okq (⟨"LazyCountsModel", "find", "(I)I"⟩, 12) := ⟨⟨by decide +kernel, by decide +kernel⟩, List.mem_of_getElem? (i := 305) (by decide +kernel), List.mem_of_getElem? (i := 408) (by decide +kernel), List.mem_of_getElem? (i := 409) (by decide +kernel)⟩
def lw_privs_1 : List (MethodName × Nat) := [(⟨"LazyCounts", "bringUpToDate", "()I"⟩, 4), (⟨"LazyCounts", "countChangesOf", "(I)V"⟩, 4), (⟨"LazyCounts", "freeUnheld", "()I"⟩, 4), (⟨"LazyCounts", "firstUnheld", "()I"⟩, 4), (⟨"LazyCounts", "firstCellAt", "(I)I"⟩, 4), (⟨"LazyCounts", "note", "(I)V"⟩, 4), (⟨"LazyCountsModel", "settle", "()V"⟩, 12), (⟨"LazyCountsModel", "recount", "()V"⟩, 12), (⟨"LazyCountsModel", "holders", "(I)I"⟩, 12), (⟨"LazyCountsModel", "round", "()I"⟩, 12), (⟨"LazyCountsModel", "onStack", "(I)Z"⟩, 12), (⟨"LazyCountsModel", "room", "(I)I"⟩, 12), (⟨"LazyCountsModel", "push", "(I)V"⟩, 12), (⟨"LazyCountsModel", "isPlace", "(I)Z"⟩, 12), (⟨"LazyCountsModel", "slotCell", "(II)I"⟩, 12), (⟨"LazyCountsModel", "find", "(I)I"⟩, 12)]
theorem lw_r1 : ∀ q ∈ lw_privs_1, lw_okq q := List.forall_mem_cons.mpr ⟨lw_p0, List.forall_mem_cons.mpr ⟨lw_p1, List.forall_mem_cons.mpr ⟨lw_p2, List.forall_mem_cons.mpr ⟨lw_p3, List.forall_mem_cons.mpr ⟨lw_p4, List.forall_mem_cons.mpr ⟨lw_p5, List.forall_mem_cons.mpr ⟨lw_p6, List.forall_mem_cons.mpr ⟨lw_p7, List.forall_mem_cons.mpr ⟨lw_p8, List.forall_mem_cons.mpr ⟨lw_p9, List.forall_mem_cons.mpr ⟨lw_p10, List.forall_mem_cons.mpr ⟨lw_p11, List.forall_mem_cons.mpr ⟨lw_p12, List.forall_mem_cons.mpr ⟨lw_p13, List.forall_mem_cons.mpr ⟨lw_p14, List.forall_mem_cons.mpr ⟨lw_p15, fun _ h => absurd h List.not_mem_nil⟩⟩⟩⟩⟩⟩⟩⟩⟩⟩⟩⟩⟩⟩⟩⟩
theorem lw_p16 : lw_okq (⟨"LazyCountsModel", "makeRoom", "()V"⟩, 12) := ⟨⟨by decide +kernel, by decide +kernel⟩, List.mem_of_getElem? (i := 305) (by decide +kernel), List.mem_of_getElem? (i := 416) (by decide +kernel), List.mem_of_getElem? (i := 417) (by decide +kernel)⟩
theorem lw_p17 : lw_okq (⟨"LazyCountsModel", "note", "(I)V"⟩, 12) := ⟨⟨by decide +kernel, by decide +kernel⟩, List.mem_of_getElem? (i := 305) (by decide +kernel), List.mem_of_getElem? (i := 420) (by decide +kernel), List.mem_of_getElem? (i := 421) (by decide +kernel)⟩
theorem lw_p18 : lw_okq (⟨"LazyCountsModel", "slotsOf", "(I)I"⟩, 12) := ⟨⟨by decide +kernel, by decide +kernel⟩, List.mem_of_getElem? (i := 305) (by decide +kernel), List.mem_of_getElem? (i := 465) (by decide +kernel), List.mem_of_getElem? (i := 466) (by decide +kernel)⟩
def lw_privs_2 : List (MethodName × Nat) := [(⟨"LazyCountsModel", "makeRoom", "()V"⟩, 12), (⟨"LazyCountsModel", "note", "(I)V"⟩, 12), (⟨"LazyCountsModel", "slotsOf", "(I)I"⟩, 12)]
theorem lw_r2 : ∀ q ∈ lw_privs_2, lw_okq q := List.forall_mem_cons.mpr ⟨lw_p16, List.forall_mem_cons.mpr ⟨lw_p17, List.forall_mem_cons.mpr ⟨lw_p18, fun _ h => absurd h List.not_mem_nil⟩⟩⟩
def lw_privs : List (MethodName × Nat) := lw_privs_1 ++ (lw_privs_2)
def lw_tbl : List Cond := k2_sels lw_privs ++ tables_1
theorem lw_privs_ok : ∀ q ∈ lw_privs, lw_okq q := by
  show ∀ q ∈ lw_privs_1 ++ (lw_privs_2), lw_okq q
  exact List.forall_mem_append.mpr ⟨lw_r1, lw_r2⟩
/-- the words that every state keeps -/
def zz_tb : List Cond := lw_tbl.filter (fun w => k2_isCode w || goodWord w)
def R_law : String := "LazyCountsLaw"
def R_X : String := "LazyCounts"
def F_X : u_T := fun k => match k with
  | 0 => ("LazyCounts", "heap", "LLazyCounts$Heap;", true)
  | 1 => ("LazyCounts", "places", "LLazyCounts$Places;", true)
  | 2 => ("LazyCounts", "entries", "LLazyCounts$Entries;", true)
  | _ => ("LazyCounts", "reckoned", "I", false)
def t_X : Nat → FieldType := fun k => match k with
  | 0 => .object "LazyCounts$Heap"
  | 1 => .object "LazyCounts$Places"
  | 2 => .object "LazyCounts$Entries"
  | _ => .int
abbrev w_X : List Cond := u_ws R_X F_X 4
def R_Heap : String := "LazyCounts$Heap"
def F_Heap : u_T := fun k => match k with
  | 0 => ("LazyCounts$Heap", "owners", "[I", true)
  | 1 => ("LazyCounts$Heap", "words", "[I", true)
  | _ => ("LazyCounts$Heap", "made", "I", false)
def t_Heap : Nat → FieldType := fun k => match k with
  | 0 => .array .int
  | 1 => .array .int
  | _ => .int
abbrev w_Heap : List Cond := u_ws R_Heap F_Heap 3
def R_Places : String := "LazyCounts$Places"
def F_Places : u_T := fun k => match k with
  | 0 => ("LazyCounts$Places", "objects", "[I", true)
  | _ => ("LazyCounts$Places", "height", "I", false)
def t_Places : Nat → FieldType := fun k => match k with
  | 0 => .array .int
  | _ => .int
abbrev w_Places : List Cond := u_ws R_Places F_Places 2
def R_Entries : String := "LazyCounts$Entries"
def F_Entries : u_T := fun k => match k with
  | 0 => ("LazyCounts$Entries", "objects", "[I", true)
  | 1 => ("LazyCounts$Entries", "slotsBefore", "[[I", true)
  | _ => ("LazyCounts$Entries", "length", "I", false)
def t_Entries : Nat → FieldType := fun k => match k with
  | 0 => .array .int
  | 1 => .array (.array .int)
  | _ => .int
abbrev w_Entries : List Cond := u_ws R_Entries F_Entries 3
def R_M : String := "LazyCountsModel"
def F_M : u_T := fun k => match k with
  | 0 => ("LazyCountsModel", "number", "[I", false)
  | 1 => ("LazyCountsModel", "slots", "[I", false)
  | 2 => ("LazyCountsModel", "counts", "[I", false)
  | 3 => ("LazyCountsModel", "noted", "[Z", false)
  | 4 => ("LazyCountsModel", "holds", "[I", false)
  | 5 => ("LazyCountsModel", "made", "I", false)
  | 6 => ("LazyCountsModel", "height", "I", false)
  | 7 => ("LazyCountsModel", "places", "[I", false)
  | 8 => ("LazyCountsModel", "entries", "I", false)
  | 9 => ("LazyCountsModel", "who", "[I", false)
  | 10 => ("LazyCountsModel", "held", "[I", false)
  | _ => ("LazyCountsModel", "runs", "I", false)
def t_M : Nat → FieldType := fun k => match k with
  | 0 => .array .int
  | 1 => .array .int
  | 2 => .array .int
  | 3 => .array .boolean
  | 4 => .array .int
  | 5 => .int
  | 6 => .int
  | 7 => .array .int
  | 8 => .int
  | 9 => .array .int
  | 10 => .array .int
  | _ => .int
abbrev w_M : List Cond := u_ws R_M F_M 12
abbrev b_X_init : ByteArray := prog_1_method_1_code
def y_X_init : MethodName := ⟨R_X, "<init>", "()V"⟩
abbrev b_X_make : ByteArray := prog_1_method_2_code
def y_X_make : MethodName := ⟨R_X, "make", "(I)I"⟩
abbrev b_X_copy : ByteArray := prog_1_method_3_code
def y_X_copy : MethodName := ⟨R_X, "copy", "(I)I"⟩
abbrev b_X_load : ByteArray := prog_1_method_4_code
def y_X_load : MethodName := ⟨R_X, "load", "(II)I"⟩
abbrev b_X_store : ByteArray := prog_1_method_5_code
def y_X_store : MethodName := ⟨R_X, "store", "(III)Z"⟩
abbrev b_X_drop : ByteArray := prog_1_method_6_code
def y_X_drop : MethodName := ⟨R_X, "drop", "()I"⟩
abbrev b_X_reckon : ByteArray := prog_1_method_7_code
def y_X_reckon : MethodName := ⟨R_X, "reckon", "()I"⟩
abbrev b_X_stack : ByteArray := prog_1_method_8_code
def y_X_stack : MethodName := ⟨R_X, "stack", "()I"⟩
abbrev b_X_held : ByteArray := prog_1_method_9_code
def y_X_held : MethodName := ⟨R_X, "held", "(I)I"⟩
abbrev b_X_alive : ByteArray := prog_1_method_10_code
def y_X_alive : MethodName := ⟨R_X, "alive", "()I"⟩
abbrev b_X_count : ByteArray := prog_1_method_11_code
def y_X_count : MethodName := ⟨R_X, "count", "(I)I"⟩
abbrev b_X_cell : ByteArray := prog_1_method_12_code
def y_X_cell : MethodName := ⟨R_X, "cell", "(I)I"⟩
abbrev b_X_slot : ByteArray := prog_1_method_13_code
def y_X_slot : MethodName := ⟨R_X, "slot", "(II)I"⟩
abbrev b_X_table : ByteArray := prog_1_method_14_code
def y_X_table : MethodName := ⟨R_X, "table", "()I"⟩
abbrev b_X_state : ByteArray := prog_1_method_15_code
def y_X_state : MethodName := ⟨R_X, "state", "(I)I"⟩
abbrev b_X_log : ByteArray := prog_1_method_16_code
def y_X_log : MethodName := ⟨R_X, "log", "()I"⟩
abbrev b_X_entry : ByteArray := prog_1_method_17_code
def y_X_entry : MethodName := ⟨R_X, "entry", "(II)I"⟩
abbrev b_X_free : ByteArray := prog_1_method_18_code
def y_X_free : MethodName := ⟨R_X, "free", "()I"⟩
abbrev b_X_reckonings : ByteArray := prog_1_method_19_code
def y_X_reckonings : MethodName := ⟨R_X, "reckonings", "()I"⟩
abbrev b_X_firstCellAt : ByteArray := prog_1_method_20_code
def y_X_firstCellAt : MethodName := ⟨R_X, "firstCellAt", "(I)I"⟩
abbrev b_X_note : ByteArray := prog_1_method_21_code
def y_X_note : MethodName := ⟨R_X, "note", "(I)V"⟩
abbrev b_X_bringUpToDate : ByteArray := prog_1_method_22_code
def y_X_bringUpToDate : MethodName := ⟨R_X, "bringUpToDate", "()I"⟩
abbrev b_X_countChangesOf : ByteArray := prog_1_method_23_code
def y_X_countChangesOf : MethodName := ⟨R_X, "countChangesOf", "(I)V"⟩
abbrev b_X_freeUnheld : ByteArray := prog_1_method_24_code
def y_X_freeUnheld : MethodName := ⟨R_X, "freeUnheld", "()I"⟩
abbrev b_X_firstUnheld : ByteArray := prog_1_method_25_code
def y_X_firstUnheld : MethodName := ⟨R_X, "firstUnheld", "()I"⟩
abbrev b_Heap_init : ByteArray := prog_3_method_1_code
def y_Heap_init : MethodName := ⟨R_Heap, "<init>", "()V"⟩
abbrev b_Heap_lowestRoom : ByteArray := prog_3_method_2_code
def y_Heap_lowestRoom : MethodName := ⟨R_Heap, "lowestRoom", "(I)I"⟩
abbrev b_Heap_layNew : ByteArray := prog_3_method_3_code
def y_Heap_layNew : MethodName := ⟨R_Heap, "layNew", "(II)I"⟩
abbrev b_Heap_giveBack : ByteArray := prog_3_method_4_code
def y_Heap_giveBack : MethodName := ⟨R_Heap, "giveBack", "(I)V"⟩
abbrev b_Heap_addToCount : ByteArray := prog_3_method_5_code
def y_Heap_addToCount : MethodName := ⟨R_Heap, "addToCount", "(II)V"⟩
abbrev b_Heap_firstCellOf : ByteArray := prog_3_method_6_code
def y_Heap_firstCellOf : MethodName := ⟨R_Heap, "firstCellOf", "(I)I"⟩
abbrev b_Heap_objectIn : ByteArray := prog_3_method_7_code
def y_Heap_objectIn : MethodName := ⟨R_Heap, "objectIn", "(I)I"⟩
abbrev b_Heap_countAt : ByteArray := prog_3_method_8_code
def y_Heap_countAt : MethodName := ⟨R_Heap, "countAt", "(I)I"⟩
abbrev b_Heap_slotsAt : ByteArray := prog_3_method_9_code
def y_Heap_slotsAt : MethodName := ⟨R_Heap, "slotsAt", "(I)I"⟩
abbrev b_Heap_hasSlot : ByteArray := prog_3_method_10_code
def y_Heap_hasSlot : MethodName := ⟨R_Heap, "hasSlot", "(II)Z"⟩
abbrev b_Heap_inSlot : ByteArray := prog_3_method_11_code
def y_Heap_inSlot : MethodName := ⟨R_Heap, "inSlot", "(II)I"⟩
abbrev b_Heap_setSlot : ByteArray := prog_3_method_12_code
def y_Heap_setSlot : MethodName := ⟨R_Heap, "setSlot", "(III)V"⟩
abbrev b_Heap_isFirst : ByteArray := prog_3_method_13_code
def y_Heap_isFirst : MethodName := ⟨R_Heap, "isFirst", "(I)Z"⟩
abbrev b_Heap_isUncounted : ByteArray := prog_3_method_14_code
def y_Heap_isUncounted : MethodName := ⟨R_Heap, "isUncounted", "(I)Z"⟩
abbrev b_Heap_objects : ByteArray := prog_3_method_15_code
def y_Heap_objects : MethodName := ⟨R_Heap, "objects", "()I"⟩
abbrev b_Heap_uncountedObjects : ByteArray := prog_3_method_16_code
def y_Heap_uncountedObjects : MethodName := ⟨R_Heap, "uncountedObjects", "()I"⟩
abbrev b_Heap_freeCells : ByteArray := prog_3_method_17_code
def y_Heap_freeCells : MethodName := ⟨R_Heap, "freeCells", "()I"⟩
abbrev b_Places_init : ByteArray := prog_4_method_1_code
def y_Places_init : MethodName := ⟨R_Places, "<init>", "()V"⟩
abbrev b_Places_size : ByteArray := prog_4_method_2_code
def y_Places_size : MethodName := ⟨R_Places, "size", "()I"⟩
abbrev b_Places_areFull : ByteArray := prog_4_method_3_code
def y_Places_areFull : MethodName := ⟨R_Places, "areFull", "()Z"⟩
abbrev b_Places_has : ByteArray := prog_4_method_4_code
def y_Places_has : MethodName := ⟨R_Places, "has", "(I)Z"⟩
abbrev b_Places_at : ByteArray := prog_4_method_5_code
def y_Places_at : MethodName := ⟨R_Places, "at", "(I)I"⟩
abbrev b_Places_push : ByteArray := prog_4_method_6_code
def y_Places_push : MethodName := ⟨R_Places, "push", "(I)I"⟩
abbrev b_Places_pop : ByteArray := prog_4_method_7_code
def y_Places_pop : MethodName := ⟨R_Places, "pop", "()I"⟩
abbrev b_Places_hold : ByteArray := prog_4_method_8_code
def y_Places_hold : MethodName := ⟨R_Places, "hold", "(I)Z"⟩
abbrev b_Entries_init : ByteArray := prog_2_method_1_code
def y_Entries_init : MethodName := ⟨R_Entries, "<init>", "()V"⟩
abbrev b_Entries_size : ByteArray := prog_2_method_2_code
def y_Entries_size : MethodName := ⟨R_Entries, "size", "()I"⟩
abbrev b_Entries_areFull : ByteArray := prog_2_method_3_code
def y_Entries_areFull : MethodName := ⟨R_Entries, "areFull", "()Z"⟩
abbrev b_Entries_has : ByteArray := prog_2_method_4_code
def y_Entries_has : MethodName := ⟨R_Entries, "has", "(I)Z"⟩
abbrev b_Entries_tellOf : ByteArray := prog_2_method_5_code
def y_Entries_tellOf : MethodName := ⟨R_Entries, "tellOf", "(I)Z"⟩
abbrev b_Entries_objectOf : ByteArray := prog_2_method_6_code
def y_Entries_objectOf : MethodName := ⟨R_Entries, "objectOf", "(I)I"⟩
abbrev b_Entries_before : ByteArray := prog_2_method_7_code
def y_Entries_before : MethodName := ⟨R_Entries, "before", "(II)I"⟩
abbrev b_Entries_setBefore : ByteArray := prog_2_method_8_code
def y_Entries_setBefore : MethodName := ⟨R_Entries, "setBefore", "(III)V"⟩
abbrev b_Entries_open : ByteArray := prog_2_method_9_code
def y_Entries_open : MethodName := ⟨R_Entries, "open", "(I)I"⟩
abbrev b_Entries_clear : ByteArray := prog_2_method_10_code
def y_Entries_clear : MethodName := ⟨R_Entries, "clear", "()V"⟩
abbrev b_M_init : ByteArray := prog_6_method_1_code
def y_M_init : MethodName := ⟨R_M, "<init>", "()V"⟩
abbrev b_M_within : ByteArray := prog_6_method_2_code
def y_M_within : MethodName := ⟨R_M, "within", "(III)Z"⟩
abbrev b_M_find : ByteArray := prog_6_method_3_code
def y_M_find : MethodName := ⟨R_M, "find", "(I)I"⟩
abbrev b_M_holders : ByteArray := prog_6_method_4_code
def y_M_holders : MethodName := ⟨R_M, "holders", "(I)I"⟩
abbrev b_M_onStack : ByteArray := prog_6_method_5_code
def y_M_onStack : MethodName := ⟨R_M, "onStack", "(I)Z"⟩
abbrev b_M_recount : ByteArray := prog_6_method_6_code
def y_M_recount : MethodName := ⟨R_M, "recount", "()V"⟩
abbrev b_M_round : ByteArray := prog_6_method_7_code
def y_M_round : MethodName := ⟨R_M, "round", "()I"⟩
abbrev b_M_settle : ByteArray := prog_6_method_8_code
def y_M_settle : MethodName := ⟨R_M, "settle", "()V"⟩
abbrev b_M_reckon : ByteArray := prog_6_method_9_code
def y_M_reckon : MethodName := ⟨R_M, "reckon", "()I"⟩
abbrev b_M_room : ByteArray := prog_6_method_10_code
def y_M_room : MethodName := ⟨R_M, "room", "(I)I"⟩
abbrev b_M_push : ByteArray := prog_6_method_11_code
def y_M_push : MethodName := ⟨R_M, "push", "(I)V"⟩
abbrev b_M_make : ByteArray := prog_6_method_12_code
def y_M_make : MethodName := ⟨R_M, "make", "(I)I"⟩
abbrev b_M_isPlace : ByteArray := prog_6_method_13_code
def y_M_isPlace : MethodName := ⟨R_M, "isPlace", "(I)Z"⟩
abbrev b_M_copy : ByteArray := prog_6_method_14_code
def y_M_copy : MethodName := ⟨R_M, "copy", "(I)I"⟩
abbrev b_M_slotCell : ByteArray := prog_6_method_15_code
def y_M_slotCell : MethodName := ⟨R_M, "slotCell", "(II)I"⟩
abbrev b_M_load : ByteArray := prog_6_method_16_code
def y_M_load : MethodName := ⟨R_M, "load", "(II)I"⟩
abbrev b_M_makeRoom : ByteArray := prog_6_method_17_code
def y_M_makeRoom : MethodName := ⟨R_M, "makeRoom", "()V"⟩
abbrev b_M_note : ByteArray := prog_6_method_18_code
def y_M_note : MethodName := ⟨R_M, "note", "(I)V"⟩
abbrev b_M_store : ByteArray := prog_6_method_19_code
def y_M_store : MethodName := ⟨R_M, "store", "(III)Z"⟩
abbrev b_M_drop : ByteArray := prog_6_method_20_code
def y_M_drop : MethodName := ⟨R_M, "drop", "()I"⟩
abbrev b_M_stack : ByteArray := prog_6_method_21_code
def y_M_stack : MethodName := ⟨R_M, "stack", "()I"⟩
abbrev b_M_held : ByteArray := prog_6_method_22_code
def y_M_held : MethodName := ⟨R_M, "held", "(I)I"⟩
abbrev b_M_alive : ByteArray := prog_6_method_23_code
def y_M_alive : MethodName := ⟨R_M, "alive", "()I"⟩
abbrev b_M_count : ByteArray := prog_6_method_24_code
def y_M_count : MethodName := ⟨R_M, "count", "(I)I"⟩
abbrev b_M_cell : ByteArray := prog_6_method_25_code
def y_M_cell : MethodName := ⟨R_M, "cell", "(I)I"⟩
abbrev b_M_slot : ByteArray := prog_6_method_26_code
def y_M_slot : MethodName := ⟨R_M, "slot", "(II)I"⟩
abbrev b_M_table : ByteArray := prog_6_method_27_code
def y_M_table : MethodName := ⟨R_M, "table", "()I"⟩
abbrev b_M_state : ByteArray := prog_6_method_28_code
def y_M_state : MethodName := ⟨R_M, "state", "(I)I"⟩
abbrev b_M_log : ByteArray := prog_6_method_29_code
def y_M_log : MethodName := ⟨R_M, "log", "()I"⟩
abbrev b_M_slotsOf : ByteArray := prog_6_method_30_code
def y_M_slotsOf : MethodName := ⟨R_M, "slotsOf", "(I)I"⟩
abbrev b_M_entry : ByteArray := prog_6_method_31_code
def y_M_entry : MethodName := ⟨R_M, "entry", "(II)I"⟩
abbrev b_M_free : ByteArray := prog_6_method_32_code
def y_M_free : MethodName := ⟨R_M, "free", "()I"⟩
abbrev b_M_reckonings : ByteArray := prog_6_method_33_code
def y_M_reckonings : MethodName := ⟨R_M, "reckonings", "()I"⟩
abbrev classes : List vw_C := [(R_X, F_X, 4), (R_Heap, F_Heap, 3), (R_Places, F_Places, 2), (R_Entries, F_Entries, 3), (R_M, F_M, 12)]
theorem n_X : ∀ a, a < 4 → ∀ b, b < 4 → a ≠ b → (F_X a).2.1 ≠ (F_X b).2.1 := by decide +kernel
theorem t_X_ok : ∀ k, k < 4 → parseFieldDescriptor (F_X k).2.2.1 = some (t_X k) := by decide +kernel
set_option maxRecDepth 20000 in
theorem i_X : ∀ w ∈ w_X, w ∈ zz_tb := by decide +kernel
theorem n_Heap : ∀ a, a < 3 → ∀ b, b < 3 → a ≠ b → (F_Heap a).2.1 ≠ (F_Heap b).2.1 := by decide +kernel
theorem t_Heap_ok : ∀ k, k < 3 → parseFieldDescriptor (F_Heap k).2.2.1 = some (t_Heap k) := by decide +kernel
set_option maxRecDepth 20000 in
theorem i_Heap : ∀ w ∈ w_Heap, w ∈ zz_tb := by decide +kernel
theorem n_Places : ∀ a, a < 2 → ∀ b, b < 2 → a ≠ b → (F_Places a).2.1 ≠ (F_Places b).2.1 := by decide +kernel
theorem t_Places_ok : ∀ k, k < 2 → parseFieldDescriptor (F_Places k).2.2.1 = some (t_Places k) := by decide +kernel
set_option maxRecDepth 20000 in
theorem i_Places : ∀ w ∈ w_Places, w ∈ zz_tb := by decide +kernel
theorem n_Entries : ∀ a, a < 3 → ∀ b, b < 3 → a ≠ b → (F_Entries a).2.1 ≠ (F_Entries b).2.1 := by decide +kernel
theorem t_Entries_ok : ∀ k, k < 3 → parseFieldDescriptor (F_Entries k).2.2.1 = some (t_Entries k) := by decide +kernel
set_option maxRecDepth 20000 in
theorem i_Entries : ∀ w ∈ w_Entries, w ∈ zz_tb := by decide +kernel
theorem n_M : ∀ a, a < 12 → ∀ b, b < 12 → a ≠ b → (F_M a).2.1 ≠ (F_M b).2.1 := by decide +kernel
theorem t_M_ok : ∀ k, k < 12 → parseFieldDescriptor (F_M k).2.2.1 = some (t_M k) := by decide +kernel
set_option maxRecDepth 20000 in
theorem i_M : ∀ w ∈ w_M, w ∈ zz_tb := by decide +kernel
end
section
theorem d_Heap_init_0 : decode b_Heap_init 0 = .ok (.aload_n 0, 1) := by decide +kernel
theorem d_Heap_init_1 : decode b_Heap_init 1 = .ok (.invokespecial 3, 3) := by decide +kernel
theorem d_Heap_init_4 : decode b_Heap_init 4 = .ok (.aload_n 0, 1) := by decide +kernel
theorem d_Heap_init_5 : decode b_Heap_init 5 = .ok (.bipush 48, 2) := by decide +kernel
theorem d_Heap_init_7 : decode b_Heap_init 7 = .ok (.newarray .int, 2) := by decide +kernel
theorem d_Heap_init_9 : decode b_Heap_init 9 = .ok (.putfield 9, 3) := by decide +kernel
theorem d_Heap_init_12 : decode b_Heap_init 12 = .ok (.aload_n 0, 1) := by decide +kernel
theorem d_Heap_init_13 : decode b_Heap_init 13 = .ok (.bipush 48, 2) := by decide +kernel
theorem d_Heap_init_15 : decode b_Heap_init 15 = .ok (.newarray .int, 2) := by decide +kernel
theorem d_Heap_init_17 : decode b_Heap_init 17 = .ok (.putfield 15, 3) := by decide +kernel
theorem d_Heap_init_20 : decode b_Heap_init 20 = .ok (.aload_n 0, 1) := by decide +kernel
theorem d_Heap_init_21 : decode b_Heap_init 21 = .ok (.iconst 0, 1) := by decide +kernel
theorem d_Heap_init_22 : decode b_Heap_init 22 = .ok (.putfield 18, 3) := by decide +kernel
theorem d_Heap_init_25 : decode b_Heap_init 25 = .ok (.return_, 1) := by decide +kernel
theorem d_Heap_lowestRoom_0 : decode b_Heap_lowestRoom 0 = .ok (.iconst 0, 1) := by decide +kernel
theorem d_Heap_lowestRoom_1 : decode b_Heap_lowestRoom 1 = .ok (.istore_n 2, 1) := by decide +kernel
theorem d_Heap_lowestRoom_2 : decode b_Heap_lowestRoom 2 = .ok (.iconst 0, 1) := by decide +kernel
theorem d_Heap_lowestRoom_3 : decode b_Heap_lowestRoom 3 = .ok (.istore_n 3, 1) := by decide +kernel
theorem d_Heap_lowestRoom_4 : decode b_Heap_lowestRoom 4 = .ok (.iload_n 3, 1) := by decide +kernel
theorem d_Heap_lowestRoom_5 : decode b_Heap_lowestRoom 5 = .ok (.bipush 48, 2) := by decide +kernel
theorem d_Heap_lowestRoom_7 : decode b_Heap_lowestRoom 7 = .ok (.if_icmp .ge 37, 3) := by decide +kernel
theorem d_Heap_lowestRoom_10 : decode b_Heap_lowestRoom 10 = .ok (.aload_n 0, 1) := by decide +kernel
theorem d_Heap_lowestRoom_11 : decode b_Heap_lowestRoom 11 = .ok (.getfield 9, 3) := by decide +kernel
theorem d_Heap_lowestRoom_14 : decode b_Heap_lowestRoom 14 = .ok (.iload_n 3, 1) := by decide +kernel
theorem d_Heap_lowestRoom_15 : decode b_Heap_lowestRoom 15 = .ok (.iaload, 1) := by decide +kernel
theorem d_Heap_lowestRoom_16 : decode b_Heap_lowestRoom 16 = .ok (.ifCond .ne 9, 3) := by decide +kernel
theorem d_Heap_lowestRoom_19 : decode b_Heap_lowestRoom 19 = .ok (.iload_n 2, 1) := by decide +kernel
theorem d_Heap_lowestRoom_20 : decode b_Heap_lowestRoom 20 = .ok (.iconst 1, 1) := by decide +kernel
theorem d_Heap_lowestRoom_21 : decode b_Heap_lowestRoom 21 = .ok (.iadd, 1) := by decide +kernel
theorem d_Heap_lowestRoom_22 : decode b_Heap_lowestRoom 22 = .ok (.goto 4, 3) := by decide +kernel
theorem d_Heap_lowestRoom_25 : decode b_Heap_lowestRoom 25 = .ok (.iconst 0, 1) := by decide +kernel
theorem d_Heap_lowestRoom_26 : decode b_Heap_lowestRoom 26 = .ok (.istore_n 2, 1) := by decide +kernel
theorem d_Heap_lowestRoom_27 : decode b_Heap_lowestRoom 27 = .ok (.iload_n 2, 1) := by decide +kernel
theorem d_Heap_lowestRoom_28 : decode b_Heap_lowestRoom 28 = .ok (.iload_n 1, 1) := by decide +kernel
theorem d_Heap_lowestRoom_29 : decode b_Heap_lowestRoom 29 = .ok (.if_icmp .ne 9, 3) := by decide +kernel
theorem d_Heap_lowestRoom_32 : decode b_Heap_lowestRoom 32 = .ok (.iload_n 3, 1) := by decide +kernel
theorem d_Heap_lowestRoom_33 : decode b_Heap_lowestRoom 33 = .ok (.iload_n 1, 1) := by decide +kernel
theorem d_Heap_lowestRoom_34 : decode b_Heap_lowestRoom 34 = .ok (.isub, 1) := by decide +kernel
theorem d_Heap_lowestRoom_35 : decode b_Heap_lowestRoom 35 = .ok (.iconst 1, 1) := by decide +kernel
theorem d_Heap_lowestRoom_36 : decode b_Heap_lowestRoom 36 = .ok (.iadd, 1) := by decide +kernel
theorem d_Heap_lowestRoom_37 : decode b_Heap_lowestRoom 37 = .ok (.ireturn, 1) := by decide +kernel
theorem d_Heap_lowestRoom_38 : decode b_Heap_lowestRoom 38 = .ok (.iinc 3 1, 3) := by decide +kernel
theorem d_Heap_lowestRoom_41 : decode b_Heap_lowestRoom 41 = .ok (.goto (-37), 3) := by decide +kernel
theorem d_Heap_lowestRoom_44 : decode b_Heap_lowestRoom 44 = .ok (.iconst (-1), 1) := by decide +kernel
theorem d_Heap_lowestRoom_45 : decode b_Heap_lowestRoom 45 = .ok (.ireturn, 1) := by decide +kernel
theorem d_Heap_layNew_0 : decode b_Heap_layNew 0 = .ok (.aload_n 0, 1) := by decide +kernel
theorem d_Heap_layNew_1 : decode b_Heap_layNew 1 = .ok (.dup, 1) := by decide +kernel
theorem d_Heap_layNew_2 : decode b_Heap_layNew 2 = .ok (.getfield 18, 3) := by decide +kernel
theorem d_Heap_layNew_5 : decode b_Heap_layNew 5 = .ok (.iconst 1, 1) := by decide +kernel
theorem d_Heap_layNew_6 : decode b_Heap_layNew 6 = .ok (.iadd, 1) := by decide +kernel
theorem d_Heap_layNew_7 : decode b_Heap_layNew 7 = .ok (.putfield 18, 3) := by decide +kernel
theorem d_Heap_layNew_10 : decode b_Heap_layNew 10 = .ok (.iload_n 1, 1) := by decide +kernel
theorem d_Heap_layNew_11 : decode b_Heap_layNew 11 = .ok (.istore_n 3, 1) := by decide +kernel
theorem d_Heap_layNew_12 : decode b_Heap_layNew 12 = .ok (.iload_n 3, 1) := by decide +kernel
theorem d_Heap_layNew_13 : decode b_Heap_layNew 13 = .ok (.iload_n 1, 1) := by decide +kernel
theorem d_Heap_layNew_14 : decode b_Heap_layNew 14 = .ok (.iload_n 2, 1) := by decide +kernel
theorem d_Heap_layNew_15 : decode b_Heap_layNew 15 = .ok (.iadd, 1) := by decide +kernel
theorem d_Heap_layNew_16 : decode b_Heap_layNew 16 = .ok (.if_icmp .gt 26, 3) := by decide +kernel
theorem d_Heap_layNew_19 : decode b_Heap_layNew 19 = .ok (.aload_n 0, 1) := by decide +kernel
theorem d_Heap_layNew_20 : decode b_Heap_layNew 20 = .ok (.getfield 9, 3) := by decide +kernel
theorem d_Heap_layNew_23 : decode b_Heap_layNew 23 = .ok (.iload_n 3, 1) := by decide +kernel
theorem d_Heap_layNew_24 : decode b_Heap_layNew 24 = .ok (.aload_n 0, 1) := by decide +kernel
theorem d_Heap_layNew_25 : decode b_Heap_layNew 25 = .ok (.getfield 18, 3) := by decide +kernel
theorem d_Heap_layNew_28 : decode b_Heap_layNew 28 = .ok (.iastore, 1) := by decide +kernel
theorem d_Heap_layNew_29 : decode b_Heap_layNew 29 = .ok (.aload_n 0, 1) := by decide +kernel
theorem d_Heap_layNew_30 : decode b_Heap_layNew 30 = .ok (.getfield 15, 3) := by decide +kernel
theorem d_Heap_layNew_33 : decode b_Heap_layNew 33 = .ok (.iload_n 3, 1) := by decide +kernel
theorem d_Heap_layNew_34 : decode b_Heap_layNew 34 = .ok (.iconst 0, 1) := by decide +kernel
theorem d_Heap_layNew_35 : decode b_Heap_layNew 35 = .ok (.iastore, 1) := by decide +kernel
theorem d_Heap_layNew_36 : decode b_Heap_layNew 36 = .ok (.iinc 3 1, 3) := by decide +kernel
theorem d_Heap_layNew_39 : decode b_Heap_layNew 39 = .ok (.goto (-27), 3) := by decide +kernel
theorem d_Heap_layNew_42 : decode b_Heap_layNew 42 = .ok (.aload_n 0, 1) := by decide +kernel
theorem d_Heap_layNew_43 : decode b_Heap_layNew 43 = .ok (.getfield 18, 3) := by decide +kernel
theorem d_Heap_layNew_46 : decode b_Heap_layNew 46 = .ok (.ireturn, 1) := by decide +kernel
theorem d_Heap_giveBack_0 : decode b_Heap_giveBack 0 = .ok (.aload_n 0, 1) := by decide +kernel
theorem d_Heap_giveBack_1 : decode b_Heap_giveBack 1 = .ok (.iload_n 1, 1) := by decide +kernel
theorem d_Heap_giveBack_2 : decode b_Heap_giveBack 2 = .ok (.invokevirtual 22, 3) := by decide +kernel
theorem d_Heap_giveBack_5 : decode b_Heap_giveBack 5 = .ok (.istore_n 2, 1) := by decide +kernel
theorem d_Heap_giveBack_6 : decode b_Heap_giveBack 6 = .ok (.iconst 0, 1) := by decide +kernel
theorem d_Heap_giveBack_7 : decode b_Heap_giveBack 7 = .ok (.istore_n 3, 1) := by decide +kernel
theorem d_Heap_giveBack_8 : decode b_Heap_giveBack 8 = .ok (.iload_n 3, 1) := by decide +kernel
theorem d_Heap_giveBack_9 : decode b_Heap_giveBack 9 = .ok (.iload_n 2, 1) := by decide +kernel
theorem d_Heap_giveBack_10 : decode b_Heap_giveBack 10 = .ok (.if_icmp .ge 20, 3) := by decide +kernel
theorem d_Heap_giveBack_13 : decode b_Heap_giveBack 13 = .ok (.aload_n 0, 1) := by decide +kernel
theorem d_Heap_giveBack_14 : decode b_Heap_giveBack 14 = .ok (.aload_n 0, 1) := by decide +kernel
theorem d_Heap_giveBack_15 : decode b_Heap_giveBack 15 = .ok (.iload_n 1, 1) := by decide +kernel
theorem d_Heap_giveBack_16 : decode b_Heap_giveBack 16 = .ok (.iload_n 3, 1) := by decide +kernel
theorem d_Heap_giveBack_17 : decode b_Heap_giveBack 17 = .ok (.invokevirtual 26, 3) := by decide +kernel
theorem d_Heap_giveBack_20 : decode b_Heap_giveBack 20 = .ok (.iconst (-1), 1) := by decide +kernel
theorem d_Heap_giveBack_21 : decode b_Heap_giveBack 21 = .ok (.invokevirtual 30, 3) := by decide +kernel
theorem d_Heap_giveBack_24 : decode b_Heap_giveBack 24 = .ok (.iinc 3 1, 3) := by decide +kernel
theorem d_Heap_giveBack_27 : decode b_Heap_giveBack 27 = .ok (.goto (-19), 3) := by decide +kernel
theorem d_Heap_giveBack_30 : decode b_Heap_giveBack 30 = .ok (.iload_n 1, 1) := by decide +kernel
theorem d_Heap_giveBack_31 : decode b_Heap_giveBack 31 = .ok (.istore_n 3, 1) := by decide +kernel
theorem d_Heap_giveBack_32 : decode b_Heap_giveBack 32 = .ok (.iload_n 3, 1) := by decide +kernel
theorem d_Heap_giveBack_33 : decode b_Heap_giveBack 33 = .ok (.iload_n 1, 1) := by decide +kernel
theorem d_Heap_giveBack_34 : decode b_Heap_giveBack 34 = .ok (.iload_n 2, 1) := by decide +kernel
theorem d_Heap_giveBack_35 : decode b_Heap_giveBack 35 = .ok (.iadd, 1) := by decide +kernel
theorem d_Heap_giveBack_36 : decode b_Heap_giveBack 36 = .ok (.if_icmp .gt 16, 3) := by decide +kernel
theorem d_Heap_giveBack_39 : decode b_Heap_giveBack 39 = .ok (.aload_n 0, 1) := by decide +kernel
theorem d_Heap_giveBack_40 : decode b_Heap_giveBack 40 = .ok (.getfield 9, 3) := by decide +kernel
theorem d_Heap_giveBack_43 : decode b_Heap_giveBack 43 = .ok (.iload_n 3, 1) := by decide +kernel
theorem d_Heap_giveBack_44 : decode b_Heap_giveBack 44 = .ok (.iconst 0, 1) := by decide +kernel
theorem d_Heap_giveBack_45 : decode b_Heap_giveBack 45 = .ok (.iastore, 1) := by decide +kernel
theorem d_Heap_giveBack_46 : decode b_Heap_giveBack 46 = .ok (.iinc 3 1, 3) := by decide +kernel
theorem d_Heap_giveBack_49 : decode b_Heap_giveBack 49 = .ok (.goto (-17), 3) := by decide +kernel
theorem d_Heap_giveBack_52 : decode b_Heap_giveBack 52 = .ok (.return_, 1) := by decide +kernel
theorem d_Heap_addToCount_0 : decode b_Heap_addToCount 0 = .ok (.aload_n 0, 1) := by decide +kernel
theorem d_Heap_addToCount_1 : decode b_Heap_addToCount 1 = .ok (.iload_n 1, 1) := by decide +kernel
theorem d_Heap_addToCount_2 : decode b_Heap_addToCount 2 = .ok (.invokevirtual 34, 3) := by decide +kernel
theorem d_Heap_addToCount_5 : decode b_Heap_addToCount 5 = .ok (.istore_n 3, 1) := by decide +kernel
theorem d_Heap_addToCount_6 : decode b_Heap_addToCount 6 = .ok (.iload_n 3, 1) := by decide +kernel
theorem d_Heap_addToCount_7 : decode b_Heap_addToCount 7 = .ok (.iconst (-1), 1) := by decide +kernel
theorem d_Heap_addToCount_8 : decode b_Heap_addToCount 8 = .ok (.if_icmp .eq 13, 3) := by decide +kernel
theorem d_Heap_addToCount_11 : decode b_Heap_addToCount 11 = .ok (.aload_n 0, 1) := by decide +kernel
theorem d_Heap_addToCount_12 : decode b_Heap_addToCount 12 = .ok (.getfield 15, 3) := by decide +kernel
theorem d_Heap_addToCount_15 : decode b_Heap_addToCount 15 = .ok (.iload_n 3, 1) := by decide +kernel
theorem d_Heap_addToCount_16 : decode b_Heap_addToCount 16 = .ok (.dup2, 1) := by decide +kernel
theorem d_Heap_addToCount_17 : decode b_Heap_addToCount 17 = .ok (.iaload, 1) := by decide +kernel
theorem d_Heap_addToCount_18 : decode b_Heap_addToCount 18 = .ok (.iload_n 2, 1) := by decide +kernel
theorem d_Heap_addToCount_19 : decode b_Heap_addToCount 19 = .ok (.iadd, 1) := by decide +kernel
theorem d_Heap_addToCount_20 : decode b_Heap_addToCount 20 = .ok (.iastore, 1) := by decide +kernel
theorem d_Heap_addToCount_21 : decode b_Heap_addToCount 21 = .ok (.return_, 1) := by decide +kernel
theorem d_Heap_firstCellOf_0 : decode b_Heap_firstCellOf 0 = .ok (.iload_n 1, 1) := by decide +kernel
theorem d_Heap_firstCellOf_1 : decode b_Heap_firstCellOf 1 = .ok (.ifCond .ne 5, 3) := by decide +kernel
theorem d_Heap_firstCellOf_4 : decode b_Heap_firstCellOf 4 = .ok (.iconst (-1), 1) := by decide +kernel
theorem d_Heap_firstCellOf_5 : decode b_Heap_firstCellOf 5 = .ok (.ireturn, 1) := by decide +kernel
theorem d_Heap_firstCellOf_6 : decode b_Heap_firstCellOf 6 = .ok (.iconst 0, 1) := by decide +kernel
theorem d_Heap_firstCellOf_7 : decode b_Heap_firstCellOf 7 = .ok (.istore_n 2, 1) := by decide +kernel
theorem d_Heap_firstCellOf_8 : decode b_Heap_firstCellOf 8 = .ok (.iload_n 2, 1) := by decide +kernel
theorem d_Heap_firstCellOf_9 : decode b_Heap_firstCellOf 9 = .ok (.bipush 48, 2) := by decide +kernel
theorem d_Heap_firstCellOf_11 : decode b_Heap_firstCellOf 11 = .ok (.if_icmp .ge 21, 3) := by decide +kernel
theorem d_Heap_firstCellOf_14 : decode b_Heap_firstCellOf 14 = .ok (.aload_n 0, 1) := by decide +kernel
theorem d_Heap_firstCellOf_15 : decode b_Heap_firstCellOf 15 = .ok (.getfield 9, 3) := by decide +kernel
theorem d_Heap_firstCellOf_18 : decode b_Heap_firstCellOf 18 = .ok (.iload_n 2, 1) := by decide +kernel
theorem d_Heap_firstCellOf_19 : decode b_Heap_firstCellOf 19 = .ok (.iaload, 1) := by decide +kernel
theorem d_Heap_firstCellOf_20 : decode b_Heap_firstCellOf 20 = .ok (.iload_n 1, 1) := by decide +kernel
theorem d_Heap_firstCellOf_21 : decode b_Heap_firstCellOf 21 = .ok (.if_icmp .ne 5, 3) := by decide +kernel
theorem d_Heap_firstCellOf_24 : decode b_Heap_firstCellOf 24 = .ok (.iload_n 2, 1) := by decide +kernel
theorem d_Heap_firstCellOf_25 : decode b_Heap_firstCellOf 25 = .ok (.ireturn, 1) := by decide +kernel
theorem d_Heap_firstCellOf_26 : decode b_Heap_firstCellOf 26 = .ok (.iinc 2 1, 3) := by decide +kernel
theorem d_Heap_firstCellOf_29 : decode b_Heap_firstCellOf 29 = .ok (.goto (-21), 3) := by decide +kernel
theorem d_Heap_firstCellOf_32 : decode b_Heap_firstCellOf 32 = .ok (.iconst (-1), 1) := by decide +kernel
theorem d_Heap_firstCellOf_33 : decode b_Heap_firstCellOf 33 = .ok (.ireturn, 1) := by decide +kernel
theorem d_Heap_objectIn_0 : decode b_Heap_objectIn 0 = .ok (.aload_n 0, 1) := by decide +kernel
theorem d_Heap_objectIn_1 : decode b_Heap_objectIn 1 = .ok (.getfield 9, 3) := by decide +kernel
theorem d_Heap_objectIn_4 : decode b_Heap_objectIn 4 = .ok (.iload_n 1, 1) := by decide +kernel
theorem d_Heap_objectIn_5 : decode b_Heap_objectIn 5 = .ok (.iaload, 1) := by decide +kernel
theorem d_Heap_objectIn_6 : decode b_Heap_objectIn 6 = .ok (.ireturn, 1) := by decide +kernel
theorem d_Heap_countAt_0 : decode b_Heap_countAt 0 = .ok (.aload_n 0, 1) := by decide +kernel
theorem d_Heap_countAt_1 : decode b_Heap_countAt 1 = .ok (.getfield 15, 3) := by decide +kernel
theorem d_Heap_countAt_4 : decode b_Heap_countAt 4 = .ok (.iload_n 1, 1) := by decide +kernel
theorem d_Heap_countAt_5 : decode b_Heap_countAt 5 = .ok (.iaload, 1) := by decide +kernel
theorem d_Heap_countAt_6 : decode b_Heap_countAt 6 = .ok (.ireturn, 1) := by decide +kernel
theorem d_Heap_slotsAt_0 : decode b_Heap_slotsAt 0 = .ok (.iload_n 1, 1) := by decide +kernel
theorem d_Heap_slotsAt_1 : decode b_Heap_slotsAt 1 = .ok (.iconst (-1), 1) := by decide +kernel
theorem d_Heap_slotsAt_2 : decode b_Heap_slotsAt 2 = .ok (.if_icmp .ne 5, 3) := by decide +kernel
theorem d_Heap_slotsAt_5 : decode b_Heap_slotsAt 5 = .ok (.iconst 0, 1) := by decide +kernel
theorem d_Heap_slotsAt_6 : decode b_Heap_slotsAt 6 = .ok (.ireturn, 1) := by decide +kernel
theorem d_Heap_slotsAt_7 : decode b_Heap_slotsAt 7 = .ok (.iconst 0, 1) := by decide +kernel
theorem d_Heap_slotsAt_8 : decode b_Heap_slotsAt 8 = .ok (.istore_n 2, 1) := by decide +kernel
theorem d_Heap_slotsAt_9 : decode b_Heap_slotsAt 9 = .ok (.iload_n 1, 1) := by decide +kernel
theorem d_Heap_slotsAt_10 : decode b_Heap_slotsAt 10 = .ok (.iconst 1, 1) := by decide +kernel
theorem d_Heap_slotsAt_11 : decode b_Heap_slotsAt 11 = .ok (.iadd, 1) := by decide +kernel
theorem d_Heap_slotsAt_12 : decode b_Heap_slotsAt 12 = .ok (.istore_n 3, 1) := by decide +kernel
theorem d_Heap_slotsAt_13 : decode b_Heap_slotsAt 13 = .ok (.iload_n 3, 1) := by decide +kernel
theorem d_Heap_slotsAt_14 : decode b_Heap_slotsAt 14 = .ok (.bipush 48, 2) := by decide +kernel
theorem d_Heap_slotsAt_16 : decode b_Heap_slotsAt 16 = .ok (.if_icmp .ge 27, 3) := by decide +kernel
theorem d_Heap_slotsAt_19 : decode b_Heap_slotsAt 19 = .ok (.aload_n 0, 1) := by decide +kernel
theorem d_Heap_slotsAt_20 : decode b_Heap_slotsAt 20 = .ok (.getfield 9, 3) := by decide +kernel
theorem d_Heap_slotsAt_23 : decode b_Heap_slotsAt 23 = .ok (.iload_n 3, 1) := by decide +kernel
theorem d_Heap_slotsAt_24 : decode b_Heap_slotsAt 24 = .ok (.iaload, 1) := by decide +kernel
theorem d_Heap_slotsAt_25 : decode b_Heap_slotsAt 25 = .ok (.aload_n 0, 1) := by decide +kernel
theorem d_Heap_slotsAt_26 : decode b_Heap_slotsAt 26 = .ok (.getfield 9, 3) := by decide +kernel
theorem d_Heap_slotsAt_29 : decode b_Heap_slotsAt 29 = .ok (.iload_n 1, 1) := by decide +kernel
theorem d_Heap_slotsAt_30 : decode b_Heap_slotsAt 30 = .ok (.iaload, 1) := by decide +kernel
theorem d_Heap_slotsAt_31 : decode b_Heap_slotsAt 31 = .ok (.if_icmp .ne 12, 3) := by decide +kernel
theorem d_Heap_slotsAt_34 : decode b_Heap_slotsAt 34 = .ok (.iinc 2 1, 3) := by decide +kernel
theorem d_Heap_slotsAt_37 : decode b_Heap_slotsAt 37 = .ok (.iinc 3 1, 3) := by decide +kernel
theorem d_Heap_slotsAt_40 : decode b_Heap_slotsAt 40 = .ok (.goto (-27), 3) := by decide +kernel
theorem d_Heap_slotsAt_43 : decode b_Heap_slotsAt 43 = .ok (.iload_n 2, 1) := by decide +kernel
theorem d_Heap_slotsAt_44 : decode b_Heap_slotsAt 44 = .ok (.ireturn, 1) := by decide +kernel
theorem d_Heap_hasSlot_0 : decode b_Heap_hasSlot 0 = .ok (.iload_n 2, 1) := by decide +kernel
theorem d_Heap_hasSlot_1 : decode b_Heap_hasSlot 1 = .ok (.ifCond .lt 16, 3) := by decide +kernel
theorem d_Heap_hasSlot_4 : decode b_Heap_hasSlot 4 = .ok (.iload_n 2, 1) := by decide +kernel
theorem d_Heap_hasSlot_5 : decode b_Heap_hasSlot 5 = .ok (.aload_n 0, 1) := by decide +kernel
theorem d_Heap_hasSlot_6 : decode b_Heap_hasSlot 6 = .ok (.iload_n 1, 1) := by decide +kernel
theorem d_Heap_hasSlot_7 : decode b_Heap_hasSlot 7 = .ok (.invokevirtual 22, 3) := by decide +kernel
theorem d_Heap_hasSlot_10 : decode b_Heap_hasSlot 10 = .ok (.if_icmp .ge 7, 3) := by decide +kernel
theorem d_Heap_hasSlot_13 : decode b_Heap_hasSlot 13 = .ok (.iconst 1, 1) := by decide +kernel
theorem d_Heap_hasSlot_14 : decode b_Heap_hasSlot 14 = .ok (.goto 4, 3) := by decide +kernel
theorem d_Heap_hasSlot_17 : decode b_Heap_hasSlot 17 = .ok (.iconst 0, 1) := by decide +kernel
theorem d_Heap_hasSlot_18 : decode b_Heap_hasSlot 18 = .ok (.ireturn, 1) := by decide +kernel
theorem d_Heap_inSlot_0 : decode b_Heap_inSlot 0 = .ok (.aload_n 0, 1) := by decide +kernel
theorem d_Heap_inSlot_1 : decode b_Heap_inSlot 1 = .ok (.getfield 15, 3) := by decide +kernel
theorem d_Heap_inSlot_4 : decode b_Heap_inSlot 4 = .ok (.iload_n 1, 1) := by decide +kernel
theorem d_Heap_inSlot_5 : decode b_Heap_inSlot 5 = .ok (.iconst 1, 1) := by decide +kernel
theorem d_Heap_inSlot_6 : decode b_Heap_inSlot 6 = .ok (.iadd, 1) := by decide +kernel
theorem d_Heap_inSlot_7 : decode b_Heap_inSlot 7 = .ok (.iload_n 2, 1) := by decide +kernel
theorem d_Heap_inSlot_8 : decode b_Heap_inSlot 8 = .ok (.iadd, 1) := by decide +kernel
theorem d_Heap_inSlot_9 : decode b_Heap_inSlot 9 = .ok (.iaload, 1) := by decide +kernel
theorem d_Heap_inSlot_10 : decode b_Heap_inSlot 10 = .ok (.ireturn, 1) := by decide +kernel
theorem d_Heap_setSlot_0 : decode b_Heap_setSlot 0 = .ok (.aload_n 0, 1) := by decide +kernel
theorem d_Heap_setSlot_1 : decode b_Heap_setSlot 1 = .ok (.getfield 15, 3) := by decide +kernel
theorem d_Heap_setSlot_4 : decode b_Heap_setSlot 4 = .ok (.iload_n 1, 1) := by decide +kernel
theorem d_Heap_setSlot_5 : decode b_Heap_setSlot 5 = .ok (.iconst 1, 1) := by decide +kernel
theorem d_Heap_setSlot_6 : decode b_Heap_setSlot 6 = .ok (.iadd, 1) := by decide +kernel
theorem d_Heap_setSlot_7 : decode b_Heap_setSlot 7 = .ok (.iload_n 2, 1) := by decide +kernel
theorem d_Heap_setSlot_8 : decode b_Heap_setSlot 8 = .ok (.iadd, 1) := by decide +kernel
theorem d_Heap_setSlot_9 : decode b_Heap_setSlot 9 = .ok (.iload_n 3, 1) := by decide +kernel
theorem d_Heap_setSlot_10 : decode b_Heap_setSlot 10 = .ok (.iastore, 1) := by decide +kernel
theorem d_Heap_setSlot_11 : decode b_Heap_setSlot 11 = .ok (.return_, 1) := by decide +kernel
theorem d_Heap_isFirst_0 : decode b_Heap_isFirst 0 = .ok (.aload_n 0, 1) := by decide +kernel
theorem d_Heap_isFirst_1 : decode b_Heap_isFirst 1 = .ok (.getfield 9, 3) := by decide +kernel
theorem d_Heap_isFirst_4 : decode b_Heap_isFirst 4 = .ok (.iload_n 1, 1) := by decide +kernel
theorem d_Heap_isFirst_5 : decode b_Heap_isFirst 5 = .ok (.iaload, 1) := by decide +kernel
theorem d_Heap_isFirst_6 : decode b_Heap_isFirst 6 = .ok (.ifCond .eq 28, 3) := by decide +kernel
theorem d_Heap_isFirst_9 : decode b_Heap_isFirst 9 = .ok (.iload_n 1, 1) := by decide +kernel
theorem d_Heap_isFirst_10 : decode b_Heap_isFirst 10 = .ok (.ifCond .eq 20, 3) := by decide +kernel
theorem d_Heap_isFirst_13 : decode b_Heap_isFirst 13 = .ok (.aload_n 0, 1) := by decide +kernel
theorem d_Heap_isFirst_14 : decode b_Heap_isFirst 14 = .ok (.getfield 9, 3) := by decide +kernel
theorem d_Heap_isFirst_17 : decode b_Heap_isFirst 17 = .ok (.iload_n 1, 1) := by decide +kernel
theorem d_Heap_isFirst_18 : decode b_Heap_isFirst 18 = .ok (.iconst 1, 1) := by decide +kernel
theorem d_Heap_isFirst_19 : decode b_Heap_isFirst 19 = .ok (.isub, 1) := by decide +kernel
theorem d_Heap_isFirst_20 : decode b_Heap_isFirst 20 = .ok (.iaload, 1) := by decide +kernel
theorem d_Heap_isFirst_21 : decode b_Heap_isFirst 21 = .ok (.aload_n 0, 1) := by decide +kernel
theorem d_Heap_isFirst_22 : decode b_Heap_isFirst 22 = .ok (.getfield 9, 3) := by decide +kernel
theorem d_Heap_isFirst_25 : decode b_Heap_isFirst 25 = .ok (.iload_n 1, 1) := by decide +kernel
theorem d_Heap_isFirst_26 : decode b_Heap_isFirst 26 = .ok (.iaload, 1) := by decide +kernel
theorem d_Heap_isFirst_27 : decode b_Heap_isFirst 27 = .ok (.if_icmp .eq 7, 3) := by decide +kernel
theorem d_Heap_isFirst_30 : decode b_Heap_isFirst 30 = .ok (.iconst 1, 1) := by decide +kernel
theorem d_Heap_isFirst_31 : decode b_Heap_isFirst 31 = .ok (.goto 4, 3) := by decide +kernel
theorem d_Heap_isFirst_34 : decode b_Heap_isFirst 34 = .ok (.iconst 0, 1) := by decide +kernel
theorem d_Heap_isFirst_35 : decode b_Heap_isFirst 35 = .ok (.ireturn, 1) := by decide +kernel
theorem d_Heap_isUncounted_0 : decode b_Heap_isUncounted 0 = .ok (.aload_n 0, 1) := by decide +kernel
theorem d_Heap_isUncounted_1 : decode b_Heap_isUncounted 1 = .ok (.iload_n 1, 1) := by decide +kernel
theorem d_Heap_isUncounted_2 : decode b_Heap_isUncounted 2 = .ok (.invokevirtual 37, 3) := by decide +kernel
theorem d_Heap_isUncounted_5 : decode b_Heap_isUncounted 5 = .ok (.ifCond .eq 16, 3) := by decide +kernel
theorem d_Heap_isUncounted_8 : decode b_Heap_isUncounted 8 = .ok (.aload_n 0, 1) := by decide +kernel
theorem d_Heap_isUncounted_9 : decode b_Heap_isUncounted 9 = .ok (.getfield 15, 3) := by decide +kernel
theorem d_Heap_isUncounted_12 : decode b_Heap_isUncounted 12 = .ok (.iload_n 1, 1) := by decide +kernel
theorem d_Heap_isUncounted_13 : decode b_Heap_isUncounted 13 = .ok (.iaload, 1) := by decide +kernel
theorem d_Heap_isUncounted_14 : decode b_Heap_isUncounted 14 = .ok (.ifCond .ne 7, 3) := by decide +kernel
theorem d_Heap_isUncounted_17 : decode b_Heap_isUncounted 17 = .ok (.iconst 1, 1) := by decide +kernel
theorem d_Heap_isUncounted_18 : decode b_Heap_isUncounted 18 = .ok (.goto 4, 3) := by decide +kernel
theorem d_Heap_isUncounted_21 : decode b_Heap_isUncounted 21 = .ok (.iconst 0, 1) := by decide +kernel
theorem d_Heap_isUncounted_22 : decode b_Heap_isUncounted 22 = .ok (.ireturn, 1) := by decide +kernel
theorem d_Heap_objects_0 : decode b_Heap_objects 0 = .ok (.iconst 0, 1) := by decide +kernel
theorem d_Heap_objects_1 : decode b_Heap_objects 1 = .ok (.istore_n 1, 1) := by decide +kernel
theorem d_Heap_objects_2 : decode b_Heap_objects 2 = .ok (.iconst 0, 1) := by decide +kernel
theorem d_Heap_objects_3 : decode b_Heap_objects 3 = .ok (.istore_n 2, 1) := by decide +kernel
theorem d_Heap_objects_4 : decode b_Heap_objects 4 = .ok (.iload_n 2, 1) := by decide +kernel
theorem d_Heap_objects_5 : decode b_Heap_objects 5 = .ok (.bipush 48, 2) := by decide +kernel
theorem d_Heap_objects_7 : decode b_Heap_objects 7 = .ok (.if_icmp .ge 25, 3) := by decide +kernel
theorem d_Heap_objects_10 : decode b_Heap_objects 10 = .ok (.iload_n 1, 1) := by decide +kernel
theorem d_Heap_objects_11 : decode b_Heap_objects 11 = .ok (.aload_n 0, 1) := by decide +kernel
theorem d_Heap_objects_12 : decode b_Heap_objects 12 = .ok (.iload_n 2, 1) := by decide +kernel
theorem d_Heap_objects_13 : decode b_Heap_objects 13 = .ok (.invokevirtual 37, 3) := by decide +kernel
theorem d_Heap_objects_16 : decode b_Heap_objects 16 = .ok (.ifCond .eq 7, 3) := by decide +kernel
theorem d_Heap_objects_19 : decode b_Heap_objects 19 = .ok (.iconst 1, 1) := by decide +kernel
theorem d_Heap_objects_20 : decode b_Heap_objects 20 = .ok (.goto 4, 3) := by decide +kernel
theorem d_Heap_objects_23 : decode b_Heap_objects 23 = .ok (.iconst 0, 1) := by decide +kernel
theorem d_Heap_objects_24 : decode b_Heap_objects 24 = .ok (.iadd, 1) := by decide +kernel
theorem d_Heap_objects_25 : decode b_Heap_objects 25 = .ok (.istore_n 1, 1) := by decide +kernel
theorem d_Heap_objects_26 : decode b_Heap_objects 26 = .ok (.iinc 2 1, 3) := by decide +kernel
theorem d_Heap_objects_29 : decode b_Heap_objects 29 = .ok (.goto (-25), 3) := by decide +kernel
theorem d_Heap_objects_32 : decode b_Heap_objects 32 = .ok (.iload_n 1, 1) := by decide +kernel
theorem d_Heap_objects_33 : decode b_Heap_objects 33 = .ok (.ireturn, 1) := by decide +kernel
theorem d_Heap_uncountedObjects_0 : decode b_Heap_uncountedObjects 0 = .ok (.iconst 0, 1) := by decide +kernel
theorem d_Heap_uncountedObjects_1 : decode b_Heap_uncountedObjects 1 = .ok (.istore_n 1, 1) := by decide +kernel
theorem d_Heap_uncountedObjects_2 : decode b_Heap_uncountedObjects 2 = .ok (.iconst 0, 1) := by decide +kernel
theorem d_Heap_uncountedObjects_3 : decode b_Heap_uncountedObjects 3 = .ok (.istore_n 2, 1) := by decide +kernel
theorem d_Heap_uncountedObjects_4 : decode b_Heap_uncountedObjects 4 = .ok (.iload_n 2, 1) := by decide +kernel
theorem d_Heap_uncountedObjects_5 : decode b_Heap_uncountedObjects 5 = .ok (.bipush 48, 2) := by decide +kernel
theorem d_Heap_uncountedObjects_7 : decode b_Heap_uncountedObjects 7 = .ok (.if_icmp .ge 25, 3) := by decide +kernel
theorem d_Heap_uncountedObjects_10 : decode b_Heap_uncountedObjects 10 = .ok (.iload_n 1, 1) := by decide +kernel
theorem d_Heap_uncountedObjects_11 : decode b_Heap_uncountedObjects 11 = .ok (.aload_n 0, 1) := by decide +kernel
theorem d_Heap_uncountedObjects_12 : decode b_Heap_uncountedObjects 12 = .ok (.iload_n 2, 1) := by decide +kernel
theorem d_Heap_uncountedObjects_13 : decode b_Heap_uncountedObjects 13 = .ok (.invokevirtual 41, 3) := by decide +kernel
theorem d_Heap_uncountedObjects_16 : decode b_Heap_uncountedObjects 16 = .ok (.ifCond .eq 7, 3) := by decide +kernel
theorem d_Heap_uncountedObjects_19 : decode b_Heap_uncountedObjects 19 = .ok (.iconst 1, 1) := by decide +kernel
theorem d_Heap_uncountedObjects_20 : decode b_Heap_uncountedObjects 20 = .ok (.goto 4, 3) := by decide +kernel
theorem d_Heap_uncountedObjects_23 : decode b_Heap_uncountedObjects 23 = .ok (.iconst 0, 1) := by decide +kernel
theorem d_Heap_uncountedObjects_24 : decode b_Heap_uncountedObjects 24 = .ok (.iadd, 1) := by decide +kernel
theorem d_Heap_uncountedObjects_25 : decode b_Heap_uncountedObjects 25 = .ok (.istore_n 1, 1) := by decide +kernel
theorem d_Heap_uncountedObjects_26 : decode b_Heap_uncountedObjects 26 = .ok (.iinc 2 1, 3) := by decide +kernel
theorem d_Heap_uncountedObjects_29 : decode b_Heap_uncountedObjects 29 = .ok (.goto (-25), 3) := by decide +kernel
theorem d_Heap_uncountedObjects_32 : decode b_Heap_uncountedObjects 32 = .ok (.iload_n 1, 1) := by decide +kernel
theorem d_Heap_uncountedObjects_33 : decode b_Heap_uncountedObjects 33 = .ok (.ireturn, 1) := by decide +kernel
theorem d_Heap_freeCells_0 : decode b_Heap_freeCells 0 = .ok (.iconst 0, 1) := by decide +kernel
theorem d_Heap_freeCells_1 : decode b_Heap_freeCells 1 = .ok (.istore_n 1, 1) := by decide +kernel
theorem d_Heap_freeCells_2 : decode b_Heap_freeCells 2 = .ok (.iconst 0, 1) := by decide +kernel
theorem d_Heap_freeCells_3 : decode b_Heap_freeCells 3 = .ok (.istore_n 2, 1) := by decide +kernel
theorem d_Heap_freeCells_4 : decode b_Heap_freeCells 4 = .ok (.iload_n 2, 1) := by decide +kernel
theorem d_Heap_freeCells_5 : decode b_Heap_freeCells 5 = .ok (.bipush 48, 2) := by decide +kernel
theorem d_Heap_freeCells_7 : decode b_Heap_freeCells 7 = .ok (.if_icmp .ge 26, 3) := by decide +kernel
theorem d_Heap_freeCells_10 : decode b_Heap_freeCells 10 = .ok (.iload_n 1, 1) := by decide +kernel
theorem d_Heap_freeCells_11 : decode b_Heap_freeCells 11 = .ok (.aload_n 0, 1) := by decide +kernel
theorem d_Heap_freeCells_12 : decode b_Heap_freeCells 12 = .ok (.getfield 9, 3) := by decide +kernel
theorem d_Heap_freeCells_15 : decode b_Heap_freeCells 15 = .ok (.iload_n 2, 1) := by decide +kernel
theorem d_Heap_freeCells_16 : decode b_Heap_freeCells 16 = .ok (.iaload, 1) := by decide +kernel
theorem d_Heap_freeCells_17 : decode b_Heap_freeCells 17 = .ok (.ifCond .ne 7, 3) := by decide +kernel
theorem d_Heap_freeCells_20 : decode b_Heap_freeCells 20 = .ok (.iconst 1, 1) := by decide +kernel
theorem d_Heap_freeCells_21 : decode b_Heap_freeCells 21 = .ok (.goto 4, 3) := by decide +kernel
theorem d_Heap_freeCells_24 : decode b_Heap_freeCells 24 = .ok (.iconst 0, 1) := by decide +kernel
theorem d_Heap_freeCells_25 : decode b_Heap_freeCells 25 = .ok (.iadd, 1) := by decide +kernel
theorem d_Heap_freeCells_26 : decode b_Heap_freeCells 26 = .ok (.istore_n 1, 1) := by decide +kernel
theorem d_Heap_freeCells_27 : decode b_Heap_freeCells 27 = .ok (.iinc 2 1, 3) := by decide +kernel
theorem d_Heap_freeCells_30 : decode b_Heap_freeCells 30 = .ok (.goto (-26), 3) := by decide +kernel
theorem d_Heap_freeCells_33 : decode b_Heap_freeCells 33 = .ok (.iload_n 1, 1) := by decide +kernel
theorem d_Heap_freeCells_34 : decode b_Heap_freeCells 34 = .ok (.ireturn, 1) := by decide +kernel
end
section
theorem d_Places_init_0 : decode b_Places_init 0 = .ok (.aload_n 0, 1) := by decide +kernel
theorem d_Places_init_1 : decode b_Places_init 1 = .ok (.invokespecial 3, 3) := by decide +kernel
theorem d_Places_init_4 : decode b_Places_init 4 = .ok (.aload_n 0, 1) := by decide +kernel
theorem d_Places_init_5 : decode b_Places_init 5 = .ok (.bipush 8, 2) := by decide +kernel
theorem d_Places_init_7 : decode b_Places_init 7 = .ok (.newarray .int, 2) := by decide +kernel
theorem d_Places_init_9 : decode b_Places_init 9 = .ok (.putfield 9, 3) := by decide +kernel
theorem d_Places_init_12 : decode b_Places_init 12 = .ok (.aload_n 0, 1) := by decide +kernel
theorem d_Places_init_13 : decode b_Places_init 13 = .ok (.iconst 0, 1) := by decide +kernel
theorem d_Places_init_14 : decode b_Places_init 14 = .ok (.putfield 15, 3) := by decide +kernel
theorem d_Places_init_17 : decode b_Places_init 17 = .ok (.return_, 1) := by decide +kernel
theorem d_Places_size_0 : decode b_Places_size 0 = .ok (.aload_n 0, 1) := by decide +kernel
theorem d_Places_size_1 : decode b_Places_size 1 = .ok (.getfield 15, 3) := by decide +kernel
theorem d_Places_size_4 : decode b_Places_size 4 = .ok (.ireturn, 1) := by decide +kernel
theorem d_Places_areFull_0 : decode b_Places_areFull 0 = .ok (.aload_n 0, 1) := by decide +kernel
theorem d_Places_areFull_1 : decode b_Places_areFull 1 = .ok (.getfield 15, 3) := by decide +kernel
theorem d_Places_areFull_4 : decode b_Places_areFull 4 = .ok (.bipush 8, 2) := by decide +kernel
theorem d_Places_areFull_6 : decode b_Places_areFull 6 = .ok (.if_icmp .ne 7, 3) := by decide +kernel
theorem d_Places_areFull_9 : decode b_Places_areFull 9 = .ok (.iconst 1, 1) := by decide +kernel
theorem d_Places_areFull_10 : decode b_Places_areFull 10 = .ok (.goto 4, 3) := by decide +kernel
theorem d_Places_areFull_13 : decode b_Places_areFull 13 = .ok (.iconst 0, 1) := by decide +kernel
theorem d_Places_areFull_14 : decode b_Places_areFull 14 = .ok (.ireturn, 1) := by decide +kernel
theorem d_Places_has_0 : decode b_Places_has 0 = .ok (.iload_n 1, 1) := by decide +kernel
theorem d_Places_has_1 : decode b_Places_has 1 = .ok (.ifCond .lt 15, 3) := by decide +kernel
theorem d_Places_has_4 : decode b_Places_has 4 = .ok (.iload_n 1, 1) := by decide +kernel
theorem d_Places_has_5 : decode b_Places_has 5 = .ok (.aload_n 0, 1) := by decide +kernel
theorem d_Places_has_6 : decode b_Places_has 6 = .ok (.getfield 15, 3) := by decide +kernel
theorem d_Places_has_9 : decode b_Places_has 9 = .ok (.if_icmp .ge 7, 3) := by decide +kernel
theorem d_Places_has_12 : decode b_Places_has 12 = .ok (.iconst 1, 1) := by decide +kernel
theorem d_Places_has_13 : decode b_Places_has 13 = .ok (.goto 4, 3) := by decide +kernel
theorem d_Places_has_16 : decode b_Places_has 16 = .ok (.iconst 0, 1) := by decide +kernel
theorem d_Places_has_17 : decode b_Places_has 17 = .ok (.ireturn, 1) := by decide +kernel
theorem d_Places_at_0 : decode b_Places_at 0 = .ok (.aload_n 0, 1) := by decide +kernel
theorem d_Places_at_1 : decode b_Places_at 1 = .ok (.getfield 9, 3) := by decide +kernel
theorem d_Places_at_4 : decode b_Places_at 4 = .ok (.iload_n 1, 1) := by decide +kernel
theorem d_Places_at_5 : decode b_Places_at 5 = .ok (.iaload, 1) := by decide +kernel
theorem d_Places_at_6 : decode b_Places_at 6 = .ok (.ireturn, 1) := by decide +kernel
theorem d_Places_push_0 : decode b_Places_push 0 = .ok (.aload_n 0, 1) := by decide +kernel
theorem d_Places_push_1 : decode b_Places_push 1 = .ok (.getfield 9, 3) := by decide +kernel
theorem d_Places_push_4 : decode b_Places_push 4 = .ok (.aload_n 0, 1) := by decide +kernel
theorem d_Places_push_5 : decode b_Places_push 5 = .ok (.getfield 15, 3) := by decide +kernel
theorem d_Places_push_8 : decode b_Places_push 8 = .ok (.iload_n 1, 1) := by decide +kernel
theorem d_Places_push_9 : decode b_Places_push 9 = .ok (.iastore, 1) := by decide +kernel
theorem d_Places_push_10 : decode b_Places_push 10 = .ok (.aload_n 0, 1) := by decide +kernel
theorem d_Places_push_11 : decode b_Places_push 11 = .ok (.dup, 1) := by decide +kernel
theorem d_Places_push_12 : decode b_Places_push 12 = .ok (.getfield 15, 3) := by decide +kernel
theorem d_Places_push_15 : decode b_Places_push 15 = .ok (.iconst 1, 1) := by decide +kernel
theorem d_Places_push_16 : decode b_Places_push 16 = .ok (.iadd, 1) := by decide +kernel
theorem d_Places_push_17 : decode b_Places_push 17 = .ok (.putfield 15, 3) := by decide +kernel
theorem d_Places_push_20 : decode b_Places_push 20 = .ok (.iload_n 1, 1) := by decide +kernel
theorem d_Places_push_21 : decode b_Places_push 21 = .ok (.ireturn, 1) := by decide +kernel
theorem d_Places_pop_0 : decode b_Places_pop 0 = .ok (.aload_n 0, 1) := by decide +kernel
theorem d_Places_pop_1 : decode b_Places_pop 1 = .ok (.dup, 1) := by decide +kernel
theorem d_Places_pop_2 : decode b_Places_pop 2 = .ok (.getfield 15, 3) := by decide +kernel
theorem d_Places_pop_5 : decode b_Places_pop 5 = .ok (.iconst 1, 1) := by decide +kernel
theorem d_Places_pop_6 : decode b_Places_pop 6 = .ok (.isub, 1) := by decide +kernel
theorem d_Places_pop_7 : decode b_Places_pop 7 = .ok (.putfield 15, 3) := by decide +kernel
theorem d_Places_pop_10 : decode b_Places_pop 10 = .ok (.aload_n 0, 1) := by decide +kernel
theorem d_Places_pop_11 : decode b_Places_pop 11 = .ok (.getfield 9, 3) := by decide +kernel
theorem d_Places_pop_14 : decode b_Places_pop 14 = .ok (.aload_n 0, 1) := by decide +kernel
theorem d_Places_pop_15 : decode b_Places_pop 15 = .ok (.getfield 15, 3) := by decide +kernel
theorem d_Places_pop_18 : decode b_Places_pop 18 = .ok (.iaload, 1) := by decide +kernel
theorem d_Places_pop_19 : decode b_Places_pop 19 = .ok (.ireturn, 1) := by decide +kernel
theorem d_Places_hold_0 : decode b_Places_hold 0 = .ok (.iconst 0, 1) := by decide +kernel
theorem d_Places_hold_1 : decode b_Places_hold 1 = .ok (.istore_n 2, 1) := by decide +kernel
theorem d_Places_hold_2 : decode b_Places_hold 2 = .ok (.iload_n 2, 1) := by decide +kernel
theorem d_Places_hold_3 : decode b_Places_hold 3 = .ok (.aload_n 0, 1) := by decide +kernel
theorem d_Places_hold_4 : decode b_Places_hold 4 = .ok (.getfield 15, 3) := by decide +kernel
theorem d_Places_hold_7 : decode b_Places_hold 7 = .ok (.if_icmp .ge 21, 3) := by decide +kernel
theorem d_Places_hold_10 : decode b_Places_hold 10 = .ok (.aload_n 0, 1) := by decide +kernel
theorem d_Places_hold_11 : decode b_Places_hold 11 = .ok (.getfield 9, 3) := by decide +kernel
theorem d_Places_hold_14 : decode b_Places_hold 14 = .ok (.iload_n 2, 1) := by decide +kernel
theorem d_Places_hold_15 : decode b_Places_hold 15 = .ok (.iaload, 1) := by decide +kernel
theorem d_Places_hold_16 : decode b_Places_hold 16 = .ok (.iload_n 1, 1) := by decide +kernel
theorem d_Places_hold_17 : decode b_Places_hold 17 = .ok (.if_icmp .ne 5, 3) := by decide +kernel
theorem d_Places_hold_20 : decode b_Places_hold 20 = .ok (.iconst 1, 1) := by decide +kernel
theorem d_Places_hold_21 : decode b_Places_hold 21 = .ok (.ireturn, 1) := by decide +kernel
theorem d_Places_hold_22 : decode b_Places_hold 22 = .ok (.iinc 2 1, 3) := by decide +kernel
theorem d_Places_hold_25 : decode b_Places_hold 25 = .ok (.goto (-23), 3) := by decide +kernel
theorem d_Places_hold_28 : decode b_Places_hold 28 = .ok (.iconst 0, 1) := by decide +kernel
theorem d_Places_hold_29 : decode b_Places_hold 29 = .ok (.ireturn, 1) := by decide +kernel
end
section
theorem d_Entries_init_0 : decode b_Entries_init 0 = .ok (.aload_n 0, 1) := by decide +kernel
theorem d_Entries_init_1 : decode b_Entries_init 1 = .ok (.invokespecial 3, 3) := by decide +kernel
theorem d_Entries_init_4 : decode b_Entries_init 4 = .ok (.aload_n 0, 1) := by decide +kernel
theorem d_Entries_init_5 : decode b_Entries_init 5 = .ok (.iconst 5, 1) := by decide +kernel
theorem d_Entries_init_6 : decode b_Entries_init 6 = .ok (.newarray .int, 2) := by decide +kernel
theorem d_Entries_init_8 : decode b_Entries_init 8 = .ok (.putfield 9, 3) := by decide +kernel
theorem d_Entries_init_11 : decode b_Entries_init 11 = .ok (.aload_n 0, 1) := by decide +kernel
theorem d_Entries_init_12 : decode b_Entries_init 12 = .ok (.iconst 5, 1) := by decide +kernel
theorem d_Entries_init_13 : decode b_Entries_init 13 = .ok (.iconst 4, 1) := by decide +kernel
theorem d_Entries_init_14 : decode b_Entries_init 14 = .ok (.multianewarray 15 2, 4) := by decide +kernel
theorem d_Entries_init_18 : decode b_Entries_init 18 = .ok (.putfield 17, 3) := by decide +kernel
theorem d_Entries_init_21 : decode b_Entries_init 21 = .ok (.aload_n 0, 1) := by decide +kernel
theorem d_Entries_init_22 : decode b_Entries_init 22 = .ok (.iconst 0, 1) := by decide +kernel
theorem d_Entries_init_23 : decode b_Entries_init 23 = .ok (.putfield 20, 3) := by decide +kernel
theorem d_Entries_init_26 : decode b_Entries_init 26 = .ok (.return_, 1) := by decide +kernel
theorem d_Entries_size_0 : decode b_Entries_size 0 = .ok (.aload_n 0, 1) := by decide +kernel
theorem d_Entries_size_1 : decode b_Entries_size 1 = .ok (.getfield 20, 3) := by decide +kernel
theorem d_Entries_size_4 : decode b_Entries_size 4 = .ok (.ireturn, 1) := by decide +kernel
theorem d_Entries_areFull_0 : decode b_Entries_areFull 0 = .ok (.aload_n 0, 1) := by decide +kernel
theorem d_Entries_areFull_1 : decode b_Entries_areFull 1 = .ok (.getfield 20, 3) := by decide +kernel
theorem d_Entries_areFull_4 : decode b_Entries_areFull 4 = .ok (.iconst 5, 1) := by decide +kernel
theorem d_Entries_areFull_5 : decode b_Entries_areFull 5 = .ok (.if_icmp .ne 7, 3) := by decide +kernel
theorem d_Entries_areFull_8 : decode b_Entries_areFull 8 = .ok (.iconst 1, 1) := by decide +kernel
theorem d_Entries_areFull_9 : decode b_Entries_areFull 9 = .ok (.goto 4, 3) := by decide +kernel
theorem d_Entries_areFull_12 : decode b_Entries_areFull 12 = .ok (.iconst 0, 1) := by decide +kernel
theorem d_Entries_areFull_13 : decode b_Entries_areFull 13 = .ok (.ireturn, 1) := by decide +kernel
theorem d_Entries_has_0 : decode b_Entries_has 0 = .ok (.iload_n 1, 1) := by decide +kernel
theorem d_Entries_has_1 : decode b_Entries_has 1 = .ok (.ifCond .lt 15, 3) := by decide +kernel
theorem d_Entries_has_4 : decode b_Entries_has 4 = .ok (.iload_n 1, 1) := by decide +kernel
theorem d_Entries_has_5 : decode b_Entries_has 5 = .ok (.aload_n 0, 1) := by decide +kernel
theorem d_Entries_has_6 : decode b_Entries_has 6 = .ok (.getfield 20, 3) := by decide +kernel
theorem d_Entries_has_9 : decode b_Entries_has 9 = .ok (.if_icmp .ge 7, 3) := by decide +kernel
theorem d_Entries_has_12 : decode b_Entries_has 12 = .ok (.iconst 1, 1) := by decide +kernel
theorem d_Entries_has_13 : decode b_Entries_has 13 = .ok (.goto 4, 3) := by decide +kernel
theorem d_Entries_has_16 : decode b_Entries_has 16 = .ok (.iconst 0, 1) := by decide +kernel
theorem d_Entries_has_17 : decode b_Entries_has 17 = .ok (.ireturn, 1) := by decide +kernel
theorem d_Entries_tellOf_0 : decode b_Entries_tellOf 0 = .ok (.iconst 0, 1) := by decide +kernel
theorem d_Entries_tellOf_1 : decode b_Entries_tellOf 1 = .ok (.istore_n 2, 1) := by decide +kernel
theorem d_Entries_tellOf_2 : decode b_Entries_tellOf 2 = .ok (.iload_n 2, 1) := by decide +kernel
theorem d_Entries_tellOf_3 : decode b_Entries_tellOf 3 = .ok (.aload_n 0, 1) := by decide +kernel
theorem d_Entries_tellOf_4 : decode b_Entries_tellOf 4 = .ok (.getfield 20, 3) := by decide +kernel
theorem d_Entries_tellOf_7 : decode b_Entries_tellOf 7 = .ok (.if_icmp .ge 21, 3) := by decide +kernel
theorem d_Entries_tellOf_10 : decode b_Entries_tellOf 10 = .ok (.aload_n 0, 1) := by decide +kernel
theorem d_Entries_tellOf_11 : decode b_Entries_tellOf 11 = .ok (.getfield 9, 3) := by decide +kernel
theorem d_Entries_tellOf_14 : decode b_Entries_tellOf 14 = .ok (.iload_n 2, 1) := by decide +kernel
theorem d_Entries_tellOf_15 : decode b_Entries_tellOf 15 = .ok (.iaload, 1) := by decide +kernel
theorem d_Entries_tellOf_16 : decode b_Entries_tellOf 16 = .ok (.iload_n 1, 1) := by decide +kernel
theorem d_Entries_tellOf_17 : decode b_Entries_tellOf 17 = .ok (.if_icmp .ne 5, 3) := by decide +kernel
theorem d_Entries_tellOf_20 : decode b_Entries_tellOf 20 = .ok (.iconst 1, 1) := by decide +kernel
theorem d_Entries_tellOf_21 : decode b_Entries_tellOf 21 = .ok (.ireturn, 1) := by decide +kernel
theorem d_Entries_tellOf_22 : decode b_Entries_tellOf 22 = .ok (.iinc 2 1, 3) := by decide +kernel
theorem d_Entries_tellOf_25 : decode b_Entries_tellOf 25 = .ok (.goto (-23), 3) := by decide +kernel
theorem d_Entries_tellOf_28 : decode b_Entries_tellOf 28 = .ok (.iconst 0, 1) := by decide +kernel
theorem d_Entries_tellOf_29 : decode b_Entries_tellOf 29 = .ok (.ireturn, 1) := by decide +kernel
theorem d_Entries_objectOf_0 : decode b_Entries_objectOf 0 = .ok (.aload_n 0, 1) := by decide +kernel
theorem d_Entries_objectOf_1 : decode b_Entries_objectOf 1 = .ok (.getfield 9, 3) := by decide +kernel
theorem d_Entries_objectOf_4 : decode b_Entries_objectOf 4 = .ok (.iload_n 1, 1) := by decide +kernel
theorem d_Entries_objectOf_5 : decode b_Entries_objectOf 5 = .ok (.iaload, 1) := by decide +kernel
theorem d_Entries_objectOf_6 : decode b_Entries_objectOf 6 = .ok (.ireturn, 1) := by decide +kernel
theorem d_Entries_before_0 : decode b_Entries_before 0 = .ok (.aload_n 0, 1) := by decide +kernel
theorem d_Entries_before_1 : decode b_Entries_before 1 = .ok (.getfield 17, 3) := by decide +kernel
theorem d_Entries_before_4 : decode b_Entries_before 4 = .ok (.iload_n 1, 1) := by decide +kernel
theorem d_Entries_before_5 : decode b_Entries_before 5 = .ok (.aaload, 1) := by decide +kernel
theorem d_Entries_before_6 : decode b_Entries_before 6 = .ok (.iload_n 2, 1) := by decide +kernel
theorem d_Entries_before_7 : decode b_Entries_before 7 = .ok (.iaload, 1) := by decide +kernel
theorem d_Entries_before_8 : decode b_Entries_before 8 = .ok (.ireturn, 1) := by decide +kernel
theorem d_Entries_setBefore_0 : decode b_Entries_setBefore 0 = .ok (.aload_n 0, 1) := by decide +kernel
theorem d_Entries_setBefore_1 : decode b_Entries_setBefore 1 = .ok (.getfield 17, 3) := by decide +kernel
theorem d_Entries_setBefore_4 : decode b_Entries_setBefore 4 = .ok (.iload_n 1, 1) := by decide +kernel
theorem d_Entries_setBefore_5 : decode b_Entries_setBefore 5 = .ok (.aaload, 1) := by decide +kernel
theorem d_Entries_setBefore_6 : decode b_Entries_setBefore 6 = .ok (.iload_n 2, 1) := by decide +kernel
theorem d_Entries_setBefore_7 : decode b_Entries_setBefore 7 = .ok (.iload_n 3, 1) := by decide +kernel
theorem d_Entries_setBefore_8 : decode b_Entries_setBefore 8 = .ok (.iastore, 1) := by decide +kernel
theorem d_Entries_setBefore_9 : decode b_Entries_setBefore 9 = .ok (.return_, 1) := by decide +kernel
theorem d_Entries_open_0 : decode b_Entries_open 0 = .ok (.aload_n 0, 1) := by decide +kernel
theorem d_Entries_open_1 : decode b_Entries_open 1 = .ok (.getfield 20, 3) := by decide +kernel
theorem d_Entries_open_4 : decode b_Entries_open 4 = .ok (.istore_n 2, 1) := by decide +kernel
theorem d_Entries_open_5 : decode b_Entries_open 5 = .ok (.aload_n 0, 1) := by decide +kernel
theorem d_Entries_open_6 : decode b_Entries_open 6 = .ok (.getfield 9, 3) := by decide +kernel
theorem d_Entries_open_9 : decode b_Entries_open 9 = .ok (.iload_n 2, 1) := by decide +kernel
theorem d_Entries_open_10 : decode b_Entries_open 10 = .ok (.iload_n 1, 1) := by decide +kernel
theorem d_Entries_open_11 : decode b_Entries_open 11 = .ok (.iastore, 1) := by decide +kernel
theorem d_Entries_open_12 : decode b_Entries_open 12 = .ok (.aload_n 0, 1) := by decide +kernel
theorem d_Entries_open_13 : decode b_Entries_open 13 = .ok (.dup, 1) := by decide +kernel
theorem d_Entries_open_14 : decode b_Entries_open 14 = .ok (.getfield 20, 3) := by decide +kernel
theorem d_Entries_open_17 : decode b_Entries_open 17 = .ok (.iconst 1, 1) := by decide +kernel
theorem d_Entries_open_18 : decode b_Entries_open 18 = .ok (.iadd, 1) := by decide +kernel
theorem d_Entries_open_19 : decode b_Entries_open 19 = .ok (.putfield 20, 3) := by decide +kernel
theorem d_Entries_open_22 : decode b_Entries_open 22 = .ok (.iload_n 2, 1) := by decide +kernel
theorem d_Entries_open_23 : decode b_Entries_open 23 = .ok (.ireturn, 1) := by decide +kernel
theorem d_Entries_clear_0 : decode b_Entries_clear 0 = .ok (.aload_n 0, 1) := by decide +kernel
theorem d_Entries_clear_1 : decode b_Entries_clear 1 = .ok (.iconst 0, 1) := by decide +kernel
theorem d_Entries_clear_2 : decode b_Entries_clear 2 = .ok (.putfield 20, 3) := by decide +kernel
theorem d_Entries_clear_5 : decode b_Entries_clear 5 = .ok (.return_, 1) := by decide +kernel
end
section
theorem d_X_init_0 : decode b_X_init 0 = .ok (.aload_n 0, 1) := by decide +kernel
theorem d_X_init_1 : decode b_X_init 1 = .ok (.invokespecial 1, 3) := by decide +kernel
theorem d_X_init_4 : decode b_X_init 4 = .ok (.aload_n 0, 1) := by decide +kernel
theorem d_X_init_5 : decode b_X_init 5 = .ok (.new 7, 3) := by decide +kernel
theorem d_X_init_8 : decode b_X_init 8 = .ok (.dup, 1) := by decide +kernel
theorem d_X_init_9 : decode b_X_init 9 = .ok (.invokespecial 9, 3) := by decide +kernel
theorem d_X_init_12 : decode b_X_init 12 = .ok (.putfield 10, 3) := by decide +kernel
theorem d_X_init_15 : decode b_X_init 15 = .ok (.aload_n 0, 1) := by decide +kernel
theorem d_X_init_16 : decode b_X_init 16 = .ok (.new 16, 3) := by decide +kernel
theorem d_X_init_19 : decode b_X_init 19 = .ok (.dup, 1) := by decide +kernel
theorem d_X_init_20 : decode b_X_init 20 = .ok (.invokespecial 18, 3) := by decide +kernel
theorem d_X_init_23 : decode b_X_init 23 = .ok (.putfield 19, 3) := by decide +kernel
theorem d_X_init_26 : decode b_X_init 26 = .ok (.aload_n 0, 1) := by decide +kernel
theorem d_X_init_27 : decode b_X_init 27 = .ok (.new 23, 3) := by decide +kernel
theorem d_X_init_30 : decode b_X_init 30 = .ok (.dup, 1) := by decide +kernel
theorem d_X_init_31 : decode b_X_init 31 = .ok (.invokespecial 25, 3) := by decide +kernel
theorem d_X_init_34 : decode b_X_init 34 = .ok (.putfield 26, 3) := by decide +kernel
theorem d_X_init_37 : decode b_X_init 37 = .ok (.aload_n 0, 1) := by decide +kernel
theorem d_X_init_38 : decode b_X_init 38 = .ok (.iconst 0, 1) := by decide +kernel
theorem d_X_init_39 : decode b_X_init 39 = .ok (.putfield 30, 3) := by decide +kernel
theorem d_X_init_42 : decode b_X_init 42 = .ok (.return_, 1) := by decide +kernel
theorem d_X_make_0 : decode b_X_make 0 = .ok (.iload_n 1, 1) := by decide +kernel
theorem d_X_make_1 : decode b_X_make 1 = .ok (.iconst 1, 1) := by decide +kernel
theorem d_X_make_2 : decode b_X_make 2 = .ok (.if_icmp .lt 8, 3) := by decide +kernel
theorem d_X_make_5 : decode b_X_make 5 = .ok (.iload_n 1, 1) := by decide +kernel
theorem d_X_make_6 : decode b_X_make 6 = .ok (.iconst 4, 1) := by decide +kernel
theorem d_X_make_7 : decode b_X_make 7 = .ok (.if_icmp .le 5, 3) := by decide +kernel
theorem d_X_make_10 : decode b_X_make 10 = .ok (.iconst (-1), 1) := by decide +kernel
theorem d_X_make_11 : decode b_X_make 11 = .ok (.ireturn, 1) := by decide +kernel
theorem d_X_make_12 : decode b_X_make 12 = .ok (.aload_n 0, 1) := by decide +kernel
theorem d_X_make_13 : decode b_X_make 13 = .ok (.getfield 19, 3) := by decide +kernel
theorem d_X_make_16 : decode b_X_make 16 = .ok (.invokevirtual 34, 3) := by decide +kernel
theorem d_X_make_19 : decode b_X_make 19 = .ok (.ifCond .eq 6, 3) := by decide +kernel
theorem d_X_make_22 : decode b_X_make 22 = .ok (.bipush (-2), 2) := by decide +kernel
theorem d_X_make_24 : decode b_X_make 24 = .ok (.ireturn, 1) := by decide +kernel
theorem d_X_make_25 : decode b_X_make 25 = .ok (.aload_n 0, 1) := by decide +kernel
theorem d_X_make_26 : decode b_X_make 26 = .ok (.getfield 10, 3) := by decide +kernel
theorem d_X_make_29 : decode b_X_make 29 = .ok (.iload_n 1, 1) := by decide +kernel
theorem d_X_make_30 : decode b_X_make 30 = .ok (.iconst 1, 1) := by decide +kernel
theorem d_X_make_31 : decode b_X_make 31 = .ok (.iadd, 1) := by decide +kernel
theorem d_X_make_32 : decode b_X_make 32 = .ok (.invokevirtual 38, 3) := by decide +kernel
theorem d_X_make_35 : decode b_X_make 35 = .ok (.istore_n 2, 1) := by decide +kernel
theorem d_X_make_36 : decode b_X_make 36 = .ok (.iload_n 2, 1) := by decide +kernel
theorem d_X_make_37 : decode b_X_make 37 = .ok (.iconst (-1), 1) := by decide +kernel
theorem d_X_make_38 : decode b_X_make 38 = .ok (.if_icmp .ne 19, 3) := by decide +kernel
theorem d_X_make_41 : decode b_X_make 41 = .ok (.aload_n 0, 1) := by decide +kernel
theorem d_X_make_42 : decode b_X_make 42 = .ok (.invokevirtual 42, 3) := by decide +kernel
theorem d_X_make_45 : decode b_X_make 45 = .ok (.pop, 1) := by decide +kernel
theorem d_X_make_46 : decode b_X_make 46 = .ok (.aload_n 0, 1) := by decide +kernel
theorem d_X_make_47 : decode b_X_make 47 = .ok (.getfield 10, 3) := by decide +kernel
theorem d_X_make_50 : decode b_X_make 50 = .ok (.iload_n 1, 1) := by decide +kernel
theorem d_X_make_51 : decode b_X_make 51 = .ok (.iconst 1, 1) := by decide +kernel
theorem d_X_make_52 : decode b_X_make 52 = .ok (.iadd, 1) := by decide +kernel
theorem d_X_make_53 : decode b_X_make 53 = .ok (.invokevirtual 38, 3) := by decide +kernel
theorem d_X_make_56 : decode b_X_make 56 = .ok (.istore_n 2, 1) := by decide +kernel
theorem d_X_make_57 : decode b_X_make 57 = .ok (.iload_n 2, 1) := by decide +kernel
theorem d_X_make_58 : decode b_X_make 58 = .ok (.iconst (-1), 1) := by decide +kernel
theorem d_X_make_59 : decode b_X_make 59 = .ok (.if_icmp .ne 6, 3) := by decide +kernel
theorem d_X_make_62 : decode b_X_make 62 = .ok (.bipush (-3), 2) := by decide +kernel
theorem d_X_make_64 : decode b_X_make 64 = .ok (.ireturn, 1) := by decide +kernel
theorem d_X_make_65 : decode b_X_make 65 = .ok (.aload_n 0, 1) := by decide +kernel
theorem d_X_make_66 : decode b_X_make 66 = .ok (.getfield 19, 3) := by decide +kernel
theorem d_X_make_69 : decode b_X_make 69 = .ok (.aload_n 0, 1) := by decide +kernel
theorem d_X_make_70 : decode b_X_make 70 = .ok (.getfield 10, 3) := by decide +kernel
theorem d_X_make_73 : decode b_X_make 73 = .ok (.iload_n 2, 1) := by decide +kernel
theorem d_X_make_74 : decode b_X_make 74 = .ok (.iload_n 1, 1) := by decide +kernel
theorem d_X_make_75 : decode b_X_make 75 = .ok (.invokevirtual 46, 3) := by decide +kernel
theorem d_X_make_78 : decode b_X_make 78 = .ok (.invokevirtual 50, 3) := by decide +kernel
theorem d_X_make_81 : decode b_X_make 81 = .ok (.ireturn, 1) := by decide +kernel
theorem d_X_copy_0 : decode b_X_copy 0 = .ok (.aload_n 0, 1) := by decide +kernel
theorem d_X_copy_1 : decode b_X_copy 1 = .ok (.getfield 19, 3) := by decide +kernel
theorem d_X_copy_4 : decode b_X_copy 4 = .ok (.iload_n 1, 1) := by decide +kernel
theorem d_X_copy_5 : decode b_X_copy 5 = .ok (.invokevirtual 53, 3) := by decide +kernel
theorem d_X_copy_8 : decode b_X_copy 8 = .ok (.ifCond .ne 5, 3) := by decide +kernel
theorem d_X_copy_11 : decode b_X_copy 11 = .ok (.iconst (-1), 1) := by decide +kernel
theorem d_X_copy_12 : decode b_X_copy 12 = .ok (.ireturn, 1) := by decide +kernel
theorem d_X_copy_13 : decode b_X_copy 13 = .ok (.aload_n 0, 1) := by decide +kernel
theorem d_X_copy_14 : decode b_X_copy 14 = .ok (.getfield 19, 3) := by decide +kernel
theorem d_X_copy_17 : decode b_X_copy 17 = .ok (.invokevirtual 34, 3) := by decide +kernel
theorem d_X_copy_20 : decode b_X_copy 20 = .ok (.ifCond .eq 6, 3) := by decide +kernel
theorem d_X_copy_23 : decode b_X_copy 23 = .ok (.bipush (-2), 2) := by decide +kernel
theorem d_X_copy_25 : decode b_X_copy 25 = .ok (.ireturn, 1) := by decide +kernel
theorem d_X_copy_26 : decode b_X_copy 26 = .ok (.aload_n 0, 1) := by decide +kernel
theorem d_X_copy_27 : decode b_X_copy 27 = .ok (.getfield 19, 3) := by decide +kernel
theorem d_X_copy_30 : decode b_X_copy 30 = .ok (.aload_n 0, 1) := by decide +kernel
theorem d_X_copy_31 : decode b_X_copy 31 = .ok (.getfield 19, 3) := by decide +kernel
theorem d_X_copy_34 : decode b_X_copy 34 = .ok (.iload_n 1, 1) := by decide +kernel
theorem d_X_copy_35 : decode b_X_copy 35 = .ok (.invokevirtual 57, 3) := by decide +kernel
theorem d_X_copy_38 : decode b_X_copy 38 = .ok (.invokevirtual 50, 3) := by decide +kernel
theorem d_X_copy_41 : decode b_X_copy 41 = .ok (.ireturn, 1) := by decide +kernel
theorem d_X_load_0 : decode b_X_load 0 = .ok (.aload_n 0, 1) := by decide +kernel
theorem d_X_load_1 : decode b_X_load 1 = .ok (.iload_n 1, 1) := by decide +kernel
theorem d_X_load_2 : decode b_X_load 2 = .ok (.invokevirtual 60, 3) := by decide +kernel
theorem d_X_load_5 : decode b_X_load 5 = .ok (.istore_n 3, 1) := by decide +kernel
theorem d_X_load_6 : decode b_X_load 6 = .ok (.aload_n 0, 1) := by decide +kernel
theorem d_X_load_7 : decode b_X_load 7 = .ok (.getfield 10, 3) := by decide +kernel
theorem d_X_load_10 : decode b_X_load 10 = .ok (.iload_n 3, 1) := by decide +kernel
theorem d_X_load_11 : decode b_X_load 11 = .ok (.iload_n 2, 1) := by decide +kernel
theorem d_X_load_12 : decode b_X_load 12 = .ok (.invokevirtual 63, 3) := by decide +kernel
theorem d_X_load_15 : decode b_X_load 15 = .ok (.ifCond .ne 5, 3) := by decide +kernel
theorem d_X_load_18 : decode b_X_load 18 = .ok (.iconst (-1), 1) := by decide +kernel
theorem d_X_load_19 : decode b_X_load 19 = .ok (.ireturn, 1) := by decide +kernel
theorem d_X_load_20 : decode b_X_load 20 = .ok (.aload_n 0, 1) := by decide +kernel
theorem d_X_load_21 : decode b_X_load 21 = .ok (.getfield 19, 3) := by decide +kernel
theorem d_X_load_24 : decode b_X_load 24 = .ok (.invokevirtual 34, 3) := by decide +kernel
theorem d_X_load_27 : decode b_X_load 27 = .ok (.ifCond .eq 6, 3) := by decide +kernel
theorem d_X_load_30 : decode b_X_load 30 = .ok (.bipush (-2), 2) := by decide +kernel
theorem d_X_load_32 : decode b_X_load 32 = .ok (.ireturn, 1) := by decide +kernel
theorem d_X_load_33 : decode b_X_load 33 = .ok (.aload_n 0, 1) := by decide +kernel
theorem d_X_load_34 : decode b_X_load 34 = .ok (.getfield 19, 3) := by decide +kernel
theorem d_X_load_37 : decode b_X_load 37 = .ok (.aload_n 0, 1) := by decide +kernel
theorem d_X_load_38 : decode b_X_load 38 = .ok (.getfield 10, 3) := by decide +kernel
theorem d_X_load_41 : decode b_X_load 41 = .ok (.iload_n 3, 1) := by decide +kernel
theorem d_X_load_42 : decode b_X_load 42 = .ok (.iload_n 2, 1) := by decide +kernel
theorem d_X_load_43 : decode b_X_load 43 = .ok (.invokevirtual 67, 3) := by decide +kernel
theorem d_X_load_46 : decode b_X_load 46 = .ok (.invokevirtual 50, 3) := by decide +kernel
theorem d_X_load_49 : decode b_X_load 49 = .ok (.ireturn, 1) := by decide +kernel
theorem d_X_store_0 : decode b_X_store 0 = .ok (.aload_n 0, 1) := by decide +kernel
theorem d_X_store_1 : decode b_X_store 1 = .ok (.iload_n 1, 1) := by decide +kernel
theorem d_X_store_2 : decode b_X_store 2 = .ok (.invokevirtual 60, 3) := by decide +kernel
theorem d_X_store_5 : decode b_X_store 5 = .ok (.istore 4, 2) := by decide +kernel
theorem d_X_store_7 : decode b_X_store 7 = .ok (.aload_n 0, 1) := by decide +kernel
theorem d_X_store_8 : decode b_X_store 8 = .ok (.getfield 10, 3) := by decide +kernel
theorem d_X_store_11 : decode b_X_store 11 = .ok (.iload 4, 2) := by decide +kernel
theorem d_X_store_13 : decode b_X_store 13 = .ok (.iload_n 2, 1) := by decide +kernel
theorem d_X_store_14 : decode b_X_store 14 = .ok (.invokevirtual 63, 3) := by decide +kernel
theorem d_X_store_17 : decode b_X_store 17 = .ok (.ifCond .ne 5, 3) := by decide +kernel
theorem d_X_store_20 : decode b_X_store 20 = .ok (.iconst 0, 1) := by decide +kernel
theorem d_X_store_21 : decode b_X_store 21 = .ok (.ireturn, 1) := by decide +kernel
theorem d_X_store_22 : decode b_X_store 22 = .ok (.iload_n 3, 1) := by decide +kernel
theorem d_X_store_23 : decode b_X_store 23 = .ok (.iconst (-1), 1) := by decide +kernel
theorem d_X_store_24 : decode b_X_store 24 = .ok (.if_icmp .eq 16, 3) := by decide +kernel
theorem d_X_store_27 : decode b_X_store 27 = .ok (.aload_n 0, 1) := by decide +kernel
theorem d_X_store_28 : decode b_X_store 28 = .ok (.getfield 19, 3) := by decide +kernel
theorem d_X_store_31 : decode b_X_store 31 = .ok (.iload_n 3, 1) := by decide +kernel
theorem d_X_store_32 : decode b_X_store 32 = .ok (.invokevirtual 53, 3) := by decide +kernel
theorem d_X_store_35 : decode b_X_store 35 = .ok (.ifCond .ne 5, 3) := by decide +kernel
theorem d_X_store_38 : decode b_X_store 38 = .ok (.iconst 0, 1) := by decide +kernel
theorem d_X_store_39 : decode b_X_store 39 = .ok (.ireturn, 1) := by decide +kernel
theorem d_X_store_40 : decode b_X_store 40 = .ok (.aload_n 0, 1) := by decide +kernel
theorem d_X_store_41 : decode b_X_store 41 = .ok (.iload 4, 2) := by decide +kernel
theorem d_X_store_43 : decode b_X_store 43 = .ok (.invokevirtual 70, 3) := by decide +kernel
theorem d_X_store_46 : decode b_X_store 46 = .ok (.aload_n 0, 1) := by decide +kernel
theorem d_X_store_47 : decode b_X_store 47 = .ok (.getfield 10, 3) := by decide +kernel
theorem d_X_store_50 : decode b_X_store 50 = .ok (.iload 4, 2) := by decide +kernel
theorem d_X_store_52 : decode b_X_store 52 = .ok (.iload_n 2, 1) := by decide +kernel
theorem d_X_store_53 : decode b_X_store 53 = .ok (.iload_n 3, 1) := by decide +kernel
theorem d_X_store_54 : decode b_X_store 54 = .ok (.iconst (-1), 1) := by decide +kernel
theorem d_X_store_55 : decode b_X_store 55 = .ok (.if_icmp .ne 7, 3) := by decide +kernel
theorem d_X_store_58 : decode b_X_store 58 = .ok (.iconst 0, 1) := by decide +kernel
theorem d_X_store_59 : decode b_X_store 59 = .ok (.goto 11, 3) := by decide +kernel
theorem d_X_store_62 : decode b_X_store 62 = .ok (.aload_n 0, 1) := by decide +kernel
theorem d_X_store_63 : decode b_X_store 63 = .ok (.getfield 19, 3) := by decide +kernel
theorem d_X_store_66 : decode b_X_store 66 = .ok (.iload_n 3, 1) := by decide +kernel
theorem d_X_store_67 : decode b_X_store 67 = .ok (.invokevirtual 57, 3) := by decide +kernel
theorem d_X_store_70 : decode b_X_store 70 = .ok (.invokevirtual 74, 3) := by decide +kernel
theorem d_X_store_73 : decode b_X_store 73 = .ok (.iconst 1, 1) := by decide +kernel
theorem d_X_store_74 : decode b_X_store 74 = .ok (.ireturn, 1) := by decide +kernel
theorem d_X_drop_0 : decode b_X_drop 0 = .ok (.aload_n 0, 1) := by decide +kernel
theorem d_X_drop_1 : decode b_X_drop 1 = .ok (.getfield 19, 3) := by decide +kernel
theorem d_X_drop_4 : decode b_X_drop 4 = .ok (.invokevirtual 78, 3) := by decide +kernel
theorem d_X_drop_7 : decode b_X_drop 7 = .ok (.ifCond .ne 5, 3) := by decide +kernel
theorem d_X_drop_10 : decode b_X_drop 10 = .ok (.iconst (-1), 1) := by decide +kernel
theorem d_X_drop_11 : decode b_X_drop 11 = .ok (.ireturn, 1) := by decide +kernel
theorem d_X_drop_12 : decode b_X_drop 12 = .ok (.aload_n 0, 1) := by decide +kernel
theorem d_X_drop_13 : decode b_X_drop 13 = .ok (.getfield 19, 3) := by decide +kernel
theorem d_X_drop_16 : decode b_X_drop 16 = .ok (.invokevirtual 81, 3) := by decide +kernel
theorem d_X_drop_19 : decode b_X_drop 19 = .ok (.ireturn, 1) := by decide +kernel
theorem d_X_reckon_0 : decode b_X_reckon 0 = .ok (.aload_n 0, 1) := by decide +kernel
theorem d_X_reckon_1 : decode b_X_reckon 1 = .ok (.invokevirtual 42, 3) := by decide +kernel
theorem d_X_reckon_4 : decode b_X_reckon 4 = .ok (.ireturn, 1) := by decide +kernel
theorem d_X_stack_0 : decode b_X_stack 0 = .ok (.aload_n 0, 1) := by decide +kernel
theorem d_X_stack_1 : decode b_X_stack 1 = .ok (.getfield 19, 3) := by decide +kernel
theorem d_X_stack_4 : decode b_X_stack 4 = .ok (.invokevirtual 78, 3) := by decide +kernel
theorem d_X_stack_7 : decode b_X_stack 7 = .ok (.ireturn, 1) := by decide +kernel
theorem d_X_held_0 : decode b_X_held 0 = .ok (.aload_n 0, 1) := by decide +kernel
theorem d_X_held_1 : decode b_X_held 1 = .ok (.getfield 19, 3) := by decide +kernel
theorem d_X_held_4 : decode b_X_held 4 = .ok (.iload_n 1, 1) := by decide +kernel
theorem d_X_held_5 : decode b_X_held 5 = .ok (.invokevirtual 53, 3) := by decide +kernel
theorem d_X_held_8 : decode b_X_held 8 = .ok (.ifCond .eq 14, 3) := by decide +kernel
theorem d_X_held_11 : decode b_X_held 11 = .ok (.aload_n 0, 1) := by decide +kernel
theorem d_X_held_12 : decode b_X_held 12 = .ok (.getfield 19, 3) := by decide +kernel
theorem d_X_held_15 : decode b_X_held 15 = .ok (.iload_n 1, 1) := by decide +kernel
theorem d_X_held_16 : decode b_X_held 16 = .ok (.invokevirtual 57, 3) := by decide +kernel
theorem d_X_held_19 : decode b_X_held 19 = .ok (.goto 4, 3) := by decide +kernel
theorem d_X_held_22 : decode b_X_held 22 = .ok (.iconst (-1), 1) := by decide +kernel
theorem d_X_held_23 : decode b_X_held 23 = .ok (.ireturn, 1) := by decide +kernel
theorem d_X_alive_0 : decode b_X_alive 0 = .ok (.aload_n 0, 1) := by decide +kernel
theorem d_X_alive_1 : decode b_X_alive 1 = .ok (.getfield 10, 3) := by decide +kernel
theorem d_X_alive_4 : decode b_X_alive 4 = .ok (.invokevirtual 84, 3) := by decide +kernel
theorem d_X_alive_7 : decode b_X_alive 7 = .ok (.ireturn, 1) := by decide +kernel
theorem d_X_count_0 : decode b_X_count 0 = .ok (.aload_n 0, 1) := by decide +kernel
theorem d_X_count_1 : decode b_X_count 1 = .ok (.getfield 10, 3) := by decide +kernel
theorem d_X_count_4 : decode b_X_count 4 = .ok (.iload_n 1, 1) := by decide +kernel
theorem d_X_count_5 : decode b_X_count 5 = .ok (.invokevirtual 87, 3) := by decide +kernel
theorem d_X_count_8 : decode b_X_count 8 = .ok (.istore_n 2, 1) := by decide +kernel
theorem d_X_count_9 : decode b_X_count 9 = .ok (.iload_n 2, 1) := by decide +kernel
theorem d_X_count_10 : decode b_X_count 10 = .ok (.iconst (-1), 1) := by decide +kernel
theorem d_X_count_11 : decode b_X_count 11 = .ok (.if_icmp .ne 8, 3) := by decide +kernel
theorem d_X_count_14 : decode b_X_count 14 = .ok (.bipush (-3), 2) := by decide +kernel
theorem d_X_count_16 : decode b_X_count 16 = .ok (.goto 11, 3) := by decide +kernel
theorem d_X_count_19 : decode b_X_count 19 = .ok (.aload_n 0, 1) := by decide +kernel
theorem d_X_count_20 : decode b_X_count 20 = .ok (.getfield 10, 3) := by decide +kernel
theorem d_X_count_23 : decode b_X_count 23 = .ok (.iload_n 2, 1) := by decide +kernel
theorem d_X_count_24 : decode b_X_count 24 = .ok (.invokevirtual 90, 3) := by decide +kernel
theorem d_X_count_27 : decode b_X_count 27 = .ok (.ireturn, 1) := by decide +kernel
theorem d_X_cell_0 : decode b_X_cell 0 = .ok (.aload_n 0, 1) := by decide +kernel
theorem d_X_cell_1 : decode b_X_cell 1 = .ok (.getfield 10, 3) := by decide +kernel
theorem d_X_cell_4 : decode b_X_cell 4 = .ok (.iload_n 1, 1) := by decide +kernel
theorem d_X_cell_5 : decode b_X_cell 5 = .ok (.invokevirtual 87, 3) := by decide +kernel
theorem d_X_cell_8 : decode b_X_cell 8 = .ok (.istore_n 2, 1) := by decide +kernel
theorem d_X_cell_9 : decode b_X_cell 9 = .ok (.iload_n 2, 1) := by decide +kernel
theorem d_X_cell_10 : decode b_X_cell 10 = .ok (.iconst (-1), 1) := by decide +kernel
theorem d_X_cell_11 : decode b_X_cell 11 = .ok (.if_icmp .ne 8, 3) := by decide +kernel
theorem d_X_cell_14 : decode b_X_cell 14 = .ok (.bipush (-3), 2) := by decide +kernel
theorem d_X_cell_16 : decode b_X_cell 16 = .ok (.goto 4, 3) := by decide +kernel
theorem d_X_cell_19 : decode b_X_cell 19 = .ok (.iload_n 2, 1) := by decide +kernel
theorem d_X_cell_20 : decode b_X_cell 20 = .ok (.ireturn, 1) := by decide +kernel
theorem d_X_slot_0 : decode b_X_slot 0 = .ok (.aload_n 0, 1) := by decide +kernel
theorem d_X_slot_1 : decode b_X_slot 1 = .ok (.getfield 10, 3) := by decide +kernel
theorem d_X_slot_4 : decode b_X_slot 4 = .ok (.iload_n 1, 1) := by decide +kernel
theorem d_X_slot_5 : decode b_X_slot 5 = .ok (.invokevirtual 87, 3) := by decide +kernel
theorem d_X_slot_8 : decode b_X_slot 8 = .ok (.istore_n 3, 1) := by decide +kernel
theorem d_X_slot_9 : decode b_X_slot 9 = .ok (.iload_n 3, 1) := by decide +kernel
theorem d_X_slot_10 : decode b_X_slot 10 = .ok (.iconst (-1), 1) := by decide +kernel
theorem d_X_slot_11 : decode b_X_slot 11 = .ok (.if_icmp .ne 6, 3) := by decide +kernel
theorem d_X_slot_14 : decode b_X_slot 14 = .ok (.bipush (-3), 2) := by decide +kernel
theorem d_X_slot_16 : decode b_X_slot 16 = .ok (.ireturn, 1) := by decide +kernel
theorem d_X_slot_17 : decode b_X_slot 17 = .ok (.aload_n 0, 1) := by decide +kernel
theorem d_X_slot_18 : decode b_X_slot 18 = .ok (.getfield 10, 3) := by decide +kernel
theorem d_X_slot_21 : decode b_X_slot 21 = .ok (.iload_n 3, 1) := by decide +kernel
theorem d_X_slot_22 : decode b_X_slot 22 = .ok (.iload_n 2, 1) := by decide +kernel
theorem d_X_slot_23 : decode b_X_slot 23 = .ok (.invokevirtual 63, 3) := by decide +kernel
theorem d_X_slot_26 : decode b_X_slot 26 = .ok (.ifCond .eq 15, 3) := by decide +kernel
theorem d_X_slot_29 : decode b_X_slot 29 = .ok (.aload_n 0, 1) := by decide +kernel
theorem d_X_slot_30 : decode b_X_slot 30 = .ok (.getfield 10, 3) := by decide +kernel
theorem d_X_slot_33 : decode b_X_slot 33 = .ok (.iload_n 3, 1) := by decide +kernel
theorem d_X_slot_34 : decode b_X_slot 34 = .ok (.iload_n 2, 1) := by decide +kernel
theorem d_X_slot_35 : decode b_X_slot 35 = .ok (.invokevirtual 67, 3) := by decide +kernel
theorem d_X_slot_38 : decode b_X_slot 38 = .ok (.goto 4, 3) := by decide +kernel
theorem d_X_slot_41 : decode b_X_slot 41 = .ok (.iconst (-1), 1) := by decide +kernel
theorem d_X_slot_42 : decode b_X_slot 42 = .ok (.ireturn, 1) := by decide +kernel
theorem d_X_table_0 : decode b_X_table 0 = .ok (.aload_n 0, 1) := by decide +kernel
theorem d_X_table_1 : decode b_X_table 1 = .ok (.getfield 10, 3) := by decide +kernel
theorem d_X_table_4 : decode b_X_table 4 = .ok (.invokevirtual 93, 3) := by decide +kernel
theorem d_X_table_7 : decode b_X_table 7 = .ok (.ireturn, 1) := by decide +kernel
theorem d_X_state_0 : decode b_X_state 0 = .ok (.aload_n 0, 1) := by decide +kernel
theorem d_X_state_1 : decode b_X_state 1 = .ok (.getfield 10, 3) := by decide +kernel
theorem d_X_state_4 : decode b_X_state 4 = .ok (.iload_n 1, 1) := by decide +kernel
theorem d_X_state_5 : decode b_X_state 5 = .ok (.invokevirtual 87, 3) := by decide +kernel
theorem d_X_state_8 : decode b_X_state 8 = .ok (.istore_n 2, 1) := by decide +kernel
theorem d_X_state_9 : decode b_X_state 9 = .ok (.iload_n 2, 1) := by decide +kernel
theorem d_X_state_10 : decode b_X_state 10 = .ok (.iconst (-1), 1) := by decide +kernel
theorem d_X_state_11 : decode b_X_state 11 = .ok (.if_icmp .ne 5, 3) := by decide +kernel
theorem d_X_state_14 : decode b_X_state 14 = .ok (.iconst 0, 1) := by decide +kernel
theorem d_X_state_15 : decode b_X_state 15 = .ok (.ireturn, 1) := by decide +kernel
theorem d_X_state_16 : decode b_X_state 16 = .ok (.aload_n 0, 1) := by decide +kernel
theorem d_X_state_17 : decode b_X_state 17 = .ok (.getfield 10, 3) := by decide +kernel
theorem d_X_state_20 : decode b_X_state 20 = .ok (.iload_n 2, 1) := by decide +kernel
theorem d_X_state_21 : decode b_X_state 21 = .ok (.invokevirtual 96, 3) := by decide +kernel
theorem d_X_state_24 : decode b_X_state 24 = .ok (.ifCond .eq 7, 3) := by decide +kernel
theorem d_X_state_27 : decode b_X_state 27 = .ok (.iconst 1, 1) := by decide +kernel
theorem d_X_state_28 : decode b_X_state 28 = .ok (.goto 4, 3) := by decide +kernel
theorem d_X_state_31 : decode b_X_state 31 = .ok (.iconst 0, 1) := by decide +kernel
theorem d_X_state_32 : decode b_X_state 32 = .ok (.istore_n 3, 1) := by decide +kernel
theorem d_X_state_33 : decode b_X_state 33 = .ok (.aload_n 0, 1) := by decide +kernel
theorem d_X_state_34 : decode b_X_state 34 = .ok (.getfield 26, 3) := by decide +kernel
theorem d_X_state_37 : decode b_X_state 37 = .ok (.iload_n 1, 1) := by decide +kernel
theorem d_X_state_38 : decode b_X_state 38 = .ok (.invokevirtual 99, 3) := by decide +kernel
theorem d_X_state_41 : decode b_X_state 41 = .ok (.ifCond .eq 7, 3) := by decide +kernel
theorem d_X_state_44 : decode b_X_state 44 = .ok (.iconst 2, 1) := by decide +kernel
theorem d_X_state_45 : decode b_X_state 45 = .ok (.goto 4, 3) := by decide +kernel
theorem d_X_state_48 : decode b_X_state 48 = .ok (.iconst 0, 1) := by decide +kernel
theorem d_X_state_49 : decode b_X_state 49 = .ok (.istore 4, 2) := by decide +kernel
theorem d_X_state_51 : decode b_X_state 51 = .ok (.iload_n 3, 1) := by decide +kernel
theorem d_X_state_52 : decode b_X_state 52 = .ok (.iload 4, 2) := by decide +kernel
theorem d_X_state_54 : decode b_X_state 54 = .ok (.iadd, 1) := by decide +kernel
theorem d_X_state_55 : decode b_X_state 55 = .ok (.ireturn, 1) := by decide +kernel
theorem d_X_log_0 : decode b_X_log 0 = .ok (.aload_n 0, 1) := by decide +kernel
theorem d_X_log_1 : decode b_X_log 1 = .ok (.getfield 26, 3) := by decide +kernel
theorem d_X_log_4 : decode b_X_log 4 = .ok (.invokevirtual 102, 3) := by decide +kernel
theorem d_X_log_7 : decode b_X_log 7 = .ok (.ireturn, 1) := by decide +kernel
theorem d_X_entry_0 : decode b_X_entry 0 = .ok (.aload_n 0, 1) := by decide +kernel
theorem d_X_entry_1 : decode b_X_entry 1 = .ok (.getfield 26, 3) := by decide +kernel
theorem d_X_entry_4 : decode b_X_entry 4 = .ok (.iload_n 1, 1) := by decide +kernel
theorem d_X_entry_5 : decode b_X_entry 5 = .ok (.invokevirtual 103, 3) := by decide +kernel
theorem d_X_entry_8 : decode b_X_entry 8 = .ok (.ifCond .ne 5, 3) := by decide +kernel
theorem d_X_entry_11 : decode b_X_entry 11 = .ok (.iconst (-1), 1) := by decide +kernel
theorem d_X_entry_12 : decode b_X_entry 12 = .ok (.ireturn, 1) := by decide +kernel
theorem d_X_entry_13 : decode b_X_entry 13 = .ok (.aload_n 0, 1) := by decide +kernel
theorem d_X_entry_14 : decode b_X_entry 14 = .ok (.getfield 26, 3) := by decide +kernel
theorem d_X_entry_17 : decode b_X_entry 17 = .ok (.iload_n 1, 1) := by decide +kernel
theorem d_X_entry_18 : decode b_X_entry 18 = .ok (.invokevirtual 104, 3) := by decide +kernel
theorem d_X_entry_21 : decode b_X_entry 21 = .ok (.istore_n 3, 1) := by decide +kernel
theorem d_X_entry_22 : decode b_X_entry 22 = .ok (.iload_n 2, 1) := by decide +kernel
theorem d_X_entry_23 : decode b_X_entry 23 = .ok (.iconst (-1), 1) := by decide +kernel
theorem d_X_entry_24 : decode b_X_entry 24 = .ok (.if_icmp .ne 5, 3) := by decide +kernel
theorem d_X_entry_27 : decode b_X_entry 27 = .ok (.iload_n 3, 1) := by decide +kernel
theorem d_X_entry_28 : decode b_X_entry 28 = .ok (.ireturn, 1) := by decide +kernel
theorem d_X_entry_29 : decode b_X_entry 29 = .ok (.aload_n 0, 1) := by decide +kernel
theorem d_X_entry_30 : decode b_X_entry 30 = .ok (.getfield 10, 3) := by decide +kernel
theorem d_X_entry_33 : decode b_X_entry 33 = .ok (.aload_n 0, 1) := by decide +kernel
theorem d_X_entry_34 : decode b_X_entry 34 = .ok (.getfield 10, 3) := by decide +kernel
theorem d_X_entry_37 : decode b_X_entry 37 = .ok (.iload_n 3, 1) := by decide +kernel
theorem d_X_entry_38 : decode b_X_entry 38 = .ok (.invokevirtual 87, 3) := by decide +kernel
theorem d_X_entry_41 : decode b_X_entry 41 = .ok (.iload_n 2, 1) := by decide +kernel
theorem d_X_entry_42 : decode b_X_entry 42 = .ok (.invokevirtual 63, 3) := by decide +kernel
theorem d_X_entry_45 : decode b_X_entry 45 = .ok (.ifCond .eq 15, 3) := by decide +kernel
theorem d_X_entry_48 : decode b_X_entry 48 = .ok (.aload_n 0, 1) := by decide +kernel
theorem d_X_entry_49 : decode b_X_entry 49 = .ok (.getfield 26, 3) := by decide +kernel
theorem d_X_entry_52 : decode b_X_entry 52 = .ok (.iload_n 1, 1) := by decide +kernel
theorem d_X_entry_53 : decode b_X_entry 53 = .ok (.iload_n 2, 1) := by decide +kernel
theorem d_X_entry_54 : decode b_X_entry 54 = .ok (.invokevirtual 107, 3) := by decide +kernel
theorem d_X_entry_57 : decode b_X_entry 57 = .ok (.goto 4, 3) := by decide +kernel
theorem d_X_entry_60 : decode b_X_entry 60 = .ok (.iconst (-1), 1) := by decide +kernel
theorem d_X_entry_61 : decode b_X_entry 61 = .ok (.ireturn, 1) := by decide +kernel
theorem d_X_free_0 : decode b_X_free 0 = .ok (.aload_n 0, 1) := by decide +kernel
theorem d_X_free_1 : decode b_X_free 1 = .ok (.getfield 10, 3) := by decide +kernel
theorem d_X_free_4 : decode b_X_free 4 = .ok (.invokevirtual 110, 3) := by decide +kernel
theorem d_X_free_7 : decode b_X_free 7 = .ok (.ireturn, 1) := by decide +kernel
theorem d_X_reckonings_0 : decode b_X_reckonings 0 = .ok (.aload_n 0, 1) := by decide +kernel
theorem d_X_reckonings_1 : decode b_X_reckonings 1 = .ok (.getfield 30, 3) := by decide +kernel
theorem d_X_reckonings_4 : decode b_X_reckonings 4 = .ok (.ireturn, 1) := by decide +kernel
theorem d_X_firstCellAt_0 : decode b_X_firstCellAt 0 = .ok (.aload_n 0, 1) := by decide +kernel
theorem d_X_firstCellAt_1 : decode b_X_firstCellAt 1 = .ok (.getfield 19, 3) := by decide +kernel
theorem d_X_firstCellAt_4 : decode b_X_firstCellAt 4 = .ok (.iload_n 1, 1) := by decide +kernel
theorem d_X_firstCellAt_5 : decode b_X_firstCellAt 5 = .ok (.invokevirtual 53, 3) := by decide +kernel
theorem d_X_firstCellAt_8 : decode b_X_firstCellAt 8 = .ok (.ifCond .eq 21, 3) := by decide +kernel
theorem d_X_firstCellAt_11 : decode b_X_firstCellAt 11 = .ok (.aload_n 0, 1) := by decide +kernel
theorem d_X_firstCellAt_12 : decode b_X_firstCellAt 12 = .ok (.getfield 10, 3) := by decide +kernel
theorem d_X_firstCellAt_15 : decode b_X_firstCellAt 15 = .ok (.aload_n 0, 1) := by decide +kernel
theorem d_X_firstCellAt_16 : decode b_X_firstCellAt 16 = .ok (.getfield 19, 3) := by decide +kernel
theorem d_X_firstCellAt_19 : decode b_X_firstCellAt 19 = .ok (.iload_n 1, 1) := by decide +kernel
theorem d_X_firstCellAt_20 : decode b_X_firstCellAt 20 = .ok (.invokevirtual 57, 3) := by decide +kernel
theorem d_X_firstCellAt_23 : decode b_X_firstCellAt 23 = .ok (.invokevirtual 87, 3) := by decide +kernel
theorem d_X_firstCellAt_26 : decode b_X_firstCellAt 26 = .ok (.goto 4, 3) := by decide +kernel
theorem d_X_firstCellAt_29 : decode b_X_firstCellAt 29 = .ok (.iconst (-1), 1) := by decide +kernel
theorem d_X_firstCellAt_30 : decode b_X_firstCellAt 30 = .ok (.ireturn, 1) := by decide +kernel
theorem d_X_note_0 : decode b_X_note 0 = .ok (.aload_n 0, 1) := by decide +kernel
theorem d_X_note_1 : decode b_X_note 1 = .ok (.getfield 10, 3) := by decide +kernel
theorem d_X_note_4 : decode b_X_note 4 = .ok (.iload_n 1, 1) := by decide +kernel
theorem d_X_note_5 : decode b_X_note 5 = .ok (.invokevirtual 113, 3) := by decide +kernel
theorem d_X_note_8 : decode b_X_note 8 = .ok (.istore_n 2, 1) := by decide +kernel
theorem d_X_note_9 : decode b_X_note 9 = .ok (.aload_n 0, 1) := by decide +kernel
theorem d_X_note_10 : decode b_X_note 10 = .ok (.getfield 26, 3) := by decide +kernel
theorem d_X_note_13 : decode b_X_note 13 = .ok (.iload_n 2, 1) := by decide +kernel
theorem d_X_note_14 : decode b_X_note 14 = .ok (.invokevirtual 99, 3) := by decide +kernel
theorem d_X_note_17 : decode b_X_note 17 = .ok (.ifCond .eq 4, 3) := by decide +kernel
theorem d_X_note_20 : decode b_X_note 20 = .ok (.return_, 1) := by decide +kernel
theorem d_X_note_21 : decode b_X_note 21 = .ok (.aload_n 0, 1) := by decide +kernel
theorem d_X_note_22 : decode b_X_note 22 = .ok (.getfield 26, 3) := by decide +kernel
theorem d_X_note_25 : decode b_X_note 25 = .ok (.invokevirtual 116, 3) := by decide +kernel
theorem d_X_note_28 : decode b_X_note 28 = .ok (.ifCond .eq 8, 3) := by decide +kernel
theorem d_X_note_31 : decode b_X_note 31 = .ok (.aload_n 0, 1) := by decide +kernel
theorem d_X_note_32 : decode b_X_note 32 = .ok (.invokevirtual 42, 3) := by decide +kernel
theorem d_X_note_35 : decode b_X_note 35 = .ok (.pop, 1) := by decide +kernel
theorem d_X_note_36 : decode b_X_note 36 = .ok (.aload_n 0, 1) := by decide +kernel
theorem d_X_note_37 : decode b_X_note 37 = .ok (.getfield 26, 3) := by decide +kernel
theorem d_X_note_40 : decode b_X_note 40 = .ok (.iload_n 2, 1) := by decide +kernel
theorem d_X_note_41 : decode b_X_note 41 = .ok (.invokevirtual 117, 3) := by decide +kernel
theorem d_X_note_44 : decode b_X_note 44 = .ok (.istore_n 3, 1) := by decide +kernel
theorem d_X_note_45 : decode b_X_note 45 = .ok (.aload_n 0, 1) := by decide +kernel
theorem d_X_note_46 : decode b_X_note 46 = .ok (.getfield 10, 3) := by decide +kernel
theorem d_X_note_49 : decode b_X_note 49 = .ok (.iload_n 1, 1) := by decide +kernel
theorem d_X_note_50 : decode b_X_note 50 = .ok (.invokevirtual 120, 3) := by decide +kernel
theorem d_X_note_53 : decode b_X_note 53 = .ok (.istore 4, 2) := by decide +kernel
theorem d_X_note_55 : decode b_X_note 55 = .ok (.iconst 0, 1) := by decide +kernel
theorem d_X_note_56 : decode b_X_note 56 = .ok (.istore 5, 2) := by decide +kernel
theorem d_X_note_58 : decode b_X_note 58 = .ok (.iload 5, 2) := by decide +kernel
theorem d_X_note_60 : decode b_X_note 60 = .ok (.iload 4, 2) := by decide +kernel
theorem d_X_note_62 : decode b_X_note 62 = .ok (.if_icmp .ge 29, 3) := by decide +kernel
theorem d_X_note_65 : decode b_X_note 65 = .ok (.aload_n 0, 1) := by decide +kernel
theorem d_X_note_66 : decode b_X_note 66 = .ok (.getfield 26, 3) := by decide +kernel
theorem d_X_note_69 : decode b_X_note 69 = .ok (.iload_n 3, 1) := by decide +kernel
theorem d_X_note_70 : decode b_X_note 70 = .ok (.iload 5, 2) := by decide +kernel
theorem d_X_note_72 : decode b_X_note 72 = .ok (.aload_n 0, 1) := by decide +kernel
theorem d_X_note_73 : decode b_X_note 73 = .ok (.getfield 10, 3) := by decide +kernel
theorem d_X_note_76 : decode b_X_note 76 = .ok (.iload_n 1, 1) := by decide +kernel
theorem d_X_note_77 : decode b_X_note 77 = .ok (.iload 5, 2) := by decide +kernel
theorem d_X_note_79 : decode b_X_note 79 = .ok (.invokevirtual 67, 3) := by decide +kernel
theorem d_X_note_82 : decode b_X_note 82 = .ok (.invokevirtual 123, 3) := by decide +kernel
theorem d_X_note_85 : decode b_X_note 85 = .ok (.iinc 5 1, 3) := by decide +kernel
theorem d_X_note_88 : decode b_X_note 88 = .ok (.goto (-30), 3) := by decide +kernel
theorem d_X_note_91 : decode b_X_note 91 = .ok (.return_, 1) := by decide +kernel
theorem d_X_bringUpToDate_0 : decode b_X_bringUpToDate 0 = .ok (.aload_n 0, 1) := by decide +kernel
theorem d_X_bringUpToDate_1 : decode b_X_bringUpToDate 1 = .ok (.dup, 1) := by decide +kernel
theorem d_X_bringUpToDate_2 : decode b_X_bringUpToDate 2 = .ok (.getfield 30, 3) := by decide +kernel
theorem d_X_bringUpToDate_5 : decode b_X_bringUpToDate 5 = .ok (.iconst 1, 1) := by decide +kernel
theorem d_X_bringUpToDate_6 : decode b_X_bringUpToDate 6 = .ok (.iadd, 1) := by decide +kernel
theorem d_X_bringUpToDate_7 : decode b_X_bringUpToDate 7 = .ok (.putfield 30, 3) := by decide +kernel
theorem d_X_bringUpToDate_10 : decode b_X_bringUpToDate 10 = .ok (.iconst 0, 1) := by decide +kernel
theorem d_X_bringUpToDate_11 : decode b_X_bringUpToDate 11 = .ok (.istore_n 1, 1) := by decide +kernel
theorem d_X_bringUpToDate_12 : decode b_X_bringUpToDate 12 = .ok (.iload_n 1, 1) := by decide +kernel
theorem d_X_bringUpToDate_13 : decode b_X_bringUpToDate 13 = .ok (.aload_n 0, 1) := by decide +kernel
theorem d_X_bringUpToDate_14 : decode b_X_bringUpToDate 14 = .ok (.getfield 26, 3) := by decide +kernel
theorem d_X_bringUpToDate_17 : decode b_X_bringUpToDate 17 = .ok (.invokevirtual 102, 3) := by decide +kernel
theorem d_X_bringUpToDate_20 : decode b_X_bringUpToDate 20 = .ok (.if_icmp .ge 14, 3) := by decide +kernel
theorem d_X_bringUpToDate_23 : decode b_X_bringUpToDate 23 = .ok (.aload_n 0, 1) := by decide +kernel
theorem d_X_bringUpToDate_24 : decode b_X_bringUpToDate 24 = .ok (.iload_n 1, 1) := by decide +kernel
theorem d_X_bringUpToDate_25 : decode b_X_bringUpToDate 25 = .ok (.invokevirtual 126, 3) := by decide +kernel
theorem d_X_bringUpToDate_28 : decode b_X_bringUpToDate 28 = .ok (.iinc 1 1, 3) := by decide +kernel
theorem d_X_bringUpToDate_31 : decode b_X_bringUpToDate 31 = .ok (.goto (-19), 3) := by decide +kernel
theorem d_X_bringUpToDate_34 : decode b_X_bringUpToDate 34 = .ok (.aload_n 0, 1) := by decide +kernel
theorem d_X_bringUpToDate_35 : decode b_X_bringUpToDate 35 = .ok (.getfield 26, 3) := by decide +kernel
theorem d_X_bringUpToDate_38 : decode b_X_bringUpToDate 38 = .ok (.invokevirtual 129, 3) := by decide +kernel
theorem d_X_bringUpToDate_41 : decode b_X_bringUpToDate 41 = .ok (.aload_n 0, 1) := by decide +kernel
theorem d_X_bringUpToDate_42 : decode b_X_bringUpToDate 42 = .ok (.invokevirtual 132, 3) := by decide +kernel
theorem d_X_bringUpToDate_45 : decode b_X_bringUpToDate 45 = .ok (.ireturn, 1) := by decide +kernel
theorem d_X_countChangesOf_0 : decode b_X_countChangesOf 0 = .ok (.aload_n 0, 1) := by decide +kernel
theorem d_X_countChangesOf_1 : decode b_X_countChangesOf 1 = .ok (.getfield 10, 3) := by decide +kernel
theorem d_X_countChangesOf_4 : decode b_X_countChangesOf 4 = .ok (.aload_n 0, 1) := by decide +kernel
theorem d_X_countChangesOf_5 : decode b_X_countChangesOf 5 = .ok (.getfield 26, 3) := by decide +kernel
theorem d_X_countChangesOf_8 : decode b_X_countChangesOf 8 = .ok (.iload_n 1, 1) := by decide +kernel
theorem d_X_countChangesOf_9 : decode b_X_countChangesOf 9 = .ok (.invokevirtual 104, 3) := by decide +kernel
theorem d_X_countChangesOf_12 : decode b_X_countChangesOf 12 = .ok (.invokevirtual 87, 3) := by decide +kernel
theorem d_X_countChangesOf_15 : decode b_X_countChangesOf 15 = .ok (.istore_n 2, 1) := by decide +kernel
theorem d_X_countChangesOf_16 : decode b_X_countChangesOf 16 = .ok (.aload_n 0, 1) := by decide +kernel
theorem d_X_countChangesOf_17 : decode b_X_countChangesOf 17 = .ok (.getfield 10, 3) := by decide +kernel
theorem d_X_countChangesOf_20 : decode b_X_countChangesOf 20 = .ok (.iload_n 2, 1) := by decide +kernel
theorem d_X_countChangesOf_21 : decode b_X_countChangesOf 21 = .ok (.invokevirtual 120, 3) := by decide +kernel
theorem d_X_countChangesOf_24 : decode b_X_countChangesOf 24 = .ok (.istore_n 3, 1) := by decide +kernel
theorem d_X_countChangesOf_25 : decode b_X_countChangesOf 25 = .ok (.iconst 0, 1) := by decide +kernel
theorem d_X_countChangesOf_26 : decode b_X_countChangesOf 26 = .ok (.istore 4, 2) := by decide +kernel
theorem d_X_countChangesOf_28 : decode b_X_countChangesOf 28 = .ok (.iload 4, 2) := by decide +kernel
theorem d_X_countChangesOf_30 : decode b_X_countChangesOf 30 = .ok (.iload_n 3, 1) := by decide +kernel
theorem d_X_countChangesOf_31 : decode b_X_countChangesOf 31 = .ok (.if_icmp .ge 45, 3) := by decide +kernel
theorem d_X_countChangesOf_34 : decode b_X_countChangesOf 34 = .ok (.aload_n 0, 1) := by decide +kernel
theorem d_X_countChangesOf_35 : decode b_X_countChangesOf 35 = .ok (.getfield 10, 3) := by decide +kernel
theorem d_X_countChangesOf_38 : decode b_X_countChangesOf 38 = .ok (.aload_n 0, 1) := by decide +kernel
theorem d_X_countChangesOf_39 : decode b_X_countChangesOf 39 = .ok (.getfield 26, 3) := by decide +kernel
theorem d_X_countChangesOf_42 : decode b_X_countChangesOf 42 = .ok (.iload_n 1, 1) := by decide +kernel
theorem d_X_countChangesOf_43 : decode b_X_countChangesOf 43 = .ok (.iload 4, 2) := by decide +kernel
theorem d_X_countChangesOf_45 : decode b_X_countChangesOf 45 = .ok (.invokevirtual 107, 3) := by decide +kernel
theorem d_X_countChangesOf_48 : decode b_X_countChangesOf 48 = .ok (.iconst (-1), 1) := by decide +kernel
theorem d_X_countChangesOf_49 : decode b_X_countChangesOf 49 = .ok (.invokevirtual 135, 3) := by decide +kernel
theorem d_X_countChangesOf_52 : decode b_X_countChangesOf 52 = .ok (.aload_n 0, 1) := by decide +kernel
theorem d_X_countChangesOf_53 : decode b_X_countChangesOf 53 = .ok (.getfield 10, 3) := by decide +kernel
theorem d_X_countChangesOf_56 : decode b_X_countChangesOf 56 = .ok (.aload_n 0, 1) := by decide +kernel
theorem d_X_countChangesOf_57 : decode b_X_countChangesOf 57 = .ok (.getfield 10, 3) := by decide +kernel
theorem d_X_countChangesOf_60 : decode b_X_countChangesOf 60 = .ok (.iload_n 2, 1) := by decide +kernel
theorem d_X_countChangesOf_61 : decode b_X_countChangesOf 61 = .ok (.iload 4, 2) := by decide +kernel
theorem d_X_countChangesOf_63 : decode b_X_countChangesOf 63 = .ok (.invokevirtual 67, 3) := by decide +kernel
theorem d_X_countChangesOf_66 : decode b_X_countChangesOf 66 = .ok (.iconst 1, 1) := by decide +kernel
theorem d_X_countChangesOf_67 : decode b_X_countChangesOf 67 = .ok (.invokevirtual 135, 3) := by decide +kernel
theorem d_X_countChangesOf_70 : decode b_X_countChangesOf 70 = .ok (.iinc 4 1, 3) := by decide +kernel
theorem d_X_countChangesOf_73 : decode b_X_countChangesOf 73 = .ok (.goto (-45), 3) := by decide +kernel
theorem d_X_countChangesOf_76 : decode b_X_countChangesOf 76 = .ok (.return_, 1) := by decide +kernel
theorem d_X_freeUnheld_0 : decode b_X_freeUnheld 0 = .ok (.iconst 0, 1) := by decide +kernel
theorem d_X_freeUnheld_1 : decode b_X_freeUnheld 1 = .ok (.istore_n 1, 1) := by decide +kernel
theorem d_X_freeUnheld_2 : decode b_X_freeUnheld 2 = .ok (.iload_n 1, 1) := by decide +kernel
theorem d_X_freeUnheld_3 : decode b_X_freeUnheld 3 = .ok (.bipush 48, 2) := by decide +kernel
theorem d_X_freeUnheld_5 : decode b_X_freeUnheld 5 = .ok (.if_icmp .ge 30, 3) := by decide +kernel
theorem d_X_freeUnheld_8 : decode b_X_freeUnheld 8 = .ok (.aload_n 0, 1) := by decide +kernel
theorem d_X_freeUnheld_9 : decode b_X_freeUnheld 9 = .ok (.invokevirtual 139, 3) := by decide +kernel
theorem d_X_freeUnheld_12 : decode b_X_freeUnheld 12 = .ok (.istore_n 2, 1) := by decide +kernel
theorem d_X_freeUnheld_13 : decode b_X_freeUnheld 13 = .ok (.iload_n 2, 1) := by decide +kernel
theorem d_X_freeUnheld_14 : decode b_X_freeUnheld 14 = .ok (.iconst (-1), 1) := by decide +kernel
theorem d_X_freeUnheld_15 : decode b_X_freeUnheld 15 = .ok (.if_icmp .ne 6, 3) := by decide +kernel
theorem d_X_freeUnheld_18 : decode b_X_freeUnheld 18 = .ok (.goto 17, 3) := by decide +kernel
theorem d_X_freeUnheld_21 : decode b_X_freeUnheld 21 = .ok (.aload_n 0, 1) := by decide +kernel
theorem d_X_freeUnheld_22 : decode b_X_freeUnheld 22 = .ok (.getfield 10, 3) := by decide +kernel
theorem d_X_freeUnheld_25 : decode b_X_freeUnheld 25 = .ok (.iload_n 2, 1) := by decide +kernel
theorem d_X_freeUnheld_26 : decode b_X_freeUnheld 26 = .ok (.invokevirtual 142, 3) := by decide +kernel
theorem d_X_freeUnheld_29 : decode b_X_freeUnheld 29 = .ok (.iinc 1 1, 3) := by decide +kernel
theorem d_X_freeUnheld_32 : decode b_X_freeUnheld 32 = .ok (.goto (-30), 3) := by decide +kernel
theorem d_X_freeUnheld_35 : decode b_X_freeUnheld 35 = .ok (.iload_n 1, 1) := by decide +kernel
theorem d_X_freeUnheld_36 : decode b_X_freeUnheld 36 = .ok (.ireturn, 1) := by decide +kernel
theorem d_X_firstUnheld_0 : decode b_X_firstUnheld 0 = .ok (.iconst 0, 1) := by decide +kernel
theorem d_X_firstUnheld_1 : decode b_X_firstUnheld 1 = .ok (.istore_n 1, 1) := by decide +kernel
theorem d_X_firstUnheld_2 : decode b_X_firstUnheld 2 = .ok (.iload_n 1, 1) := by decide +kernel
theorem d_X_firstUnheld_3 : decode b_X_firstUnheld 3 = .ok (.bipush 48, 2) := by decide +kernel
theorem d_X_firstUnheld_5 : decode b_X_firstUnheld 5 = .ok (.if_icmp .ge 40, 3) := by decide +kernel
theorem d_X_firstUnheld_8 : decode b_X_firstUnheld 8 = .ok (.aload_n 0, 1) := by decide +kernel
theorem d_X_firstUnheld_9 : decode b_X_firstUnheld 9 = .ok (.getfield 10, 3) := by decide +kernel
theorem d_X_firstUnheld_12 : decode b_X_firstUnheld 12 = .ok (.iload_n 1, 1) := by decide +kernel
theorem d_X_firstUnheld_13 : decode b_X_firstUnheld 13 = .ok (.invokevirtual 96, 3) := by decide +kernel
theorem d_X_firstUnheld_16 : decode b_X_firstUnheld 16 = .ok (.ifCond .eq 23, 3) := by decide +kernel
theorem d_X_firstUnheld_19 : decode b_X_firstUnheld 19 = .ok (.aload_n 0, 1) := by decide +kernel
theorem d_X_firstUnheld_20 : decode b_X_firstUnheld 20 = .ok (.getfield 19, 3) := by decide +kernel
theorem d_X_firstUnheld_23 : decode b_X_firstUnheld 23 = .ok (.aload_n 0, 1) := by decide +kernel
theorem d_X_firstUnheld_24 : decode b_X_firstUnheld 24 = .ok (.getfield 10, 3) := by decide +kernel
theorem d_X_firstUnheld_27 : decode b_X_firstUnheld 27 = .ok (.iload_n 1, 1) := by decide +kernel
theorem d_X_firstUnheld_28 : decode b_X_firstUnheld 28 = .ok (.invokevirtual 113, 3) := by decide +kernel
theorem d_X_firstUnheld_31 : decode b_X_firstUnheld 31 = .ok (.invokevirtual 145, 3) := by decide +kernel
theorem d_X_firstUnheld_34 : decode b_X_firstUnheld 34 = .ok (.ifCond .ne 5, 3) := by decide +kernel
theorem d_X_firstUnheld_37 : decode b_X_firstUnheld 37 = .ok (.iload_n 1, 1) := by decide +kernel
theorem d_X_firstUnheld_38 : decode b_X_firstUnheld 38 = .ok (.ireturn, 1) := by decide +kernel
theorem d_X_firstUnheld_39 : decode b_X_firstUnheld 39 = .ok (.iinc 1 1, 3) := by decide +kernel
theorem d_X_firstUnheld_42 : decode b_X_firstUnheld 42 = .ok (.goto (-40), 3) := by decide +kernel
theorem d_X_firstUnheld_45 : decode b_X_firstUnheld 45 = .ok (.iconst (-1), 1) := by decide +kernel
theorem d_X_firstUnheld_46 : decode b_X_firstUnheld 46 = .ok (.ireturn, 1) := by decide +kernel
end
section
theorem d_M_init_0 : decode b_M_init 0 = .ok (.aload_n 0, 1) := by decide +kernel
theorem d_M_init_1 : decode b_M_init 1 = .ok (.invokespecial 1, 3) := by decide +kernel
theorem d_M_init_4 : decode b_M_init 4 = .ok (.aload_n 0, 1) := by decide +kernel
theorem d_M_init_5 : decode b_M_init 5 = .ok (.bipush 48, 2) := by decide +kernel
theorem d_M_init_7 : decode b_M_init 7 = .ok (.newarray .int, 2) := by decide +kernel
theorem d_M_init_9 : decode b_M_init 9 = .ok (.putfield 7, 3) := by decide +kernel
theorem d_M_init_12 : decode b_M_init 12 = .ok (.aload_n 0, 1) := by decide +kernel
theorem d_M_init_13 : decode b_M_init 13 = .ok (.bipush 48, 2) := by decide +kernel
theorem d_M_init_15 : decode b_M_init 15 = .ok (.newarray .int, 2) := by decide +kernel
theorem d_M_init_17 : decode b_M_init 17 = .ok (.putfield 13, 3) := by decide +kernel
theorem d_M_init_20 : decode b_M_init 20 = .ok (.aload_n 0, 1) := by decide +kernel
theorem d_M_init_21 : decode b_M_init 21 = .ok (.bipush 48, 2) := by decide +kernel
theorem d_M_init_23 : decode b_M_init 23 = .ok (.newarray .int, 2) := by decide +kernel
theorem d_M_init_25 : decode b_M_init 25 = .ok (.putfield 16, 3) := by decide +kernel
theorem d_M_init_28 : decode b_M_init 28 = .ok (.aload_n 0, 1) := by decide +kernel
theorem d_M_init_29 : decode b_M_init 29 = .ok (.bipush 48, 2) := by decide +kernel
theorem d_M_init_31 : decode b_M_init 31 = .ok (.newarray .boolean, 2) := by decide +kernel
theorem d_M_init_33 : decode b_M_init 33 = .ok (.putfield 19, 3) := by decide +kernel
theorem d_M_init_36 : decode b_M_init 36 = .ok (.aload_n 0, 1) := by decide +kernel
theorem d_M_init_37 : decode b_M_init 37 = .ok (.bipush 48, 2) := by decide +kernel
theorem d_M_init_39 : decode b_M_init 39 = .ok (.newarray .int, 2) := by decide +kernel
theorem d_M_init_41 : decode b_M_init 41 = .ok (.putfield 23, 3) := by decide +kernel
theorem d_M_init_44 : decode b_M_init 44 = .ok (.aload_n 0, 1) := by decide +kernel
theorem d_M_init_45 : decode b_M_init 45 = .ok (.bipush 8, 2) := by decide +kernel
theorem d_M_init_47 : decode b_M_init 47 = .ok (.newarray .int, 2) := by decide +kernel
theorem d_M_init_49 : decode b_M_init 49 = .ok (.putfield 26, 3) := by decide +kernel
theorem d_M_init_52 : decode b_M_init 52 = .ok (.aload_n 0, 1) := by decide +kernel
theorem d_M_init_53 : decode b_M_init 53 = .ok (.iconst 5, 1) := by decide +kernel
theorem d_M_init_54 : decode b_M_init 54 = .ok (.newarray .int, 2) := by decide +kernel
theorem d_M_init_56 : decode b_M_init 56 = .ok (.putfield 29, 3) := by decide +kernel
theorem d_M_init_59 : decode b_M_init 59 = .ok (.aload_n 0, 1) := by decide +kernel
theorem d_M_init_60 : decode b_M_init 60 = .ok (.bipush 20, 2) := by decide +kernel
theorem d_M_init_62 : decode b_M_init 62 = .ok (.newarray .int, 2) := by decide +kernel
theorem d_M_init_64 : decode b_M_init 64 = .ok (.putfield 32, 3) := by decide +kernel
theorem d_M_init_67 : decode b_M_init 67 = .ok (.return_, 1) := by decide +kernel
theorem d_M_within_0 : decode b_M_within 0 = .ok (.iload_n 0, 1) := by decide +kernel
theorem d_M_within_1 : decode b_M_within 1 = .ok (.iload_n 1, 1) := by decide +kernel
theorem d_M_within_2 : decode b_M_within 2 = .ok (.if_icmp .lt 12, 3) := by decide +kernel
theorem d_M_within_5 : decode b_M_within 5 = .ok (.iload_n 0, 1) := by decide +kernel
theorem d_M_within_6 : decode b_M_within 6 = .ok (.iload_n 2, 1) := by decide +kernel
theorem d_M_within_7 : decode b_M_within 7 = .ok (.if_icmp .gt 7, 3) := by decide +kernel
theorem d_M_within_10 : decode b_M_within 10 = .ok (.iconst 1, 1) := by decide +kernel
theorem d_M_within_11 : decode b_M_within 11 = .ok (.goto 4, 3) := by decide +kernel
theorem d_M_within_14 : decode b_M_within 14 = .ok (.iconst 0, 1) := by decide +kernel
theorem d_M_within_15 : decode b_M_within 15 = .ok (.ireturn, 1) := by decide +kernel
theorem d_M_find_0 : decode b_M_find 0 = .ok (.iconst (-1), 1) := by decide +kernel
theorem d_M_find_1 : decode b_M_find 1 = .ok (.istore_n 2, 1) := by decide +kernel
theorem d_M_find_2 : decode b_M_find 2 = .ok (.iconst 0, 1) := by decide +kernel
theorem d_M_find_3 : decode b_M_find 3 = .ok (.istore_n 3, 1) := by decide +kernel
theorem d_M_find_4 : decode b_M_find 4 = .ok (.iload_n 3, 1) := by decide +kernel
theorem d_M_find_5 : decode b_M_find 5 = .ok (.bipush 48, 2) := by decide +kernel
theorem d_M_find_7 : decode b_M_find 7 = .ok (.if_icmp .ge 34, 3) := by decide +kernel
theorem d_M_find_10 : decode b_M_find 10 = .ok (.aload_n 0, 1) := by decide +kernel
theorem d_M_find_11 : decode b_M_find 11 = .ok (.getfield 13, 3) := by decide +kernel
theorem d_M_find_14 : decode b_M_find 14 = .ok (.iload_n 3, 1) := by decide +kernel
theorem d_M_find_15 : decode b_M_find 15 = .ok (.iaload, 1) := by decide +kernel
theorem d_M_find_16 : decode b_M_find 16 = .ok (.ifCond .le 17, 3) := by decide +kernel
theorem d_M_find_19 : decode b_M_find 19 = .ok (.aload_n 0, 1) := by decide +kernel
theorem d_M_find_20 : decode b_M_find 20 = .ok (.getfield 7, 3) := by decide +kernel
theorem d_M_find_23 : decode b_M_find 23 = .ok (.iload_n 3, 1) := by decide +kernel
theorem d_M_find_24 : decode b_M_find 24 = .ok (.iaload, 1) := by decide +kernel
theorem d_M_find_25 : decode b_M_find 25 = .ok (.iload_n 1, 1) := by decide +kernel
theorem d_M_find_26 : decode b_M_find 26 = .ok (.if_icmp .ne 7, 3) := by decide +kernel
theorem d_M_find_29 : decode b_M_find 29 = .ok (.iload_n 3, 1) := by decide +kernel
theorem d_M_find_30 : decode b_M_find 30 = .ok (.goto 4, 3) := by decide +kernel
theorem d_M_find_33 : decode b_M_find 33 = .ok (.iload_n 2, 1) := by decide +kernel
theorem d_M_find_34 : decode b_M_find 34 = .ok (.istore_n 2, 1) := by decide +kernel
theorem d_M_find_35 : decode b_M_find 35 = .ok (.iinc 3 1, 3) := by decide +kernel
theorem d_M_find_38 : decode b_M_find 38 = .ok (.goto (-34), 3) := by decide +kernel
theorem d_M_find_41 : decode b_M_find 41 = .ok (.iload_n 2, 1) := by decide +kernel
theorem d_M_find_42 : decode b_M_find 42 = .ok (.ireturn, 1) := by decide +kernel
theorem d_M_holders_0 : decode b_M_holders 0 = .ok (.iconst 0, 1) := by decide +kernel
theorem d_M_holders_1 : decode b_M_holders 1 = .ok (.istore_n 2, 1) := by decide +kernel
theorem d_M_holders_2 : decode b_M_holders 2 = .ok (.iconst 0, 1) := by decide +kernel
theorem d_M_holders_3 : decode b_M_holders 3 = .ok (.istore_n 3, 1) := by decide +kernel
theorem d_M_holders_4 : decode b_M_holders 4 = .ok (.iload_n 3, 1) := by decide +kernel
theorem d_M_holders_5 : decode b_M_holders 5 = .ok (.bipush 48, 2) := by decide +kernel
theorem d_M_holders_7 : decode b_M_holders 7 = .ok (.if_icmp .ge 50, 3) := by decide +kernel
theorem d_M_holders_10 : decode b_M_holders 10 = .ok (.iconst 1, 1) := by decide +kernel
theorem d_M_holders_11 : decode b_M_holders 11 = .ok (.istore 4, 2) := by decide +kernel
theorem d_M_holders_13 : decode b_M_holders 13 = .ok (.iload 4, 2) := by decide +kernel
theorem d_M_holders_15 : decode b_M_holders 15 = .ok (.aload_n 0, 1) := by decide +kernel
theorem d_M_holders_16 : decode b_M_holders 16 = .ok (.getfield 13, 3) := by decide +kernel
theorem d_M_holders_19 : decode b_M_holders 19 = .ok (.iload_n 3, 1) := by decide +kernel
theorem d_M_holders_20 : decode b_M_holders 20 = .ok (.iaload, 1) := by decide +kernel
theorem d_M_holders_21 : decode b_M_holders 21 = .ok (.if_icmp .gt 30, 3) := by decide +kernel
theorem d_M_holders_24 : decode b_M_holders 24 = .ok (.aload_n 0, 1) := by decide +kernel
theorem d_M_holders_25 : decode b_M_holders 25 = .ok (.getfield 23, 3) := by decide +kernel
theorem d_M_holders_28 : decode b_M_holders 28 = .ok (.iload_n 3, 1) := by decide +kernel
theorem d_M_holders_29 : decode b_M_holders 29 = .ok (.iload 4, 2) := by decide +kernel
theorem d_M_holders_31 : decode b_M_holders 31 = .ok (.iadd, 1) := by decide +kernel
theorem d_M_holders_32 : decode b_M_holders 32 = .ok (.iaload, 1) := by decide +kernel
theorem d_M_holders_33 : decode b_M_holders 33 = .ok (.iload_n 1, 1) := by decide +kernel
theorem d_M_holders_34 : decode b_M_holders 34 = .ok (.if_icmp .ne 9, 3) := by decide +kernel
theorem d_M_holders_37 : decode b_M_holders 37 = .ok (.iload_n 2, 1) := by decide +kernel
theorem d_M_holders_38 : decode b_M_holders 38 = .ok (.iconst 1, 1) := by decide +kernel
theorem d_M_holders_39 : decode b_M_holders 39 = .ok (.iadd, 1) := by decide +kernel
theorem d_M_holders_40 : decode b_M_holders 40 = .ok (.goto 4, 3) := by decide +kernel
theorem d_M_holders_43 : decode b_M_holders 43 = .ok (.iload_n 2, 1) := by decide +kernel
theorem d_M_holders_44 : decode b_M_holders 44 = .ok (.istore_n 2, 1) := by decide +kernel
theorem d_M_holders_45 : decode b_M_holders 45 = .ok (.iinc 4 1, 3) := by decide +kernel
theorem d_M_holders_48 : decode b_M_holders 48 = .ok (.goto (-35), 3) := by decide +kernel
theorem d_M_holders_51 : decode b_M_holders 51 = .ok (.iinc 3 1, 3) := by decide +kernel
theorem d_M_holders_54 : decode b_M_holders 54 = .ok (.goto (-50), 3) := by decide +kernel
theorem d_M_holders_57 : decode b_M_holders 57 = .ok (.iload_n 2, 1) := by decide +kernel
theorem d_M_holders_58 : decode b_M_holders 58 = .ok (.ireturn, 1) := by decide +kernel
theorem d_M_onStack_0 : decode b_M_onStack 0 = .ok (.iconst 0, 1) := by decide +kernel
theorem d_M_onStack_1 : decode b_M_onStack 1 = .ok (.istore_n 2, 1) := by decide +kernel
theorem d_M_onStack_2 : decode b_M_onStack 2 = .ok (.iconst 0, 1) := by decide +kernel
theorem d_M_onStack_3 : decode b_M_onStack 3 = .ok (.istore_n 3, 1) := by decide +kernel
theorem d_M_onStack_4 : decode b_M_onStack 4 = .ok (.iload_n 3, 1) := by decide +kernel
theorem d_M_onStack_5 : decode b_M_onStack 5 = .ok (.aload_n 0, 1) := by decide +kernel
theorem d_M_onStack_6 : decode b_M_onStack 6 = .ok (.getfield 35, 3) := by decide +kernel
theorem d_M_onStack_9 : decode b_M_onStack 9 = .ok (.if_icmp .ge 29, 3) := by decide +kernel
theorem d_M_onStack_12 : decode b_M_onStack 12 = .ok (.iload_n 2, 1) := by decide +kernel
theorem d_M_onStack_13 : decode b_M_onStack 13 = .ok (.ifCond .ne 13, 3) := by decide +kernel
theorem d_M_onStack_16 : decode b_M_onStack 16 = .ok (.aload_n 0, 1) := by decide +kernel
theorem d_M_onStack_17 : decode b_M_onStack 17 = .ok (.getfield 26, 3) := by decide +kernel
theorem d_M_onStack_20 : decode b_M_onStack 20 = .ok (.iload_n 3, 1) := by decide +kernel
theorem d_M_onStack_21 : decode b_M_onStack 21 = .ok (.iaload, 1) := by decide +kernel
theorem d_M_onStack_22 : decode b_M_onStack 22 = .ok (.iload_n 1, 1) := by decide +kernel
theorem d_M_onStack_23 : decode b_M_onStack 23 = .ok (.if_icmp .ne 7, 3) := by decide +kernel
theorem d_M_onStack_26 : decode b_M_onStack 26 = .ok (.iconst 1, 1) := by decide +kernel
theorem d_M_onStack_27 : decode b_M_onStack 27 = .ok (.goto 4, 3) := by decide +kernel
theorem d_M_onStack_30 : decode b_M_onStack 30 = .ok (.iconst 0, 1) := by decide +kernel
theorem d_M_onStack_31 : decode b_M_onStack 31 = .ok (.istore_n 2, 1) := by decide +kernel
theorem d_M_onStack_32 : decode b_M_onStack 32 = .ok (.iinc 3 1, 3) := by decide +kernel
theorem d_M_onStack_35 : decode b_M_onStack 35 = .ok (.goto (-31), 3) := by decide +kernel
theorem d_M_onStack_38 : decode b_M_onStack 38 = .ok (.iload_n 2, 1) := by decide +kernel
theorem d_M_onStack_39 : decode b_M_onStack 39 = .ok (.ireturn, 1) := by decide +kernel
theorem d_M_recount_0 : decode b_M_recount 0 = .ok (.iconst 0, 1) := by decide +kernel
theorem d_M_recount_1 : decode b_M_recount 1 = .ok (.istore_n 1, 1) := by decide +kernel
theorem d_M_recount_2 : decode b_M_recount 2 = .ok (.iload_n 1, 1) := by decide +kernel
theorem d_M_recount_3 : decode b_M_recount 3 = .ok (.bipush 48, 2) := by decide +kernel
theorem d_M_recount_5 : decode b_M_recount 5 = .ok (.if_icmp .ge 45, 3) := by decide +kernel
theorem d_M_recount_8 : decode b_M_recount 8 = .ok (.aload_n 0, 1) := by decide +kernel
theorem d_M_recount_9 : decode b_M_recount 9 = .ok (.getfield 16, 3) := by decide +kernel
theorem d_M_recount_12 : decode b_M_recount 12 = .ok (.iload_n 1, 1) := by decide +kernel
theorem d_M_recount_13 : decode b_M_recount 13 = .ok (.aload_n 0, 1) := by decide +kernel
theorem d_M_recount_14 : decode b_M_recount 14 = .ok (.getfield 13, 3) := by decide +kernel
theorem d_M_recount_17 : decode b_M_recount 17 = .ok (.iload_n 1, 1) := by decide +kernel
theorem d_M_recount_18 : decode b_M_recount 18 = .ok (.iaload, 1) := by decide +kernel
theorem d_M_recount_19 : decode b_M_recount 19 = .ok (.ifCond .le 16, 3) := by decide +kernel
theorem d_M_recount_22 : decode b_M_recount 22 = .ok (.aload_n 0, 1) := by decide +kernel
theorem d_M_recount_23 : decode b_M_recount 23 = .ok (.aload_n 0, 1) := by decide +kernel
theorem d_M_recount_24 : decode b_M_recount 24 = .ok (.getfield 7, 3) := by decide +kernel
theorem d_M_recount_27 : decode b_M_recount 27 = .ok (.iload_n 1, 1) := by decide +kernel
theorem d_M_recount_28 : decode b_M_recount 28 = .ok (.iaload, 1) := by decide +kernel
theorem d_M_recount_29 : decode b_M_recount 29 = .ok (.invokevirtual 39, 3) := by decide +kernel
theorem d_M_recount_32 : decode b_M_recount 32 = .ok (.goto 4, 3) := by decide +kernel
theorem d_M_recount_35 : decode b_M_recount 35 = .ok (.iconst 0, 1) := by decide +kernel
theorem d_M_recount_36 : decode b_M_recount 36 = .ok (.iastore, 1) := by decide +kernel
theorem d_M_recount_37 : decode b_M_recount 37 = .ok (.aload_n 0, 1) := by decide +kernel
theorem d_M_recount_38 : decode b_M_recount 38 = .ok (.getfield 19, 3) := by decide +kernel
theorem d_M_recount_41 : decode b_M_recount 41 = .ok (.iload_n 1, 1) := by decide +kernel
theorem d_M_recount_42 : decode b_M_recount 42 = .ok (.iconst 0, 1) := by decide +kernel
theorem d_M_recount_43 : decode b_M_recount 43 = .ok (.bastore, 1) := by decide +kernel
theorem d_M_recount_44 : decode b_M_recount 44 = .ok (.iinc 1 1, 3) := by decide +kernel
theorem d_M_recount_47 : decode b_M_recount 47 = .ok (.goto (-45), 3) := by decide +kernel
theorem d_M_recount_50 : decode b_M_recount 50 = .ok (.return_, 1) := by decide +kernel
theorem d_M_round_0 : decode b_M_round 0 = .ok (.iconst 0, 1) := by decide +kernel
theorem d_M_round_1 : decode b_M_round 1 = .ok (.istore_n 1, 1) := by decide +kernel
theorem d_M_round_2 : decode b_M_round 2 = .ok (.iconst 0, 1) := by decide +kernel
theorem d_M_round_3 : decode b_M_round 3 = .ok (.istore_n 2, 1) := by decide +kernel
theorem d_M_round_4 : decode b_M_round 4 = .ok (.iload_n 2, 1) := by decide +kernel
theorem d_M_round_5 : decode b_M_round 5 = .ok (.bipush 48, 2) := by decide +kernel
theorem d_M_round_7 : decode b_M_round 7 = .ok (.if_icmp .ge 50, 3) := by decide +kernel
theorem d_M_round_10 : decode b_M_round 10 = .ok (.aload_n 0, 1) := by decide +kernel
theorem d_M_round_11 : decode b_M_round 11 = .ok (.getfield 13, 3) := by decide +kernel
theorem d_M_round_14 : decode b_M_round 14 = .ok (.iload_n 2, 1) := by decide +kernel
theorem d_M_round_15 : decode b_M_round 15 = .ok (.iaload, 1) := by decide +kernel
theorem d_M_round_16 : decode b_M_round 16 = .ok (.ifCond .le 35, 3) := by decide +kernel
theorem d_M_round_19 : decode b_M_round 19 = .ok (.aload_n 0, 1) := by decide +kernel
theorem d_M_round_20 : decode b_M_round 20 = .ok (.getfield 16, 3) := by decide +kernel
theorem d_M_round_23 : decode b_M_round 23 = .ok (.iload_n 2, 1) := by decide +kernel
theorem d_M_round_24 : decode b_M_round 24 = .ok (.iaload, 1) := by decide +kernel
theorem d_M_round_25 : decode b_M_round 25 = .ok (.ifCond .ne 26, 3) := by decide +kernel
theorem d_M_round_28 : decode b_M_round 28 = .ok (.aload_n 0, 1) := by decide +kernel
theorem d_M_round_29 : decode b_M_round 29 = .ok (.aload_n 0, 1) := by decide +kernel
theorem d_M_round_30 : decode b_M_round 30 = .ok (.getfield 7, 3) := by decide +kernel
theorem d_M_round_33 : decode b_M_round 33 = .ok (.iload_n 2, 1) := by decide +kernel
theorem d_M_round_34 : decode b_M_round 34 = .ok (.iaload, 1) := by decide +kernel
theorem d_M_round_35 : decode b_M_round 35 = .ok (.invokevirtual 43, 3) := by decide +kernel
theorem d_M_round_38 : decode b_M_round 38 = .ok (.ifCond .ne 13, 3) := by decide +kernel
theorem d_M_round_41 : decode b_M_round 41 = .ok (.aload_n 0, 1) := by decide +kernel
theorem d_M_round_42 : decode b_M_round 42 = .ok (.getfield 13, 3) := by decide +kernel
theorem d_M_round_45 : decode b_M_round 45 = .ok (.iload_n 2, 1) := by decide +kernel
theorem d_M_round_46 : decode b_M_round 46 = .ok (.iconst 0, 1) := by decide +kernel
theorem d_M_round_47 : decode b_M_round 47 = .ok (.iastore, 1) := by decide +kernel
theorem d_M_round_48 : decode b_M_round 48 = .ok (.iinc 1 1, 3) := by decide +kernel
theorem d_M_round_51 : decode b_M_round 51 = .ok (.iinc 2 1, 3) := by decide +kernel
theorem d_M_round_54 : decode b_M_round 54 = .ok (.goto (-50), 3) := by decide +kernel
theorem d_M_round_57 : decode b_M_round 57 = .ok (.iload_n 1, 1) := by decide +kernel
theorem d_M_round_58 : decode b_M_round 58 = .ok (.ireturn, 1) := by decide +kernel
theorem d_M_settle_0 : decode b_M_settle 0 = .ok (.aload_n 0, 1) := by decide +kernel
theorem d_M_settle_1 : decode b_M_settle 1 = .ok (.dup, 1) := by decide +kernel
theorem d_M_settle_2 : decode b_M_settle 2 = .ok (.getfield 47, 3) := by decide +kernel
theorem d_M_settle_5 : decode b_M_settle 5 = .ok (.iconst 1, 1) := by decide +kernel
theorem d_M_settle_6 : decode b_M_settle 6 = .ok (.iadd, 1) := by decide +kernel
theorem d_M_settle_7 : decode b_M_settle 7 = .ok (.putfield 47, 3) := by decide +kernel
theorem d_M_settle_10 : decode b_M_settle 10 = .ok (.aload_n 0, 1) := by decide +kernel
theorem d_M_settle_11 : decode b_M_settle 11 = .ok (.iconst 0, 1) := by decide +kernel
theorem d_M_settle_12 : decode b_M_settle 12 = .ok (.putfield 50, 3) := by decide +kernel
theorem d_M_settle_15 : decode b_M_settle 15 = .ok (.iconst 1, 1) := by decide +kernel
theorem d_M_settle_16 : decode b_M_settle 16 = .ok (.istore_n 1, 1) := by decide +kernel
theorem d_M_settle_17 : decode b_M_settle 17 = .ok (.iload_n 1, 1) := by decide +kernel
theorem d_M_settle_18 : decode b_M_settle 18 = .ok (.ifCond .le 15, 3) := by decide +kernel
theorem d_M_settle_21 : decode b_M_settle 21 = .ok (.aload_n 0, 1) := by decide +kernel
theorem d_M_settle_22 : decode b_M_settle 22 = .ok (.invokevirtual 53, 3) := by decide +kernel
theorem d_M_settle_25 : decode b_M_settle 25 = .ok (.aload_n 0, 1) := by decide +kernel
theorem d_M_settle_26 : decode b_M_settle 26 = .ok (.invokevirtual 56, 3) := by decide +kernel
theorem d_M_settle_29 : decode b_M_settle 29 = .ok (.istore_n 1, 1) := by decide +kernel
theorem d_M_settle_30 : decode b_M_settle 30 = .ok (.goto (-13), 3) := by decide +kernel
theorem d_M_settle_33 : decode b_M_settle 33 = .ok (.return_, 1) := by decide +kernel
theorem d_M_reckon_0 : decode b_M_reckon 0 = .ok (.aload_n 0, 1) := by decide +kernel
theorem d_M_reckon_1 : decode b_M_reckon 1 = .ok (.invokevirtual 60, 3) := by decide +kernel
theorem d_M_reckon_4 : decode b_M_reckon 4 = .ok (.istore_n 1, 1) := by decide +kernel
theorem d_M_reckon_5 : decode b_M_reckon 5 = .ok (.aload_n 0, 1) := by decide +kernel
theorem d_M_reckon_6 : decode b_M_reckon 6 = .ok (.invokevirtual 63, 3) := by decide +kernel
theorem d_M_reckon_9 : decode b_M_reckon 9 = .ok (.iload_n 1, 1) := by decide +kernel
theorem d_M_reckon_10 : decode b_M_reckon 10 = .ok (.aload_n 0, 1) := by decide +kernel
theorem d_M_reckon_11 : decode b_M_reckon 11 = .ok (.invokevirtual 60, 3) := by decide +kernel
theorem d_M_reckon_14 : decode b_M_reckon 14 = .ok (.isub, 1) := by decide +kernel
theorem d_M_reckon_15 : decode b_M_reckon 15 = .ok (.ireturn, 1) := by decide +kernel
theorem d_M_room_0 : decode b_M_room 0 = .ok (.iconst 0, 1) := by decide +kernel
theorem d_M_room_1 : decode b_M_room 1 = .ok (.istore_n 2, 1) := by decide +kernel
theorem d_M_room_2 : decode b_M_room 2 = .ok (.iconst 0, 1) := by decide +kernel
theorem d_M_room_3 : decode b_M_room 3 = .ok (.istore_n 3, 1) := by decide +kernel
theorem d_M_room_4 : decode b_M_room 4 = .ok (.iload_n 3, 1) := by decide +kernel
theorem d_M_room_5 : decode b_M_room 5 = .ok (.bipush 48, 2) := by decide +kernel
theorem d_M_room_7 : decode b_M_room 7 = .ok (.if_icmp .ge 43, 3) := by decide +kernel
theorem d_M_room_10 : decode b_M_room 10 = .ok (.aload_n 0, 1) := by decide +kernel
theorem d_M_room_11 : decode b_M_room 11 = .ok (.getfield 13, 3) := by decide +kernel
theorem d_M_room_14 : decode b_M_room 14 = .ok (.iload_n 3, 1) := by decide +kernel
theorem d_M_room_15 : decode b_M_room 15 = .ok (.iaload, 1) := by decide +kernel
theorem d_M_room_16 : decode b_M_room 16 = .ok (.ifCond .le 19, 3) := by decide +kernel
theorem d_M_room_19 : decode b_M_room 19 = .ok (.iconst 0, 1) := by decide +kernel
theorem d_M_room_20 : decode b_M_room 20 = .ok (.istore_n 2, 1) := by decide +kernel
theorem d_M_room_21 : decode b_M_room 21 = .ok (.iload_n 3, 1) := by decide +kernel
theorem d_M_room_22 : decode b_M_room 22 = .ok (.aload_n 0, 1) := by decide +kernel
theorem d_M_room_23 : decode b_M_room 23 = .ok (.getfield 13, 3) := by decide +kernel
theorem d_M_room_26 : decode b_M_room 26 = .ok (.iload_n 3, 1) := by decide +kernel
theorem d_M_room_27 : decode b_M_room 27 = .ok (.iaload, 1) := by decide +kernel
theorem d_M_room_28 : decode b_M_room 28 = .ok (.iadd, 1) := by decide +kernel
theorem d_M_room_29 : decode b_M_room 29 = .ok (.iconst 1, 1) := by decide +kernel
theorem d_M_room_30 : decode b_M_room 30 = .ok (.iadd, 1) := by decide +kernel
theorem d_M_room_31 : decode b_M_room 31 = .ok (.istore_n 3, 1) := by decide +kernel
theorem d_M_room_32 : decode b_M_room 32 = .ok (.goto (-28), 3) := by decide +kernel
theorem d_M_room_35 : decode b_M_room 35 = .ok (.iinc 2 1, 3) := by decide +kernel
theorem d_M_room_38 : decode b_M_room 38 = .ok (.iinc 3 1, 3) := by decide +kernel
theorem d_M_room_41 : decode b_M_room 41 = .ok (.iload_n 2, 1) := by decide +kernel
theorem d_M_room_42 : decode b_M_room 42 = .ok (.iload_n 1, 1) := by decide +kernel
theorem d_M_room_43 : decode b_M_room 43 = .ok (.if_icmp .ne (-39), 3) := by decide +kernel
theorem d_M_room_46 : decode b_M_room 46 = .ok (.iload_n 3, 1) := by decide +kernel
theorem d_M_room_47 : decode b_M_room 47 = .ok (.iload_n 1, 1) := by decide +kernel
theorem d_M_room_48 : decode b_M_room 48 = .ok (.isub, 1) := by decide +kernel
theorem d_M_room_49 : decode b_M_room 49 = .ok (.ireturn, 1) := by decide +kernel
theorem d_M_room_50 : decode b_M_room 50 = .ok (.iconst (-1), 1) := by decide +kernel
theorem d_M_room_51 : decode b_M_room 51 = .ok (.ireturn, 1) := by decide +kernel
theorem d_M_push_0 : decode b_M_push 0 = .ok (.aload_n 0, 1) := by decide +kernel
theorem d_M_push_1 : decode b_M_push 1 = .ok (.getfield 26, 3) := by decide +kernel
theorem d_M_push_4 : decode b_M_push 4 = .ok (.aload_n 0, 1) := by decide +kernel
theorem d_M_push_5 : decode b_M_push 5 = .ok (.getfield 35, 3) := by decide +kernel
theorem d_M_push_8 : decode b_M_push 8 = .ok (.iload_n 1, 1) := by decide +kernel
theorem d_M_push_9 : decode b_M_push 9 = .ok (.iastore, 1) := by decide +kernel
theorem d_M_push_10 : decode b_M_push 10 = .ok (.aload_n 0, 1) := by decide +kernel
theorem d_M_push_11 : decode b_M_push 11 = .ok (.dup, 1) := by decide +kernel
theorem d_M_push_12 : decode b_M_push 12 = .ok (.getfield 35, 3) := by decide +kernel
theorem d_M_push_15 : decode b_M_push 15 = .ok (.iconst 1, 1) := by decide +kernel
theorem d_M_push_16 : decode b_M_push 16 = .ok (.iadd, 1) := by decide +kernel
theorem d_M_push_17 : decode b_M_push 17 = .ok (.putfield 35, 3) := by decide +kernel
theorem d_M_push_20 : decode b_M_push 20 = .ok (.return_, 1) := by decide +kernel
theorem d_M_make_0 : decode b_M_make 0 = .ok (.iload_n 1, 1) := by decide +kernel
theorem d_M_make_1 : decode b_M_make 1 = .ok (.iconst 1, 1) := by decide +kernel
theorem d_M_make_2 : decode b_M_make 2 = .ok (.iconst 4, 1) := by decide +kernel
theorem d_M_make_3 : decode b_M_make 3 = .ok (.invokestatic 66, 3) := by decide +kernel
theorem d_M_make_6 : decode b_M_make 6 = .ok (.ifCond .ne 5, 3) := by decide +kernel
theorem d_M_make_9 : decode b_M_make 9 = .ok (.iconst (-1), 1) := by decide +kernel
theorem d_M_make_10 : decode b_M_make 10 = .ok (.ireturn, 1) := by decide +kernel
theorem d_M_make_11 : decode b_M_make 11 = .ok (.aload_n 0, 1) := by decide +kernel
theorem d_M_make_12 : decode b_M_make 12 = .ok (.getfield 35, 3) := by decide +kernel
theorem d_M_make_15 : decode b_M_make 15 = .ok (.bipush 8, 2) := by decide +kernel
theorem d_M_make_17 : decode b_M_make 17 = .ok (.if_icmp .ne 6, 3) := by decide +kernel
theorem d_M_make_20 : decode b_M_make 20 = .ok (.bipush (-2), 2) := by decide +kernel
theorem d_M_make_22 : decode b_M_make 22 = .ok (.ireturn, 1) := by decide +kernel
theorem d_M_make_23 : decode b_M_make 23 = .ok (.aload_n 0, 1) := by decide +kernel
theorem d_M_make_24 : decode b_M_make 24 = .ok (.iload_n 1, 1) := by decide +kernel
theorem d_M_make_25 : decode b_M_make 25 = .ok (.iconst 1, 1) := by decide +kernel
theorem d_M_make_26 : decode b_M_make 26 = .ok (.iadd, 1) := by decide +kernel
theorem d_M_make_27 : decode b_M_make 27 = .ok (.invokevirtual 70, 3) := by decide +kernel
theorem d_M_make_30 : decode b_M_make 30 = .ok (.istore_n 2, 1) := by decide +kernel
theorem d_M_make_31 : decode b_M_make 31 = .ok (.iload_n 2, 1) := by decide +kernel
theorem d_M_make_32 : decode b_M_make 32 = .ok (.ifCond .ge 15, 3) := by decide +kernel
theorem d_M_make_35 : decode b_M_make 35 = .ok (.aload_n 0, 1) := by decide +kernel
theorem d_M_make_36 : decode b_M_make 36 = .ok (.invokevirtual 63, 3) := by decide +kernel
theorem d_M_make_39 : decode b_M_make 39 = .ok (.aload_n 0, 1) := by decide +kernel
theorem d_M_make_40 : decode b_M_make 40 = .ok (.iload_n 1, 1) := by decide +kernel
theorem d_M_make_41 : decode b_M_make 41 = .ok (.iconst 1, 1) := by decide +kernel
theorem d_M_make_42 : decode b_M_make 42 = .ok (.iadd, 1) := by decide +kernel
theorem d_M_make_43 : decode b_M_make 43 = .ok (.invokevirtual 70, 3) := by decide +kernel
theorem d_M_make_46 : decode b_M_make 46 = .ok (.istore_n 2, 1) := by decide +kernel
theorem d_M_make_47 : decode b_M_make 47 = .ok (.iload_n 2, 1) := by decide +kernel
theorem d_M_make_48 : decode b_M_make 48 = .ok (.ifCond .ge 6, 3) := by decide +kernel
theorem d_M_make_51 : decode b_M_make 51 = .ok (.bipush (-3), 2) := by decide +kernel
theorem d_M_make_53 : decode b_M_make 53 = .ok (.ireturn, 1) := by decide +kernel
theorem d_M_make_54 : decode b_M_make 54 = .ok (.aload_n 0, 1) := by decide +kernel
theorem d_M_make_55 : decode b_M_make 55 = .ok (.dup, 1) := by decide +kernel
theorem d_M_make_56 : decode b_M_make 56 = .ok (.getfield 73, 3) := by decide +kernel
theorem d_M_make_59 : decode b_M_make 59 = .ok (.iconst 1, 1) := by decide +kernel
theorem d_M_make_60 : decode b_M_make 60 = .ok (.iadd, 1) := by decide +kernel
theorem d_M_make_61 : decode b_M_make 61 = .ok (.putfield 73, 3) := by decide +kernel
theorem d_M_make_64 : decode b_M_make 64 = .ok (.aload_n 0, 1) := by decide +kernel
theorem d_M_make_65 : decode b_M_make 65 = .ok (.getfield 7, 3) := by decide +kernel
theorem d_M_make_68 : decode b_M_make 68 = .ok (.iload_n 2, 1) := by decide +kernel
theorem d_M_make_69 : decode b_M_make 69 = .ok (.aload_n 0, 1) := by decide +kernel
theorem d_M_make_70 : decode b_M_make 70 = .ok (.getfield 73, 3) := by decide +kernel
theorem d_M_make_73 : decode b_M_make 73 = .ok (.iastore, 1) := by decide +kernel
theorem d_M_make_74 : decode b_M_make 74 = .ok (.aload_n 0, 1) := by decide +kernel
theorem d_M_make_75 : decode b_M_make 75 = .ok (.getfield 13, 3) := by decide +kernel
theorem d_M_make_78 : decode b_M_make 78 = .ok (.iload_n 2, 1) := by decide +kernel
theorem d_M_make_79 : decode b_M_make 79 = .ok (.iload_n 1, 1) := by decide +kernel
theorem d_M_make_80 : decode b_M_make 80 = .ok (.iastore, 1) := by decide +kernel
theorem d_M_make_81 : decode b_M_make 81 = .ok (.aload_n 0, 1) := by decide +kernel
theorem d_M_make_82 : decode b_M_make 82 = .ok (.getfield 16, 3) := by decide +kernel
theorem d_M_make_85 : decode b_M_make 85 = .ok (.iload_n 2, 1) := by decide +kernel
theorem d_M_make_86 : decode b_M_make 86 = .ok (.iconst 0, 1) := by decide +kernel
theorem d_M_make_87 : decode b_M_make 87 = .ok (.iastore, 1) := by decide +kernel
theorem d_M_make_88 : decode b_M_make 88 = .ok (.aload_n 0, 1) := by decide +kernel
theorem d_M_make_89 : decode b_M_make 89 = .ok (.getfield 19, 3) := by decide +kernel
theorem d_M_make_92 : decode b_M_make 92 = .ok (.iload_n 2, 1) := by decide +kernel
theorem d_M_make_93 : decode b_M_make 93 = .ok (.iconst 0, 1) := by decide +kernel
theorem d_M_make_94 : decode b_M_make 94 = .ok (.bastore, 1) := by decide +kernel
theorem d_M_make_95 : decode b_M_make 95 = .ok (.iconst 1, 1) := by decide +kernel
theorem d_M_make_96 : decode b_M_make 96 = .ok (.istore_n 3, 1) := by decide +kernel
theorem d_M_make_97 : decode b_M_make 97 = .ok (.iload_n 3, 1) := by decide +kernel
theorem d_M_make_98 : decode b_M_make 98 = .ok (.iload_n 1, 1) := by decide +kernel
theorem d_M_make_99 : decode b_M_make 99 = .ok (.if_icmp .gt 18, 3) := by decide +kernel
theorem d_M_make_102 : decode b_M_make 102 = .ok (.aload_n 0, 1) := by decide +kernel
theorem d_M_make_103 : decode b_M_make 103 = .ok (.getfield 23, 3) := by decide +kernel
theorem d_M_make_106 : decode b_M_make 106 = .ok (.iload_n 2, 1) := by decide +kernel
theorem d_M_make_107 : decode b_M_make 107 = .ok (.iload_n 3, 1) := by decide +kernel
theorem d_M_make_108 : decode b_M_make 108 = .ok (.iadd, 1) := by decide +kernel
theorem d_M_make_109 : decode b_M_make 109 = .ok (.iconst 0, 1) := by decide +kernel
theorem d_M_make_110 : decode b_M_make 110 = .ok (.iastore, 1) := by decide +kernel
theorem d_M_make_111 : decode b_M_make 111 = .ok (.iinc 3 1, 3) := by decide +kernel
theorem d_M_make_114 : decode b_M_make 114 = .ok (.goto (-17), 3) := by decide +kernel
theorem d_M_make_117 : decode b_M_make 117 = .ok (.aload_n 0, 1) := by decide +kernel
theorem d_M_make_118 : decode b_M_make 118 = .ok (.aload_n 0, 1) := by decide +kernel
theorem d_M_make_119 : decode b_M_make 119 = .ok (.getfield 73, 3) := by decide +kernel
theorem d_M_make_122 : decode b_M_make 122 = .ok (.invokevirtual 76, 3) := by decide +kernel
theorem d_M_make_125 : decode b_M_make 125 = .ok (.aload_n 0, 1) := by decide +kernel
theorem d_M_make_126 : decode b_M_make 126 = .ok (.getfield 73, 3) := by decide +kernel
theorem d_M_make_129 : decode b_M_make 129 = .ok (.ireturn, 1) := by decide +kernel
theorem d_M_isPlace_0 : decode b_M_isPlace 0 = .ok (.iload_n 1, 1) := by decide +kernel
theorem d_M_isPlace_1 : decode b_M_isPlace 1 = .ok (.iconst 0, 1) := by decide +kernel
theorem d_M_isPlace_2 : decode b_M_isPlace 2 = .ok (.aload_n 0, 1) := by decide +kernel
theorem d_M_isPlace_3 : decode b_M_isPlace 3 = .ok (.getfield 35, 3) := by decide +kernel
theorem d_M_isPlace_6 : decode b_M_isPlace 6 = .ok (.iconst 1, 1) := by decide +kernel
theorem d_M_isPlace_7 : decode b_M_isPlace 7 = .ok (.isub, 1) := by decide +kernel
theorem d_M_isPlace_8 : decode b_M_isPlace 8 = .ok (.invokestatic 66, 3) := by decide +kernel
theorem d_M_isPlace_11 : decode b_M_isPlace 11 = .ok (.ireturn, 1) := by decide +kernel
theorem d_M_copy_0 : decode b_M_copy 0 = .ok (.aload_n 0, 1) := by decide +kernel
theorem d_M_copy_1 : decode b_M_copy 1 = .ok (.iload_n 1, 1) := by decide +kernel
theorem d_M_copy_2 : decode b_M_copy 2 = .ok (.invokevirtual 80, 3) := by decide +kernel
theorem d_M_copy_5 : decode b_M_copy 5 = .ok (.ifCond .ne 5, 3) := by decide +kernel
theorem d_M_copy_8 : decode b_M_copy 8 = .ok (.iconst (-1), 1) := by decide +kernel
theorem d_M_copy_9 : decode b_M_copy 9 = .ok (.ireturn, 1) := by decide +kernel
theorem d_M_copy_10 : decode b_M_copy 10 = .ok (.aload_n 0, 1) := by decide +kernel
theorem d_M_copy_11 : decode b_M_copy 11 = .ok (.getfield 35, 3) := by decide +kernel
theorem d_M_copy_14 : decode b_M_copy 14 = .ok (.bipush 8, 2) := by decide +kernel
theorem d_M_copy_16 : decode b_M_copy 16 = .ok (.if_icmp .ne 6, 3) := by decide +kernel
theorem d_M_copy_19 : decode b_M_copy 19 = .ok (.bipush (-2), 2) := by decide +kernel
theorem d_M_copy_21 : decode b_M_copy 21 = .ok (.ireturn, 1) := by decide +kernel
theorem d_M_copy_22 : decode b_M_copy 22 = .ok (.aload_n 0, 1) := by decide +kernel
theorem d_M_copy_23 : decode b_M_copy 23 = .ok (.aload_n 0, 1) := by decide +kernel
theorem d_M_copy_24 : decode b_M_copy 24 = .ok (.getfield 26, 3) := by decide +kernel
theorem d_M_copy_27 : decode b_M_copy 27 = .ok (.iload_n 1, 1) := by decide +kernel
theorem d_M_copy_28 : decode b_M_copy 28 = .ok (.iaload, 1) := by decide +kernel
theorem d_M_copy_29 : decode b_M_copy 29 = .ok (.invokevirtual 76, 3) := by decide +kernel
theorem d_M_copy_32 : decode b_M_copy 32 = .ok (.aload_n 0, 1) := by decide +kernel
theorem d_M_copy_33 : decode b_M_copy 33 = .ok (.getfield 26, 3) := by decide +kernel
theorem d_M_copy_36 : decode b_M_copy 36 = .ok (.iload_n 1, 1) := by decide +kernel
theorem d_M_copy_37 : decode b_M_copy 37 = .ok (.iaload, 1) := by decide +kernel
theorem d_M_copy_38 : decode b_M_copy 38 = .ok (.ireturn, 1) := by decide +kernel
theorem d_M_slotCell_0 : decode b_M_slotCell 0 = .ok (.aload_n 0, 1) := by decide +kernel
theorem d_M_slotCell_1 : decode b_M_slotCell 1 = .ok (.iload_n 1, 1) := by decide +kernel
theorem d_M_slotCell_2 : decode b_M_slotCell 2 = .ok (.invokevirtual 80, 3) := by decide +kernel
theorem d_M_slotCell_5 : decode b_M_slotCell 5 = .ok (.ifCond .eq 25, 3) := by decide +kernel
theorem d_M_slotCell_8 : decode b_M_slotCell 8 = .ok (.aload_n 0, 1) := by decide +kernel
theorem d_M_slotCell_9 : decode b_M_slotCell 9 = .ok (.getfield 26, 3) := by decide +kernel
theorem d_M_slotCell_12 : decode b_M_slotCell 12 = .ok (.iload_n 1, 1) := by decide +kernel
theorem d_M_slotCell_13 : decode b_M_slotCell 13 = .ok (.iaload, 1) := by decide +kernel
theorem d_M_slotCell_14 : decode b_M_slotCell 14 = .ok (.ifCond .le 16, 3) := by decide +kernel
theorem d_M_slotCell_17 : decode b_M_slotCell 17 = .ok (.aload_n 0, 1) := by decide +kernel
theorem d_M_slotCell_18 : decode b_M_slotCell 18 = .ok (.aload_n 0, 1) := by decide +kernel
theorem d_M_slotCell_19 : decode b_M_slotCell 19 = .ok (.getfield 26, 3) := by decide +kernel
theorem d_M_slotCell_22 : decode b_M_slotCell 22 = .ok (.iload_n 1, 1) := by decide +kernel
theorem d_M_slotCell_23 : decode b_M_slotCell 23 = .ok (.iaload, 1) := by decide +kernel
theorem d_M_slotCell_24 : decode b_M_slotCell 24 = .ok (.invokevirtual 83, 3) := by decide +kernel
theorem d_M_slotCell_27 : decode b_M_slotCell 27 = .ok (.goto 4, 3) := by decide +kernel
theorem d_M_slotCell_30 : decode b_M_slotCell 30 = .ok (.iconst (-1), 1) := by decide +kernel
theorem d_M_slotCell_31 : decode b_M_slotCell 31 = .ok (.istore_n 3, 1) := by decide +kernel
theorem d_M_slotCell_32 : decode b_M_slotCell 32 = .ok (.iload_n 3, 1) := by decide +kernel
theorem d_M_slotCell_33 : decode b_M_slotCell 33 = .ok (.ifCond .lt 27, 3) := by decide +kernel
theorem d_M_slotCell_36 : decode b_M_slotCell 36 = .ok (.iload_n 2, 1) := by decide +kernel
theorem d_M_slotCell_37 : decode b_M_slotCell 37 = .ok (.iconst 0, 1) := by decide +kernel
theorem d_M_slotCell_38 : decode b_M_slotCell 38 = .ok (.aload_n 0, 1) := by decide +kernel
theorem d_M_slotCell_39 : decode b_M_slotCell 39 = .ok (.getfield 13, 3) := by decide +kernel
theorem d_M_slotCell_42 : decode b_M_slotCell 42 = .ok (.iload_n 3, 1) := by decide +kernel
theorem d_M_slotCell_43 : decode b_M_slotCell 43 = .ok (.iaload, 1) := by decide +kernel
theorem d_M_slotCell_44 : decode b_M_slotCell 44 = .ok (.iconst 1, 1) := by decide +kernel
theorem d_M_slotCell_45 : decode b_M_slotCell 45 = .ok (.isub, 1) := by decide +kernel
theorem d_M_slotCell_46 : decode b_M_slotCell 46 = .ok (.invokestatic 66, 3) := by decide +kernel
theorem d_M_slotCell_49 : decode b_M_slotCell 49 = .ok (.ifCond .eq 11, 3) := by decide +kernel
theorem d_M_slotCell_52 : decode b_M_slotCell 52 = .ok (.iload_n 3, 1) := by decide +kernel
theorem d_M_slotCell_53 : decode b_M_slotCell 53 = .ok (.iconst 1, 1) := by decide +kernel
theorem d_M_slotCell_54 : decode b_M_slotCell 54 = .ok (.iadd, 1) := by decide +kernel
theorem d_M_slotCell_55 : decode b_M_slotCell 55 = .ok (.iload_n 2, 1) := by decide +kernel
theorem d_M_slotCell_56 : decode b_M_slotCell 56 = .ok (.iadd, 1) := by decide +kernel
theorem d_M_slotCell_57 : decode b_M_slotCell 57 = .ok (.goto 4, 3) := by decide +kernel
theorem d_M_slotCell_60 : decode b_M_slotCell 60 = .ok (.iconst (-1), 1) := by decide +kernel
theorem d_M_slotCell_61 : decode b_M_slotCell 61 = .ok (.ireturn, 1) := by decide +kernel
theorem d_M_load_0 : decode b_M_load 0 = .ok (.aload_n 0, 1) := by decide +kernel
theorem d_M_load_1 : decode b_M_load 1 = .ok (.iload_n 1, 1) := by decide +kernel
theorem d_M_load_2 : decode b_M_load 2 = .ok (.iload_n 2, 1) := by decide +kernel
theorem d_M_load_3 : decode b_M_load 3 = .ok (.invokevirtual 86, 3) := by decide +kernel
theorem d_M_load_6 : decode b_M_load 6 = .ok (.istore_n 3, 1) := by decide +kernel
theorem d_M_load_7 : decode b_M_load 7 = .ok (.iload_n 3, 1) := by decide +kernel
theorem d_M_load_8 : decode b_M_load 8 = .ok (.ifCond .ge 5, 3) := by decide +kernel
theorem d_M_load_11 : decode b_M_load 11 = .ok (.iconst (-1), 1) := by decide +kernel
theorem d_M_load_12 : decode b_M_load 12 = .ok (.ireturn, 1) := by decide +kernel
theorem d_M_load_13 : decode b_M_load 13 = .ok (.aload_n 0, 1) := by decide +kernel
theorem d_M_load_14 : decode b_M_load 14 = .ok (.getfield 35, 3) := by decide +kernel
theorem d_M_load_17 : decode b_M_load 17 = .ok (.bipush 8, 2) := by decide +kernel
theorem d_M_load_19 : decode b_M_load 19 = .ok (.if_icmp .ne 6, 3) := by decide +kernel
theorem d_M_load_22 : decode b_M_load 22 = .ok (.bipush (-2), 2) := by decide +kernel
theorem d_M_load_24 : decode b_M_load 24 = .ok (.ireturn, 1) := by decide +kernel
theorem d_M_load_25 : decode b_M_load 25 = .ok (.aload_n 0, 1) := by decide +kernel
theorem d_M_load_26 : decode b_M_load 26 = .ok (.aload_n 0, 1) := by decide +kernel
theorem d_M_load_27 : decode b_M_load 27 = .ok (.getfield 23, 3) := by decide +kernel
theorem d_M_load_30 : decode b_M_load 30 = .ok (.iload_n 3, 1) := by decide +kernel
theorem d_M_load_31 : decode b_M_load 31 = .ok (.iaload, 1) := by decide +kernel
theorem d_M_load_32 : decode b_M_load 32 = .ok (.invokevirtual 76, 3) := by decide +kernel
theorem d_M_load_35 : decode b_M_load 35 = .ok (.aload_n 0, 1) := by decide +kernel
theorem d_M_load_36 : decode b_M_load 36 = .ok (.getfield 23, 3) := by decide +kernel
theorem d_M_load_39 : decode b_M_load 39 = .ok (.iload_n 3, 1) := by decide +kernel
theorem d_M_load_40 : decode b_M_load 40 = .ok (.iaload, 1) := by decide +kernel
theorem d_M_load_41 : decode b_M_load 41 = .ok (.ireturn, 1) := by decide +kernel
theorem d_M_makeRoom_0 : decode b_M_makeRoom 0 = .ok (.aload_n 0, 1) := by decide +kernel
theorem d_M_makeRoom_1 : decode b_M_makeRoom 1 = .ok (.getfield 50, 3) := by decide +kernel
theorem d_M_makeRoom_4 : decode b_M_makeRoom 4 = .ok (.iconst 5, 1) := by decide +kernel
theorem d_M_makeRoom_5 : decode b_M_makeRoom 5 = .ok (.if_icmp .ne 7, 3) := by decide +kernel
theorem d_M_makeRoom_8 : decode b_M_makeRoom 8 = .ok (.aload_n 0, 1) := by decide +kernel
theorem d_M_makeRoom_9 : decode b_M_makeRoom 9 = .ok (.invokevirtual 63, 3) := by decide +kernel
theorem d_M_makeRoom_12 : decode b_M_makeRoom 12 = .ok (.return_, 1) := by decide +kernel
theorem d_M_note_0 : decode b_M_note 0 = .ok (.aload_n 0, 1) := by decide +kernel
theorem d_M_note_1 : decode b_M_note 1 = .ok (.getfield 29, 3) := by decide +kernel
theorem d_M_note_4 : decode b_M_note 4 = .ok (.aload_n 0, 1) := by decide +kernel
theorem d_M_note_5 : decode b_M_note 5 = .ok (.getfield 50, 3) := by decide +kernel
theorem d_M_note_8 : decode b_M_note 8 = .ok (.aload_n 0, 1) := by decide +kernel
theorem d_M_note_9 : decode b_M_note 9 = .ok (.getfield 7, 3) := by decide +kernel
theorem d_M_note_12 : decode b_M_note 12 = .ok (.iload_n 1, 1) := by decide +kernel
theorem d_M_note_13 : decode b_M_note 13 = .ok (.iaload, 1) := by decide +kernel
theorem d_M_note_14 : decode b_M_note 14 = .ok (.iastore, 1) := by decide +kernel
theorem d_M_note_15 : decode b_M_note 15 = .ok (.iconst 0, 1) := by decide +kernel
theorem d_M_note_16 : decode b_M_note 16 = .ok (.istore_n 2, 1) := by decide +kernel
theorem d_M_note_17 : decode b_M_note 17 = .ok (.iload_n 2, 1) := by decide +kernel
theorem d_M_note_18 : decode b_M_note 18 = .ok (.iconst 4, 1) := by decide +kernel
theorem d_M_note_19 : decode b_M_note 19 = .ok (.if_icmp .ge 46, 3) := by decide +kernel
theorem d_M_note_22 : decode b_M_note 22 = .ok (.aload_n 0, 1) := by decide +kernel
theorem d_M_note_23 : decode b_M_note 23 = .ok (.getfield 32, 3) := by decide +kernel
theorem d_M_note_26 : decode b_M_note 26 = .ok (.iconst 4, 1) := by decide +kernel
theorem d_M_note_27 : decode b_M_note 27 = .ok (.aload_n 0, 1) := by decide +kernel
theorem d_M_note_28 : decode b_M_note 28 = .ok (.getfield 50, 3) := by decide +kernel
theorem d_M_note_31 : decode b_M_note 31 = .ok (.imul, 1) := by decide +kernel
theorem d_M_note_32 : decode b_M_note 32 = .ok (.iload_n 2, 1) := by decide +kernel
theorem d_M_note_33 : decode b_M_note 33 = .ok (.iadd, 1) := by decide +kernel
theorem d_M_note_34 : decode b_M_note 34 = .ok (.iload_n 2, 1) := by decide +kernel
theorem d_M_note_35 : decode b_M_note 35 = .ok (.aload_n 0, 1) := by decide +kernel
theorem d_M_note_36 : decode b_M_note 36 = .ok (.getfield 13, 3) := by decide +kernel
theorem d_M_note_39 : decode b_M_note 39 = .ok (.iload_n 1, 1) := by decide +kernel
theorem d_M_note_40 : decode b_M_note 40 = .ok (.iaload, 1) := by decide +kernel
theorem d_M_note_41 : decode b_M_note 41 = .ok (.if_icmp .ge 16, 3) := by decide +kernel
theorem d_M_note_44 : decode b_M_note 44 = .ok (.aload_n 0, 1) := by decide +kernel
theorem d_M_note_45 : decode b_M_note 45 = .ok (.getfield 23, 3) := by decide +kernel
theorem d_M_note_48 : decode b_M_note 48 = .ok (.iload_n 1, 1) := by decide +kernel
theorem d_M_note_49 : decode b_M_note 49 = .ok (.iconst 1, 1) := by decide +kernel
theorem d_M_note_50 : decode b_M_note 50 = .ok (.iadd, 1) := by decide +kernel
theorem d_M_note_51 : decode b_M_note 51 = .ok (.iload_n 2, 1) := by decide +kernel
theorem d_M_note_52 : decode b_M_note 52 = .ok (.iadd, 1) := by decide +kernel
theorem d_M_note_53 : decode b_M_note 53 = .ok (.iaload, 1) := by decide +kernel
theorem d_M_note_54 : decode b_M_note 54 = .ok (.goto 4, 3) := by decide +kernel
theorem d_M_note_57 : decode b_M_note 57 = .ok (.iconst 0, 1) := by decide +kernel
theorem d_M_note_58 : decode b_M_note 58 = .ok (.iastore, 1) := by decide +kernel
theorem d_M_note_59 : decode b_M_note 59 = .ok (.iinc 2 1, 3) := by decide +kernel
theorem d_M_note_62 : decode b_M_note 62 = .ok (.goto (-45), 3) := by decide +kernel
theorem d_M_note_65 : decode b_M_note 65 = .ok (.aload_n 0, 1) := by decide +kernel
theorem d_M_note_66 : decode b_M_note 66 = .ok (.dup, 1) := by decide +kernel
theorem d_M_note_67 : decode b_M_note 67 = .ok (.getfield 50, 3) := by decide +kernel
theorem d_M_note_70 : decode b_M_note 70 = .ok (.iconst 1, 1) := by decide +kernel
theorem d_M_note_71 : decode b_M_note 71 = .ok (.iadd, 1) := by decide +kernel
theorem d_M_note_72 : decode b_M_note 72 = .ok (.putfield 50, 3) := by decide +kernel
theorem d_M_note_75 : decode b_M_note 75 = .ok (.aload_n 0, 1) := by decide +kernel
theorem d_M_note_76 : decode b_M_note 76 = .ok (.getfield 19, 3) := by decide +kernel
theorem d_M_note_79 : decode b_M_note 79 = .ok (.iload_n 1, 1) := by decide +kernel
theorem d_M_note_80 : decode b_M_note 80 = .ok (.iconst 1, 1) := by decide +kernel
theorem d_M_note_81 : decode b_M_note 81 = .ok (.bastore, 1) := by decide +kernel
theorem d_M_note_82 : decode b_M_note 82 = .ok (.return_, 1) := by decide +kernel
theorem d_M_store_0 : decode b_M_store 0 = .ok (.aload_n 0, 1) := by decide +kernel
theorem d_M_store_1 : decode b_M_store 1 = .ok (.iload_n 1, 1) := by decide +kernel
theorem d_M_store_2 : decode b_M_store 2 = .ok (.iload_n 2, 1) := by decide +kernel
theorem d_M_store_3 : decode b_M_store 3 = .ok (.invokevirtual 86, 3) := by decide +kernel
theorem d_M_store_6 : decode b_M_store 6 = .ok (.istore 4, 2) := by decide +kernel
theorem d_M_store_8 : decode b_M_store 8 = .ok (.iload 4, 2) := by decide +kernel
theorem d_M_store_10 : decode b_M_store 10 = .ok (.ifCond .lt 16, 3) := by decide +kernel
theorem d_M_store_13 : decode b_M_store 13 = .ok (.iload_n 3, 1) := by decide +kernel
theorem d_M_store_14 : decode b_M_store 14 = .ok (.iconst (-1), 1) := by decide +kernel
theorem d_M_store_15 : decode b_M_store 15 = .ok (.if_icmp .eq 13, 3) := by decide +kernel
theorem d_M_store_18 : decode b_M_store 18 = .ok (.aload_n 0, 1) := by decide +kernel
theorem d_M_store_19 : decode b_M_store 19 = .ok (.iload_n 3, 1) := by decide +kernel
theorem d_M_store_20 : decode b_M_store 20 = .ok (.invokevirtual 80, 3) := by decide +kernel
theorem d_M_store_23 : decode b_M_store 23 = .ok (.ifCond .ne 5, 3) := by decide +kernel
theorem d_M_store_26 : decode b_M_store 26 = .ok (.iconst 0, 1) := by decide +kernel
theorem d_M_store_27 : decode b_M_store 27 = .ok (.ireturn, 1) := by decide +kernel
theorem d_M_store_28 : decode b_M_store 28 = .ok (.iload 4, 2) := by decide +kernel
theorem d_M_store_30 : decode b_M_store 30 = .ok (.iconst 1, 1) := by decide +kernel
theorem d_M_store_31 : decode b_M_store 31 = .ok (.isub, 1) := by decide +kernel
theorem d_M_store_32 : decode b_M_store 32 = .ok (.iload_n 2, 1) := by decide +kernel
theorem d_M_store_33 : decode b_M_store 33 = .ok (.isub, 1) := by decide +kernel
theorem d_M_store_34 : decode b_M_store 34 = .ok (.istore 5, 2) := by decide +kernel
theorem d_M_store_36 : decode b_M_store 36 = .ok (.aload_n 0, 1) := by decide +kernel
theorem d_M_store_37 : decode b_M_store 37 = .ok (.getfield 19, 3) := by decide +kernel
theorem d_M_store_40 : decode b_M_store 40 = .ok (.iload 5, 2) := by decide +kernel
theorem d_M_store_42 : decode b_M_store 42 = .ok (.baload, 1) := by decide +kernel
theorem d_M_store_43 : decode b_M_store 43 = .ok (.ifCond .ne 13, 3) := by decide +kernel
theorem d_M_store_46 : decode b_M_store 46 = .ok (.aload_n 0, 1) := by decide +kernel
theorem d_M_store_47 : decode b_M_store 47 = .ok (.invokevirtual 90, 3) := by decide +kernel
theorem d_M_store_50 : decode b_M_store 50 = .ok (.aload_n 0, 1) := by decide +kernel
theorem d_M_store_51 : decode b_M_store 51 = .ok (.iload 5, 2) := by decide +kernel
theorem d_M_store_53 : decode b_M_store 53 = .ok (.invokevirtual 93, 3) := by decide +kernel
theorem d_M_store_56 : decode b_M_store 56 = .ok (.aload_n 0, 1) := by decide +kernel
theorem d_M_store_57 : decode b_M_store 57 = .ok (.getfield 23, 3) := by decide +kernel
theorem d_M_store_60 : decode b_M_store 60 = .ok (.iload 4, 2) := by decide +kernel
theorem d_M_store_62 : decode b_M_store 62 = .ok (.iload_n 3, 1) := by decide +kernel
theorem d_M_store_63 : decode b_M_store 63 = .ok (.ifCond .ge 7, 3) := by decide +kernel
theorem d_M_store_66 : decode b_M_store 66 = .ok (.iconst 0, 1) := by decide +kernel
theorem d_M_store_67 : decode b_M_store 67 = .ok (.goto 9, 3) := by decide +kernel
theorem d_M_store_70 : decode b_M_store 70 = .ok (.aload_n 0, 1) := by decide +kernel
theorem d_M_store_71 : decode b_M_store 71 = .ok (.getfield 26, 3) := by decide +kernel
theorem d_M_store_74 : decode b_M_store 74 = .ok (.iload_n 3, 1) := by decide +kernel
theorem d_M_store_75 : decode b_M_store 75 = .ok (.iaload, 1) := by decide +kernel
theorem d_M_store_76 : decode b_M_store 76 = .ok (.iastore, 1) := by decide +kernel
theorem d_M_store_77 : decode b_M_store 77 = .ok (.iconst 1, 1) := by decide +kernel
theorem d_M_store_78 : decode b_M_store 78 = .ok (.ireturn, 1) := by decide +kernel
theorem d_M_drop_0 : decode b_M_drop 0 = .ok (.aload_n 0, 1) := by decide +kernel
theorem d_M_drop_1 : decode b_M_drop 1 = .ok (.getfield 35, 3) := by decide +kernel
theorem d_M_drop_4 : decode b_M_drop 4 = .ok (.ifCond .ne 5, 3) := by decide +kernel
theorem d_M_drop_7 : decode b_M_drop 7 = .ok (.iconst (-1), 1) := by decide +kernel
theorem d_M_drop_8 : decode b_M_drop 8 = .ok (.ireturn, 1) := by decide +kernel
theorem d_M_drop_9 : decode b_M_drop 9 = .ok (.aload_n 0, 1) := by decide +kernel
theorem d_M_drop_10 : decode b_M_drop 10 = .ok (.dup, 1) := by decide +kernel
theorem d_M_drop_11 : decode b_M_drop 11 = .ok (.getfield 35, 3) := by decide +kernel
theorem d_M_drop_14 : decode b_M_drop 14 = .ok (.iconst 1, 1) := by decide +kernel
theorem d_M_drop_15 : decode b_M_drop 15 = .ok (.isub, 1) := by decide +kernel
theorem d_M_drop_16 : decode b_M_drop 16 = .ok (.putfield 35, 3) := by decide +kernel
theorem d_M_drop_19 : decode b_M_drop 19 = .ok (.aload_n 0, 1) := by decide +kernel
theorem d_M_drop_20 : decode b_M_drop 20 = .ok (.getfield 26, 3) := by decide +kernel
theorem d_M_drop_23 : decode b_M_drop 23 = .ok (.aload_n 0, 1) := by decide +kernel
theorem d_M_drop_24 : decode b_M_drop 24 = .ok (.getfield 35, 3) := by decide +kernel
theorem d_M_drop_27 : decode b_M_drop 27 = .ok (.iaload, 1) := by decide +kernel
theorem d_M_drop_28 : decode b_M_drop 28 = .ok (.ireturn, 1) := by decide +kernel
theorem d_M_stack_0 : decode b_M_stack 0 = .ok (.aload_n 0, 1) := by decide +kernel
theorem d_M_stack_1 : decode b_M_stack 1 = .ok (.getfield 35, 3) := by decide +kernel
theorem d_M_stack_4 : decode b_M_stack 4 = .ok (.ireturn, 1) := by decide +kernel
theorem d_M_held_0 : decode b_M_held 0 = .ok (.aload_n 0, 1) := by decide +kernel
theorem d_M_held_1 : decode b_M_held 1 = .ok (.iload_n 1, 1) := by decide +kernel
theorem d_M_held_2 : decode b_M_held 2 = .ok (.invokevirtual 80, 3) := by decide +kernel
theorem d_M_held_5 : decode b_M_held 5 = .ok (.ifCond .eq 12, 3) := by decide +kernel
theorem d_M_held_8 : decode b_M_held 8 = .ok (.aload_n 0, 1) := by decide +kernel
theorem d_M_held_9 : decode b_M_held 9 = .ok (.getfield 26, 3) := by decide +kernel
theorem d_M_held_12 : decode b_M_held 12 = .ok (.iload_n 1, 1) := by decide +kernel
theorem d_M_held_13 : decode b_M_held 13 = .ok (.iaload, 1) := by decide +kernel
theorem d_M_held_14 : decode b_M_held 14 = .ok (.goto 4, 3) := by decide +kernel
theorem d_M_held_17 : decode b_M_held 17 = .ok (.iconst (-1), 1) := by decide +kernel
theorem d_M_held_18 : decode b_M_held 18 = .ok (.ireturn, 1) := by decide +kernel
theorem d_M_alive_0 : decode b_M_alive 0 = .ok (.iconst 0, 1) := by decide +kernel
theorem d_M_alive_1 : decode b_M_alive 1 = .ok (.istore_n 1, 1) := by decide +kernel
theorem d_M_alive_2 : decode b_M_alive 2 = .ok (.iconst 0, 1) := by decide +kernel
theorem d_M_alive_3 : decode b_M_alive 3 = .ok (.istore_n 2, 1) := by decide +kernel
theorem d_M_alive_4 : decode b_M_alive 4 = .ok (.iload_n 2, 1) := by decide +kernel
theorem d_M_alive_5 : decode b_M_alive 5 = .ok (.bipush 48, 2) := by decide +kernel
theorem d_M_alive_7 : decode b_M_alive 7 = .ok (.if_icmp .ge 26, 3) := by decide +kernel
theorem d_M_alive_10 : decode b_M_alive 10 = .ok (.aload_n 0, 1) := by decide +kernel
theorem d_M_alive_11 : decode b_M_alive 11 = .ok (.getfield 13, 3) := by decide +kernel
theorem d_M_alive_14 : decode b_M_alive 14 = .ok (.iload_n 2, 1) := by decide +kernel
theorem d_M_alive_15 : decode b_M_alive 15 = .ok (.iaload, 1) := by decide +kernel
theorem d_M_alive_16 : decode b_M_alive 16 = .ok (.ifCond .le 9, 3) := by decide +kernel
theorem d_M_alive_19 : decode b_M_alive 19 = .ok (.iload_n 1, 1) := by decide +kernel
theorem d_M_alive_20 : decode b_M_alive 20 = .ok (.iconst 1, 1) := by decide +kernel
theorem d_M_alive_21 : decode b_M_alive 21 = .ok (.iadd, 1) := by decide +kernel
theorem d_M_alive_22 : decode b_M_alive 22 = .ok (.goto 4, 3) := by decide +kernel
theorem d_M_alive_25 : decode b_M_alive 25 = .ok (.iload_n 1, 1) := by decide +kernel
theorem d_M_alive_26 : decode b_M_alive 26 = .ok (.istore_n 1, 1) := by decide +kernel
theorem d_M_alive_27 : decode b_M_alive 27 = .ok (.iinc 2 1, 3) := by decide +kernel
theorem d_M_alive_30 : decode b_M_alive 30 = .ok (.goto (-26), 3) := by decide +kernel
theorem d_M_alive_33 : decode b_M_alive 33 = .ok (.iload_n 1, 1) := by decide +kernel
theorem d_M_alive_34 : decode b_M_alive 34 = .ok (.ireturn, 1) := by decide +kernel
theorem d_M_count_0 : decode b_M_count 0 = .ok (.aload_n 0, 1) := by decide +kernel
theorem d_M_count_1 : decode b_M_count 1 = .ok (.iload_n 1, 1) := by decide +kernel
theorem d_M_count_2 : decode b_M_count 2 = .ok (.invokevirtual 83, 3) := by decide +kernel
theorem d_M_count_5 : decode b_M_count 5 = .ok (.istore_n 2, 1) := by decide +kernel
theorem d_M_count_6 : decode b_M_count 6 = .ok (.iload_n 2, 1) := by decide +kernel
theorem d_M_count_7 : decode b_M_count 7 = .ok (.ifCond .ge 8, 3) := by decide +kernel
theorem d_M_count_10 : decode b_M_count 10 = .ok (.bipush (-3), 2) := by decide +kernel
theorem d_M_count_12 : decode b_M_count 12 = .ok (.goto 9, 3) := by decide +kernel
theorem d_M_count_15 : decode b_M_count 15 = .ok (.aload_n 0, 1) := by decide +kernel
theorem d_M_count_16 : decode b_M_count 16 = .ok (.getfield 16, 3) := by decide +kernel
theorem d_M_count_19 : decode b_M_count 19 = .ok (.iload_n 2, 1) := by decide +kernel
theorem d_M_count_20 : decode b_M_count 20 = .ok (.iaload, 1) := by decide +kernel
theorem d_M_count_21 : decode b_M_count 21 = .ok (.ireturn, 1) := by decide +kernel
theorem d_M_cell_0 : decode b_M_cell 0 = .ok (.aload_n 0, 1) := by decide +kernel
theorem d_M_cell_1 : decode b_M_cell 1 = .ok (.iload_n 1, 1) := by decide +kernel
theorem d_M_cell_2 : decode b_M_cell 2 = .ok (.invokevirtual 83, 3) := by decide +kernel
theorem d_M_cell_5 : decode b_M_cell 5 = .ok (.istore_n 2, 1) := by decide +kernel
theorem d_M_cell_6 : decode b_M_cell 6 = .ok (.iload_n 2, 1) := by decide +kernel
theorem d_M_cell_7 : decode b_M_cell 7 = .ok (.ifCond .ge 8, 3) := by decide +kernel
theorem d_M_cell_10 : decode b_M_cell 10 = .ok (.bipush (-3), 2) := by decide +kernel
theorem d_M_cell_12 : decode b_M_cell 12 = .ok (.goto 4, 3) := by decide +kernel
theorem d_M_cell_15 : decode b_M_cell 15 = .ok (.iload_n 2, 1) := by decide +kernel
theorem d_M_cell_16 : decode b_M_cell 16 = .ok (.ireturn, 1) := by decide +kernel
theorem d_M_slot_0 : decode b_M_slot 0 = .ok (.aload_n 0, 1) := by decide +kernel
theorem d_M_slot_1 : decode b_M_slot 1 = .ok (.iload_n 1, 1) := by decide +kernel
theorem d_M_slot_2 : decode b_M_slot 2 = .ok (.invokevirtual 83, 3) := by decide +kernel
theorem d_M_slot_5 : decode b_M_slot 5 = .ok (.istore_n 3, 1) := by decide +kernel
theorem d_M_slot_6 : decode b_M_slot 6 = .ok (.iload_n 3, 1) := by decide +kernel
theorem d_M_slot_7 : decode b_M_slot 7 = .ok (.ifCond .ge 8, 3) := by decide +kernel
theorem d_M_slot_10 : decode b_M_slot 10 = .ok (.bipush (-3), 2) := by decide +kernel
theorem d_M_slot_12 : decode b_M_slot 12 = .ok (.goto 33, 3) := by decide +kernel
theorem d_M_slot_15 : decode b_M_slot 15 = .ok (.iload_n 2, 1) := by decide +kernel
theorem d_M_slot_16 : decode b_M_slot 16 = .ok (.iconst 0, 1) := by decide +kernel
theorem d_M_slot_17 : decode b_M_slot 17 = .ok (.aload_n 0, 1) := by decide +kernel
theorem d_M_slot_18 : decode b_M_slot 18 = .ok (.getfield 13, 3) := by decide +kernel
theorem d_M_slot_21 : decode b_M_slot 21 = .ok (.iload_n 3, 1) := by decide +kernel
theorem d_M_slot_22 : decode b_M_slot 22 = .ok (.iaload, 1) := by decide +kernel
theorem d_M_slot_23 : decode b_M_slot 23 = .ok (.iconst 1, 1) := by decide +kernel
theorem d_M_slot_24 : decode b_M_slot 24 = .ok (.isub, 1) := by decide +kernel
theorem d_M_slot_25 : decode b_M_slot 25 = .ok (.invokestatic 66, 3) := by decide +kernel
theorem d_M_slot_28 : decode b_M_slot 28 = .ok (.ifCond .eq 16, 3) := by decide +kernel
theorem d_M_slot_31 : decode b_M_slot 31 = .ok (.aload_n 0, 1) := by decide +kernel
theorem d_M_slot_32 : decode b_M_slot 32 = .ok (.getfield 23, 3) := by decide +kernel
theorem d_M_slot_35 : decode b_M_slot 35 = .ok (.iload_n 3, 1) := by decide +kernel
theorem d_M_slot_36 : decode b_M_slot 36 = .ok (.iconst 1, 1) := by decide +kernel
theorem d_M_slot_37 : decode b_M_slot 37 = .ok (.iadd, 1) := by decide +kernel
theorem d_M_slot_38 : decode b_M_slot 38 = .ok (.iload_n 2, 1) := by decide +kernel
theorem d_M_slot_39 : decode b_M_slot 39 = .ok (.iadd, 1) := by decide +kernel
theorem d_M_slot_40 : decode b_M_slot 40 = .ok (.iaload, 1) := by decide +kernel
theorem d_M_slot_41 : decode b_M_slot 41 = .ok (.goto 4, 3) := by decide +kernel
theorem d_M_slot_44 : decode b_M_slot 44 = .ok (.iconst (-1), 1) := by decide +kernel
theorem d_M_slot_45 : decode b_M_slot 45 = .ok (.ireturn, 1) := by decide +kernel
theorem d_M_table_0 : decode b_M_table 0 = .ok (.iconst 0, 1) := by decide +kernel
theorem d_M_table_1 : decode b_M_table 1 = .ok (.istore_n 1, 1) := by decide +kernel
theorem d_M_table_2 : decode b_M_table 2 = .ok (.iconst 0, 1) := by decide +kernel
theorem d_M_table_3 : decode b_M_table 3 = .ok (.istore_n 2, 1) := by decide +kernel
theorem d_M_table_4 : decode b_M_table 4 = .ok (.iload_n 2, 1) := by decide +kernel
theorem d_M_table_5 : decode b_M_table 5 = .ok (.bipush 48, 2) := by decide +kernel
theorem d_M_table_7 : decode b_M_table 7 = .ok (.if_icmp .ge 35, 3) := by decide +kernel
theorem d_M_table_10 : decode b_M_table 10 = .ok (.aload_n 0, 1) := by decide +kernel
theorem d_M_table_11 : decode b_M_table 11 = .ok (.getfield 13, 3) := by decide +kernel
theorem d_M_table_14 : decode b_M_table 14 = .ok (.iload_n 2, 1) := by decide +kernel
theorem d_M_table_15 : decode b_M_table 15 = .ok (.iaload, 1) := by decide +kernel
theorem d_M_table_16 : decode b_M_table 16 = .ok (.ifCond .le 18, 3) := by decide +kernel
theorem d_M_table_19 : decode b_M_table 19 = .ok (.aload_n 0, 1) := by decide +kernel
theorem d_M_table_20 : decode b_M_table 20 = .ok (.getfield 16, 3) := by decide +kernel
theorem d_M_table_23 : decode b_M_table 23 = .ok (.iload_n 2, 1) := by decide +kernel
theorem d_M_table_24 : decode b_M_table 24 = .ok (.iaload, 1) := by decide +kernel
theorem d_M_table_25 : decode b_M_table 25 = .ok (.ifCond .ne 9, 3) := by decide +kernel
theorem d_M_table_28 : decode b_M_table 28 = .ok (.iload_n 1, 1) := by decide +kernel
theorem d_M_table_29 : decode b_M_table 29 = .ok (.iconst 1, 1) := by decide +kernel
theorem d_M_table_30 : decode b_M_table 30 = .ok (.iadd, 1) := by decide +kernel
theorem d_M_table_31 : decode b_M_table 31 = .ok (.goto 4, 3) := by decide +kernel
theorem d_M_table_34 : decode b_M_table 34 = .ok (.iload_n 1, 1) := by decide +kernel
theorem d_M_table_35 : decode b_M_table 35 = .ok (.istore_n 1, 1) := by decide +kernel
theorem d_M_table_36 : decode b_M_table 36 = .ok (.iinc 2 1, 3) := by decide +kernel
theorem d_M_table_39 : decode b_M_table 39 = .ok (.goto (-35), 3) := by decide +kernel
theorem d_M_table_42 : decode b_M_table 42 = .ok (.iload_n 1, 1) := by decide +kernel
theorem d_M_table_43 : decode b_M_table 43 = .ok (.ireturn, 1) := by decide +kernel
theorem d_M_state_0 : decode b_M_state 0 = .ok (.aload_n 0, 1) := by decide +kernel
theorem d_M_state_1 : decode b_M_state 1 = .ok (.iload_n 1, 1) := by decide +kernel
theorem d_M_state_2 : decode b_M_state 2 = .ok (.invokevirtual 83, 3) := by decide +kernel
theorem d_M_state_5 : decode b_M_state 5 = .ok (.istore_n 2, 1) := by decide +kernel
theorem d_M_state_6 : decode b_M_state 6 = .ok (.iload_n 2, 1) := by decide +kernel
theorem d_M_state_7 : decode b_M_state 7 = .ok (.ifCond .ge 7, 3) := by decide +kernel
theorem d_M_state_10 : decode b_M_state 10 = .ok (.iconst 0, 1) := by decide +kernel
theorem d_M_state_11 : decode b_M_state 11 = .ok (.goto 32, 3) := by decide +kernel
theorem d_M_state_14 : decode b_M_state 14 = .ok (.aload_n 0, 1) := by decide +kernel
theorem d_M_state_15 : decode b_M_state 15 = .ok (.getfield 16, 3) := by decide +kernel
theorem d_M_state_18 : decode b_M_state 18 = .ok (.iload_n 2, 1) := by decide +kernel
theorem d_M_state_19 : decode b_M_state 19 = .ok (.iaload, 1) := by decide +kernel
theorem d_M_state_20 : decode b_M_state 20 = .ok (.ifCond .ne 7, 3) := by decide +kernel
theorem d_M_state_23 : decode b_M_state 23 = .ok (.iconst 1, 1) := by decide +kernel
theorem d_M_state_24 : decode b_M_state 24 = .ok (.goto 4, 3) := by decide +kernel
theorem d_M_state_27 : decode b_M_state 27 = .ok (.iconst 0, 1) := by decide +kernel
theorem d_M_state_28 : decode b_M_state 28 = .ok (.aload_n 0, 1) := by decide +kernel
theorem d_M_state_29 : decode b_M_state 29 = .ok (.getfield 19, 3) := by decide +kernel
theorem d_M_state_32 : decode b_M_state 32 = .ok (.iload_n 2, 1) := by decide +kernel
theorem d_M_state_33 : decode b_M_state 33 = .ok (.baload, 1) := by decide +kernel
theorem d_M_state_34 : decode b_M_state 34 = .ok (.ifCond .eq 7, 3) := by decide +kernel
theorem d_M_state_37 : decode b_M_state 37 = .ok (.iconst 2, 1) := by decide +kernel
theorem d_M_state_38 : decode b_M_state 38 = .ok (.goto 4, 3) := by decide +kernel
theorem d_M_state_41 : decode b_M_state 41 = .ok (.iconst 0, 1) := by decide +kernel
theorem d_M_state_42 : decode b_M_state 42 = .ok (.iadd, 1) := by decide +kernel
theorem d_M_state_43 : decode b_M_state 43 = .ok (.ireturn, 1) := by decide +kernel
theorem d_M_log_0 : decode b_M_log 0 = .ok (.aload_n 0, 1) := by decide +kernel
theorem d_M_log_1 : decode b_M_log 1 = .ok (.getfield 50, 3) := by decide +kernel
theorem d_M_log_4 : decode b_M_log 4 = .ok (.ireturn, 1) := by decide +kernel
theorem d_M_slotsOf_0 : decode b_M_slotsOf 0 = .ok (.aload_n 0, 1) := by decide +kernel
theorem d_M_slotsOf_1 : decode b_M_slotsOf 1 = .ok (.iload_n 1, 1) := by decide +kernel
theorem d_M_slotsOf_2 : decode b_M_slotsOf 2 = .ok (.invokevirtual 83, 3) := by decide +kernel
theorem d_M_slotsOf_5 : decode b_M_slotsOf 5 = .ok (.istore_n 2, 1) := by decide +kernel
theorem d_M_slotsOf_6 : decode b_M_slotsOf 6 = .ok (.iload_n 2, 1) := by decide +kernel
theorem d_M_slotsOf_7 : decode b_M_slotsOf 7 = .ok (.ifCond .ge 7, 3) := by decide +kernel
theorem d_M_slotsOf_10 : decode b_M_slotsOf 10 = .ok (.iconst 0, 1) := by decide +kernel
theorem d_M_slotsOf_11 : decode b_M_slotsOf 11 = .ok (.goto 9, 3) := by decide +kernel
theorem d_M_slotsOf_14 : decode b_M_slotsOf 14 = .ok (.aload_n 0, 1) := by decide +kernel
theorem d_M_slotsOf_15 : decode b_M_slotsOf 15 = .ok (.getfield 13, 3) := by decide +kernel
theorem d_M_slotsOf_18 : decode b_M_slotsOf 18 = .ok (.iload_n 2, 1) := by decide +kernel
theorem d_M_slotsOf_19 : decode b_M_slotsOf 19 = .ok (.iaload, 1) := by decide +kernel
theorem d_M_slotsOf_20 : decode b_M_slotsOf 20 = .ok (.ireturn, 1) := by decide +kernel
theorem d_M_entry_0 : decode b_M_entry 0 = .ok (.iload_n 1, 1) := by decide +kernel
theorem d_M_entry_1 : decode b_M_entry 1 = .ok (.iconst 0, 1) := by decide +kernel
theorem d_M_entry_2 : decode b_M_entry 2 = .ok (.aload_n 0, 1) := by decide +kernel
theorem d_M_entry_3 : decode b_M_entry 3 = .ok (.getfield 50, 3) := by decide +kernel
theorem d_M_entry_6 : decode b_M_entry 6 = .ok (.iconst 1, 1) := by decide +kernel
theorem d_M_entry_7 : decode b_M_entry 7 = .ok (.isub, 1) := by decide +kernel
theorem d_M_entry_8 : decode b_M_entry 8 = .ok (.invokestatic 66, 3) := by decide +kernel
theorem d_M_entry_11 : decode b_M_entry 11 = .ok (.ifCond .eq 28, 3) := by decide +kernel
theorem d_M_entry_14 : decode b_M_entry 14 = .ok (.iload_n 2, 1) := by decide +kernel
theorem d_M_entry_15 : decode b_M_entry 15 = .ok (.iconst (-1), 1) := by decide +kernel
theorem d_M_entry_16 : decode b_M_entry 16 = .ok (.if_icmp .eq 25, 3) := by decide +kernel
theorem d_M_entry_19 : decode b_M_entry 19 = .ok (.iload_n 2, 1) := by decide +kernel
theorem d_M_entry_20 : decode b_M_entry 20 = .ok (.iconst 0, 1) := by decide +kernel
theorem d_M_entry_21 : decode b_M_entry 21 = .ok (.aload_n 0, 1) := by decide +kernel
theorem d_M_entry_22 : decode b_M_entry 22 = .ok (.aload_n 0, 1) := by decide +kernel
theorem d_M_entry_23 : decode b_M_entry 23 = .ok (.getfield 29, 3) := by decide +kernel
theorem d_M_entry_26 : decode b_M_entry 26 = .ok (.iload_n 1, 1) := by decide +kernel
theorem d_M_entry_27 : decode b_M_entry 27 = .ok (.iaload, 1) := by decide +kernel
theorem d_M_entry_28 : decode b_M_entry 28 = .ok (.invokevirtual 96, 3) := by decide +kernel
theorem d_M_entry_31 : decode b_M_entry 31 = .ok (.iconst 1, 1) := by decide +kernel
theorem d_M_entry_32 : decode b_M_entry 32 = .ok (.isub, 1) := by decide +kernel
theorem d_M_entry_33 : decode b_M_entry 33 = .ok (.invokestatic 66, 3) := by decide +kernel
theorem d_M_entry_36 : decode b_M_entry 36 = .ok (.ifCond .ne 5, 3) := by decide +kernel
theorem d_M_entry_39 : decode b_M_entry 39 = .ok (.iconst (-1), 1) := by decide +kernel
theorem d_M_entry_40 : decode b_M_entry 40 = .ok (.ireturn, 1) := by decide +kernel
theorem d_M_entry_41 : decode b_M_entry 41 = .ok (.iload_n 2, 1) := by decide +kernel
theorem d_M_entry_42 : decode b_M_entry 42 = .ok (.ifCond .ge 12, 3) := by decide +kernel
theorem d_M_entry_45 : decode b_M_entry 45 = .ok (.aload_n 0, 1) := by decide +kernel
theorem d_M_entry_46 : decode b_M_entry 46 = .ok (.getfield 29, 3) := by decide +kernel
theorem d_M_entry_49 : decode b_M_entry 49 = .ok (.iload_n 1, 1) := by decide +kernel
theorem d_M_entry_50 : decode b_M_entry 50 = .ok (.iaload, 1) := by decide +kernel
theorem d_M_entry_51 : decode b_M_entry 51 = .ok (.goto 13, 3) := by decide +kernel
theorem d_M_entry_54 : decode b_M_entry 54 = .ok (.aload_n 0, 1) := by decide +kernel
theorem d_M_entry_55 : decode b_M_entry 55 = .ok (.getfield 32, 3) := by decide +kernel
theorem d_M_entry_58 : decode b_M_entry 58 = .ok (.iconst 4, 1) := by decide +kernel
theorem d_M_entry_59 : decode b_M_entry 59 = .ok (.iload_n 1, 1) := by decide +kernel
theorem d_M_entry_60 : decode b_M_entry 60 = .ok (.imul, 1) := by decide +kernel
theorem d_M_entry_61 : decode b_M_entry 61 = .ok (.iload_n 2, 1) := by decide +kernel
theorem d_M_entry_62 : decode b_M_entry 62 = .ok (.iadd, 1) := by decide +kernel
theorem d_M_entry_63 : decode b_M_entry 63 = .ok (.iaload, 1) := by decide +kernel
theorem d_M_entry_64 : decode b_M_entry 64 = .ok (.ireturn, 1) := by decide +kernel
theorem d_M_free_0 : decode b_M_free 0 = .ok (.bipush 48, 2) := by decide +kernel
theorem d_M_free_2 : decode b_M_free 2 = .ok (.istore_n 1, 1) := by decide +kernel
theorem d_M_free_3 : decode b_M_free 3 = .ok (.iconst 0, 1) := by decide +kernel
theorem d_M_free_4 : decode b_M_free 4 = .ok (.istore_n 2, 1) := by decide +kernel
theorem d_M_free_5 : decode b_M_free 5 = .ok (.iload_n 2, 1) := by decide +kernel
theorem d_M_free_6 : decode b_M_free 6 = .ok (.bipush 48, 2) := by decide +kernel
theorem d_M_free_8 : decode b_M_free 8 = .ok (.if_icmp .ge 33, 3) := by decide +kernel
theorem d_M_free_11 : decode b_M_free 11 = .ok (.aload_n 0, 1) := by decide +kernel
theorem d_M_free_12 : decode b_M_free 12 = .ok (.getfield 13, 3) := by decide +kernel
theorem d_M_free_15 : decode b_M_free 15 = .ok (.iload_n 2, 1) := by decide +kernel
theorem d_M_free_16 : decode b_M_free 16 = .ok (.iaload, 1) := by decide +kernel
theorem d_M_free_17 : decode b_M_free 17 = .ok (.ifCond .le 16, 3) := by decide +kernel
theorem d_M_free_20 : decode b_M_free 20 = .ok (.iload_n 1, 1) := by decide +kernel
theorem d_M_free_21 : decode b_M_free 21 = .ok (.aload_n 0, 1) := by decide +kernel
theorem d_M_free_22 : decode b_M_free 22 = .ok (.getfield 13, 3) := by decide +kernel
theorem d_M_free_25 : decode b_M_free 25 = .ok (.iload_n 2, 1) := by decide +kernel
theorem d_M_free_26 : decode b_M_free 26 = .ok (.iaload, 1) := by decide +kernel
theorem d_M_free_27 : decode b_M_free 27 = .ok (.isub, 1) := by decide +kernel
theorem d_M_free_28 : decode b_M_free 28 = .ok (.iconst 1, 1) := by decide +kernel
theorem d_M_free_29 : decode b_M_free 29 = .ok (.isub, 1) := by decide +kernel
theorem d_M_free_30 : decode b_M_free 30 = .ok (.goto 4, 3) := by decide +kernel
theorem d_M_free_33 : decode b_M_free 33 = .ok (.iload_n 1, 1) := by decide +kernel
theorem d_M_free_34 : decode b_M_free 34 = .ok (.istore_n 1, 1) := by decide +kernel
theorem d_M_free_35 : decode b_M_free 35 = .ok (.iinc 2 1, 3) := by decide +kernel
theorem d_M_free_38 : decode b_M_free 38 = .ok (.goto (-33), 3) := by decide +kernel
theorem d_M_free_41 : decode b_M_free 41 = .ok (.iload_n 1, 1) := by decide +kernel
theorem d_M_free_42 : decode b_M_free 42 = .ok (.ireturn, 1) := by decide +kernel
theorem d_M_reckonings_0 : decode b_M_reckonings 0 = .ok (.aload_n 0, 1) := by decide +kernel
theorem d_M_reckonings_1 : decode b_M_reckonings 1 = .ok (.getfield 47, 3) := by decide +kernel
theorem d_M_reckonings_4 : decode b_M_reckonings 4 = .ok (.ireturn, 1) := by decide +kernel
end
section
theorem kw_0 : Cond.fieldLink R_Heap 9 "LazyCounts$Heap" "owners" "[I" ∈ zz_tb := List.mem_filter.mpr ⟨List.mem_of_getElem? (i := 39) (by decide +kernel), rfl⟩
theorem kw_1 : Cond.fieldLink R_Heap 15 "LazyCounts$Heap" "words" "[I" ∈ zz_tb := List.mem_filter.mpr ⟨List.mem_of_getElem? (i := 40) (by decide +kernel), rfl⟩
theorem kc_2 : Cond.code y_Heap_isFirst b_Heap_isFirst 2 (some .boolean) ∈ zz_tb := List.mem_filter.mpr ⟨List.mem_of_getElem? (i := 162) rfl, rfl⟩
theorem kw_3 : Cond.methodLink R_Heap 37 y_Heap_isFirst ∈ zz_tb := List.mem_filter.mpr ⟨List.mem_of_getElem? (i := 159) (by decide +kernel), rfl⟩
theorem kw_4 : Cond.instanceMethod y_Heap_isFirst ∈ zz_tb := List.mem_filter.mpr ⟨List.mem_of_getElem? (i := 160) (by decide +kernel), rfl⟩
theorem kw_5 : Cond.selects R_Heap y_Heap_isFirst y_Heap_isFirst ∈ zz_tb := List.mem_filter.mpr ⟨List.mem_of_getElem? (i := 161) (by decide +kernel), rfl⟩
theorem kw_6 : Cond.initialized R_Heap ∈ zz_tb := List.mem_filter.mpr ⟨List.mem_of_getElem? (i := 21) (by decide +kernel), rfl⟩
theorem kc_7 : Cond.code y_Heap_slotsAt b_Heap_slotsAt 4 (some .int) ∈ zz_tb := List.mem_filter.mpr ⟨List.mem_of_getElem? (i := 129) rfl, rfl⟩
theorem kw_8 : Cond.methodLink R_Heap 22 y_Heap_slotsAt ∈ zz_tb := List.mem_filter.mpr ⟨List.mem_of_getElem? (i := 175) (by decide +kernel), rfl⟩
theorem kw_9 : Cond.instanceMethod y_Heap_slotsAt ∈ zz_tb := List.mem_filter.mpr ⟨List.mem_of_getElem? (i := 127) (by decide +kernel), rfl⟩
theorem kw_10 : Cond.selects R_Heap y_Heap_slotsAt y_Heap_slotsAt ∈ zz_tb := List.mem_filter.mpr ⟨List.mem_of_getElem? (i := 128) (by decide +kernel), rfl⟩
theorem kc_11 : Cond.code y_Heap_isUncounted b_Heap_isUncounted 2 (some .boolean) ∈ zz_tb := List.mem_filter.mpr ⟨List.mem_of_getElem? (i := 158) rfl, rfl⟩
theorem kw_12 : Cond.methodLink R_Heap 41 y_Heap_isUncounted ∈ zz_tb := List.mem_filter.mpr ⟨List.mem_of_getElem? (i := 294) (by decide +kernel), rfl⟩
theorem kw_13 : Cond.instanceMethod y_Heap_isUncounted ∈ zz_tb := List.mem_filter.mpr ⟨List.mem_of_getElem? (i := 156) (by decide +kernel), rfl⟩
theorem kw_14 : Cond.selects R_Heap y_Heap_isUncounted y_Heap_isUncounted ∈ zz_tb := List.mem_filter.mpr ⟨List.mem_of_getElem? (i := 157) (by decide +kernel), rfl⟩
theorem kc_15 : Cond.code y_Heap_firstCellOf b_Heap_firstCellOf 3 (some .int) ∈ zz_tb := List.mem_filter.mpr ⟨List.mem_of_getElem? (i := 125) rfl, rfl⟩
theorem kw_16 : Cond.methodLink R_Heap 34 y_Heap_firstCellOf ∈ zz_tb := List.mem_filter.mpr ⟨List.mem_of_getElem? (i := 138) (by decide +kernel), rfl⟩
theorem kw_17 : Cond.instanceMethod y_Heap_firstCellOf ∈ zz_tb := List.mem_filter.mpr ⟨List.mem_of_getElem? (i := 123) (by decide +kernel), rfl⟩
theorem kw_18 : Cond.selects R_Heap y_Heap_firstCellOf y_Heap_firstCellOf ∈ zz_tb := List.mem_filter.mpr ⟨List.mem_of_getElem? (i := 124) (by decide +kernel), rfl⟩
theorem kw_19 : Cond.fieldLink R_Heap 18 "LazyCounts$Heap" "made" "I" ∈ zz_tb := List.mem_filter.mpr ⟨List.mem_of_getElem? (i := 41) (by decide +kernel), rfl⟩
theorem kc_20 : Cond.code y_Heap_inSlot b_Heap_inSlot 3 (some .int) ∈ zz_tb := List.mem_filter.mpr ⟨List.mem_of_getElem? (i := 142) rfl, rfl⟩
theorem kw_21 : Cond.methodLink R_Heap 26 y_Heap_inSlot ∈ zz_tb := List.mem_filter.mpr ⟨List.mem_of_getElem? (i := 176) (by decide +kernel), rfl⟩
theorem kw_22 : Cond.instanceMethod y_Heap_inSlot ∈ zz_tb := List.mem_filter.mpr ⟨List.mem_of_getElem? (i := 140) (by decide +kernel), rfl⟩
theorem kw_23 : Cond.selects R_Heap y_Heap_inSlot y_Heap_inSlot ∈ zz_tb := List.mem_filter.mpr ⟨List.mem_of_getElem? (i := 141) (by decide +kernel), rfl⟩
theorem kc_24 : Cond.code y_Heap_addToCount b_Heap_addToCount 4 none ∈ zz_tb := List.mem_filter.mpr ⟨List.mem_of_getElem? (i := 137) rfl, rfl⟩
theorem kw_25 : Cond.methodLink R_Heap 30 y_Heap_addToCount ∈ zz_tb := List.mem_filter.mpr ⟨List.mem_of_getElem? (i := 177) (by decide +kernel), rfl⟩
theorem kw_26 : Cond.instanceMethod y_Heap_addToCount ∈ zz_tb := List.mem_filter.mpr ⟨List.mem_of_getElem? (i := 135) (by decide +kernel), rfl⟩
theorem kw_27 : Cond.selects R_Heap y_Heap_addToCount y_Heap_addToCount ∈ zz_tb := List.mem_filter.mpr ⟨List.mem_of_getElem? (i := 136) (by decide +kernel), rfl⟩
theorem kw_28 : Cond.fieldLink R_Places 15 "LazyCounts$Places" "height" "I" ∈ zz_tb := List.mem_filter.mpr ⟨List.mem_of_getElem? (i := 57) (by decide +kernel), rfl⟩
theorem kw_29 : Cond.fieldLink R_Places 9 "LazyCounts$Places" "objects" "[I" ∈ zz_tb := List.mem_filter.mpr ⟨List.mem_of_getElem? (i := 56) (by decide +kernel), rfl⟩
theorem kw_30 : Cond.fieldLink R_Entries 20 "LazyCounts$Entries" "length" "I" ∈ zz_tb := List.mem_filter.mpr ⟨List.mem_of_getElem? (i := 73) (by decide +kernel), rfl⟩
theorem kw_31 : Cond.fieldLink R_Entries 9 "LazyCounts$Entries" "objects" "[I" ∈ zz_tb := List.mem_filter.mpr ⟨List.mem_of_getElem? (i := 71) (by decide +kernel), rfl⟩
theorem kw_32 : Cond.fieldLink R_Entries 17 "LazyCounts$Entries" "slotsBefore" "[[I" ∈ zz_tb := List.mem_filter.mpr ⟨List.mem_of_getElem? (i := 72) (by decide +kernel), rfl⟩
theorem kw_33 : Cond.fieldLink R_X 19 "LazyCounts" "places" "LLazyCounts$Places;" ∈ zz_tb := List.mem_filter.mpr ⟨List.mem_of_getElem? (i := 82) (by decide +kernel), rfl⟩
theorem kc_34 : Cond.code y_Places_has b_Places_has 2 (some .boolean) ∈ zz_tb := List.mem_filter.mpr ⟨List.mem_of_getElem? (i := 193) rfl, rfl⟩
theorem kw_35 : Cond.methodLink R_X 53 y_Places_has ∈ zz_tb := List.mem_filter.mpr ⟨List.mem_of_getElem? (i := 190) (by decide +kernel), rfl⟩
theorem kw_36 : Cond.instanceMethod y_Places_has ∈ zz_tb := List.mem_filter.mpr ⟨List.mem_of_getElem? (i := 191) (by decide +kernel), rfl⟩
theorem kw_37 : Cond.selects R_Places y_Places_has y_Places_has ∈ zz_tb := List.mem_filter.mpr ⟨List.mem_of_getElem? (i := 192) (by decide +kernel), rfl⟩
theorem kw_38 : Cond.initialized R_Places ∈ zz_tb := List.mem_filter.mpr ⟨List.mem_of_getElem? (i := 22) (by decide +kernel), rfl⟩
theorem kw_39 : Cond.fieldLink R_X 10 "LazyCounts" "heap" "LLazyCounts$Heap;" ∈ zz_tb := List.mem_filter.mpr ⟨List.mem_of_getElem? (i := 81) (by decide +kernel), rfl⟩
theorem kc_40 : Cond.code y_Places_at b_Places_at 2 (some .int) ∈ zz_tb := List.mem_filter.mpr ⟨List.mem_of_getElem? (i := 197) rfl, rfl⟩
theorem kw_41 : Cond.methodLink R_X 57 y_Places_at ∈ zz_tb := List.mem_filter.mpr ⟨List.mem_of_getElem? (i := 194) (by decide +kernel), rfl⟩
theorem kw_42 : Cond.instanceMethod y_Places_at ∈ zz_tb := List.mem_filter.mpr ⟨List.mem_of_getElem? (i := 195) (by decide +kernel), rfl⟩
theorem kw_43 : Cond.selects R_Places y_Places_at y_Places_at ∈ zz_tb := List.mem_filter.mpr ⟨List.mem_of_getElem? (i := 196) (by decide +kernel), rfl⟩
theorem kw_44 : Cond.methodLink R_X 87 y_Heap_firstCellOf ∈ zz_tb := List.mem_filter.mpr ⟨List.mem_of_getElem? (i := 122) (by decide +kernel), rfl⟩
theorem kw_45 : Cond.methodLink R_X 96 y_Heap_isUncounted ∈ zz_tb := List.mem_filter.mpr ⟨List.mem_of_getElem? (i := 155) (by decide +kernel), rfl⟩
theorem kc_46 : Cond.code y_Heap_objectIn b_Heap_objectIn 2 (some .int) ∈ zz_tb := List.mem_filter.mpr ⟨List.mem_of_getElem? (i := 166) rfl, rfl⟩
theorem kw_47 : Cond.methodLink R_X 113 y_Heap_objectIn ∈ zz_tb := List.mem_filter.mpr ⟨List.mem_of_getElem? (i := 163) (by decide +kernel), rfl⟩
theorem kw_48 : Cond.instanceMethod y_Heap_objectIn ∈ zz_tb := List.mem_filter.mpr ⟨List.mem_of_getElem? (i := 164) (by decide +kernel), rfl⟩
theorem kw_49 : Cond.selects R_Heap y_Heap_objectIn y_Heap_objectIn ∈ zz_tb := List.mem_filter.mpr ⟨List.mem_of_getElem? (i := 165) (by decide +kernel), rfl⟩
theorem kc_50 : Cond.code y_Places_hold b_Places_hold 3 (some .boolean) ∈ zz_tb := List.mem_filter.mpr ⟨List.mem_of_getElem? (i := 170) rfl, rfl⟩
theorem kw_51 : Cond.methodLink R_X 145 y_Places_hold ∈ zz_tb := List.mem_filter.mpr ⟨List.mem_of_getElem? (i := 167) (by decide +kernel), rfl⟩
theorem kw_52 : Cond.instanceMethod y_Places_hold ∈ zz_tb := List.mem_filter.mpr ⟨List.mem_of_getElem? (i := 168) (by decide +kernel), rfl⟩
theorem kw_53 : Cond.selects R_Places y_Places_hold y_Places_hold ∈ zz_tb := List.mem_filter.mpr ⟨List.mem_of_getElem? (i := 169) (by decide +kernel), rfl⟩
theorem kc_54 : Cond.code y_X_firstUnheld b_X_firstUnheld 2 (some .int) ∈ zz_tb := List.mem_filter.mpr ⟨List.mem_of_getElem? (i := 154) rfl, rfl⟩
theorem kw_55 : Cond.methodLink R_X 139 y_X_firstUnheld ∈ zz_tb := List.mem_filter.mpr ⟨List.mem_of_getElem? (i := 151) (by decide +kernel), rfl⟩
theorem kw_56 : Cond.instanceMethod y_X_firstUnheld ∈ zz_tb := List.mem_filter.mpr ⟨List.mem_of_getElem? (i := 153) (by decide +kernel), rfl⟩
theorem kw_57 : Cond.selects R_X y_X_firstUnheld y_X_firstUnheld ∈ zz_tb := List.mem_filter.mpr ⟨List.mem_of_getElem? (i := 3) (by decide +kernel), rfl⟩
theorem kw_58 : Cond.initialized R_X ∈ zz_tb := List.mem_filter.mpr ⟨List.mem_of_getElem? (i := 20) (by decide +kernel), rfl⟩
theorem kc_59 : Cond.code y_Heap_giveBack b_Heap_giveBack 4 none ∈ zz_tb := List.mem_filter.mpr ⟨List.mem_of_getElem? (i := 174) rfl, rfl⟩
theorem kw_60 : Cond.methodLink R_X 142 y_Heap_giveBack ∈ zz_tb := List.mem_filter.mpr ⟨List.mem_of_getElem? (i := 171) (by decide +kernel), rfl⟩
theorem kw_61 : Cond.instanceMethod y_Heap_giveBack ∈ zz_tb := List.mem_filter.mpr ⟨List.mem_of_getElem? (i := 172) (by decide +kernel), rfl⟩
theorem kw_62 : Cond.selects R_Heap y_Heap_giveBack y_Heap_giveBack ∈ zz_tb := List.mem_filter.mpr ⟨List.mem_of_getElem? (i := 173) (by decide +kernel), rfl⟩
theorem kw_63 : Cond.fieldLink R_X 26 "LazyCounts" "entries" "LLazyCounts$Entries;" ∈ zz_tb := List.mem_filter.mpr ⟨List.mem_of_getElem? (i := 83) (by decide +kernel), rfl⟩
theorem kc_64 : Cond.code y_Entries_objectOf b_Entries_objectOf 2 (some .int) ∈ zz_tb := List.mem_filter.mpr ⟨List.mem_of_getElem? (i := 121) rfl, rfl⟩
theorem kw_65 : Cond.methodLink R_X 104 y_Entries_objectOf ∈ zz_tb := List.mem_filter.mpr ⟨List.mem_of_getElem? (i := 118) (by decide +kernel), rfl⟩
theorem kw_66 : Cond.instanceMethod y_Entries_objectOf ∈ zz_tb := List.mem_filter.mpr ⟨List.mem_of_getElem? (i := 119) (by decide +kernel), rfl⟩
theorem kw_67 : Cond.selects R_Entries y_Entries_objectOf y_Entries_objectOf ∈ zz_tb := List.mem_filter.mpr ⟨List.mem_of_getElem? (i := 120) (by decide +kernel), rfl⟩
theorem kw_68 : Cond.initialized R_Entries ∈ zz_tb := List.mem_filter.mpr ⟨List.mem_of_getElem? (i := 23) (by decide +kernel), rfl⟩
theorem kw_69 : Cond.methodLink R_X 120 y_Heap_slotsAt ∈ zz_tb := List.mem_filter.mpr ⟨List.mem_of_getElem? (i := 126) (by decide +kernel), rfl⟩
theorem kc_70 : Cond.code y_Entries_before b_Entries_before 3 (some .int) ∈ zz_tb := List.mem_filter.mpr ⟨List.mem_of_getElem? (i := 133) rfl, rfl⟩
theorem kw_71 : Cond.methodLink R_X 107 y_Entries_before ∈ zz_tb := List.mem_filter.mpr ⟨List.mem_of_getElem? (i := 130) (by decide +kernel), rfl⟩
theorem kw_72 : Cond.instanceMethod y_Entries_before ∈ zz_tb := List.mem_filter.mpr ⟨List.mem_of_getElem? (i := 131) (by decide +kernel), rfl⟩
theorem kw_73 : Cond.selects R_Entries y_Entries_before y_Entries_before ∈ zz_tb := List.mem_filter.mpr ⟨List.mem_of_getElem? (i := 132) (by decide +kernel), rfl⟩
theorem kw_74 : Cond.methodLink R_X 135 y_Heap_addToCount ∈ zz_tb := List.mem_filter.mpr ⟨List.mem_of_getElem? (i := 134) (by decide +kernel), rfl⟩
theorem kw_75 : Cond.methodLink R_X 67 y_Heap_inSlot ∈ zz_tb := List.mem_filter.mpr ⟨List.mem_of_getElem? (i := 139) (by decide +kernel), rfl⟩
theorem kw_76 : Cond.fieldLink R_X 30 "LazyCounts" "reckoned" "I" ∈ zz_tb := List.mem_filter.mpr ⟨List.mem_of_getElem? (i := 84) (by decide +kernel), rfl⟩
theorem kc_77 : Cond.code y_Entries_size b_Entries_size 1 (some .int) ∈ zz_tb := List.mem_filter.mpr ⟨List.mem_of_getElem? (i := 113) rfl, rfl⟩
theorem kw_78 : Cond.methodLink R_X 102 y_Entries_size ∈ zz_tb := List.mem_filter.mpr ⟨List.mem_of_getElem? (i := 110) (by decide +kernel), rfl⟩
theorem kw_79 : Cond.instanceMethod y_Entries_size ∈ zz_tb := List.mem_filter.mpr ⟨List.mem_of_getElem? (i := 111) (by decide +kernel), rfl⟩
theorem kw_80 : Cond.selects R_Entries y_Entries_size y_Entries_size ∈ zz_tb := List.mem_filter.mpr ⟨List.mem_of_getElem? (i := 112) (by decide +kernel), rfl⟩
theorem kc_81 : Cond.code y_Entries_clear b_Entries_clear 1 none ∈ zz_tb := List.mem_filter.mpr ⟨List.mem_of_getElem? (i := 146) rfl, rfl⟩
theorem kw_82 : Cond.methodLink R_X 129 y_Entries_clear ∈ zz_tb := List.mem_filter.mpr ⟨List.mem_of_getElem? (i := 143) (by decide +kernel), rfl⟩
theorem kw_83 : Cond.instanceMethod y_Entries_clear ∈ zz_tb := List.mem_filter.mpr ⟨List.mem_of_getElem? (i := 144) (by decide +kernel), rfl⟩
theorem kw_84 : Cond.selects R_Entries y_Entries_clear y_Entries_clear ∈ zz_tb := List.mem_filter.mpr ⟨List.mem_of_getElem? (i := 145) (by decide +kernel), rfl⟩
theorem kc_85 : Cond.code y_X_freeUnheld b_X_freeUnheld 3 (some .int) ∈ zz_tb := List.mem_filter.mpr ⟨List.mem_of_getElem? (i := 150) rfl, rfl⟩
theorem kw_86 : Cond.methodLink R_X 132 y_X_freeUnheld ∈ zz_tb := List.mem_filter.mpr ⟨List.mem_of_getElem? (i := 147) (by decide +kernel), rfl⟩
theorem kw_87 : Cond.instanceMethod y_X_freeUnheld ∈ zz_tb := List.mem_filter.mpr ⟨List.mem_of_getElem? (i := 149) (by decide +kernel), rfl⟩
theorem kw_88 : Cond.selects R_X y_X_freeUnheld y_X_freeUnheld ∈ zz_tb := List.mem_filter.mpr ⟨List.mem_of_getElem? (i := 2) (by decide +kernel), rfl⟩
theorem kc_89 : Cond.code y_X_countChangesOf b_X_countChangesOf 5 none ∈ zz_tb := List.mem_filter.mpr ⟨List.mem_of_getElem? (i := 117) rfl, rfl⟩
theorem kw_90 : Cond.methodLink R_X 126 y_X_countChangesOf ∈ zz_tb := List.mem_filter.mpr ⟨List.mem_of_getElem? (i := 114) (by decide +kernel), rfl⟩
theorem kw_91 : Cond.instanceMethod y_X_countChangesOf ∈ zz_tb := List.mem_filter.mpr ⟨List.mem_of_getElem? (i := 116) (by decide +kernel), rfl⟩
theorem kw_92 : Cond.selects R_X y_X_countChangesOf y_X_countChangesOf ∈ zz_tb := List.mem_filter.mpr ⟨List.mem_of_getElem? (i := 1) (by decide +kernel), rfl⟩
theorem kc_93 : Cond.code y_Entries_tellOf b_Entries_tellOf 3 (some .boolean) ∈ zz_tb := List.mem_filter.mpr ⟨List.mem_of_getElem? (i := 221) rfl, rfl⟩
theorem kw_94 : Cond.methodLink R_X 99 y_Entries_tellOf ∈ zz_tb := List.mem_filter.mpr ⟨List.mem_of_getElem? (i := 218) (by decide +kernel), rfl⟩
theorem kw_95 : Cond.instanceMethod y_Entries_tellOf ∈ zz_tb := List.mem_filter.mpr ⟨List.mem_of_getElem? (i := 219) (by decide +kernel), rfl⟩
theorem kw_96 : Cond.selects R_Entries y_Entries_tellOf y_Entries_tellOf ∈ zz_tb := List.mem_filter.mpr ⟨List.mem_of_getElem? (i := 220) (by decide +kernel), rfl⟩
theorem kc_97 : Cond.code y_Entries_areFull b_Entries_areFull 1 (some .boolean) ∈ zz_tb := List.mem_filter.mpr ⟨List.mem_of_getElem? (i := 225) rfl, rfl⟩
theorem kw_98 : Cond.methodLink R_X 116 y_Entries_areFull ∈ zz_tb := List.mem_filter.mpr ⟨List.mem_of_getElem? (i := 222) (by decide +kernel), rfl⟩
theorem kw_99 : Cond.instanceMethod y_Entries_areFull ∈ zz_tb := List.mem_filter.mpr ⟨List.mem_of_getElem? (i := 223) (by decide +kernel), rfl⟩
theorem kw_100 : Cond.selects R_Entries y_Entries_areFull y_Entries_areFull ∈ zz_tb := List.mem_filter.mpr ⟨List.mem_of_getElem? (i := 224) (by decide +kernel), rfl⟩
theorem kc_101 : Cond.code y_X_bringUpToDate b_X_bringUpToDate 2 (some .int) ∈ zz_tb := List.mem_filter.mpr ⟨List.mem_of_getElem? (i := 109) rfl, rfl⟩
theorem kw_102 : Cond.methodLink R_X 42 y_X_bringUpToDate ∈ zz_tb := List.mem_filter.mpr ⟨List.mem_of_getElem? (i := 106) (by decide +kernel), rfl⟩
theorem kw_103 : Cond.instanceMethod y_X_bringUpToDate ∈ zz_tb := List.mem_filter.mpr ⟨List.mem_of_getElem? (i := 108) (by decide +kernel), rfl⟩
theorem kw_104 : Cond.selects R_X y_X_bringUpToDate y_X_bringUpToDate ∈ zz_tb := List.mem_filter.mpr ⟨List.mem_of_getElem? (i := 0) (by decide +kernel), rfl⟩
theorem kc_105 : Cond.code y_Entries_open b_Entries_open 3 (some .int) ∈ zz_tb := List.mem_filter.mpr ⟨List.mem_of_getElem? (i := 229) rfl, rfl⟩
theorem kw_106 : Cond.methodLink R_X 117 y_Entries_open ∈ zz_tb := List.mem_filter.mpr ⟨List.mem_of_getElem? (i := 226) (by decide +kernel), rfl⟩
theorem kw_107 : Cond.instanceMethod y_Entries_open ∈ zz_tb := List.mem_filter.mpr ⟨List.mem_of_getElem? (i := 227) (by decide +kernel), rfl⟩
theorem kw_108 : Cond.selects R_Entries y_Entries_open y_Entries_open ∈ zz_tb := List.mem_filter.mpr ⟨List.mem_of_getElem? (i := 228) (by decide +kernel), rfl⟩
theorem kc_109 : Cond.code y_Entries_setBefore b_Entries_setBefore 4 none ∈ zz_tb := List.mem_filter.mpr ⟨List.mem_of_getElem? (i := 233) rfl, rfl⟩
theorem kw_110 : Cond.methodLink R_X 123 y_Entries_setBefore ∈ zz_tb := List.mem_filter.mpr ⟨List.mem_of_getElem? (i := 230) (by decide +kernel), rfl⟩
theorem kw_111 : Cond.instanceMethod y_Entries_setBefore ∈ zz_tb := List.mem_filter.mpr ⟨List.mem_of_getElem? (i := 231) (by decide +kernel), rfl⟩
theorem kw_112 : Cond.selects R_Entries y_Entries_setBefore y_Entries_setBefore ∈ zz_tb := List.mem_filter.mpr ⟨List.mem_of_getElem? (i := 232) (by decide +kernel), rfl⟩
theorem kc_113 : Cond.code y_Places_areFull b_Places_areFull 1 (some .boolean) ∈ zz_tb := List.mem_filter.mpr ⟨List.mem_of_getElem? (i := 101) rfl, rfl⟩
theorem kw_114 : Cond.methodLink R_X 34 y_Places_areFull ∈ zz_tb := List.mem_filter.mpr ⟨List.mem_of_getElem? (i := 98) (by decide +kernel), rfl⟩
theorem kw_115 : Cond.instanceMethod y_Places_areFull ∈ zz_tb := List.mem_filter.mpr ⟨List.mem_of_getElem? (i := 99) (by decide +kernel), rfl⟩
theorem kw_116 : Cond.selects R_Places y_Places_areFull y_Places_areFull ∈ zz_tb := List.mem_filter.mpr ⟨List.mem_of_getElem? (i := 100) (by decide +kernel), rfl⟩
theorem kc_117 : Cond.code y_Heap_lowestRoom b_Heap_lowestRoom 4 (some .int) ∈ zz_tb := List.mem_filter.mpr ⟨List.mem_of_getElem? (i := 105) rfl, rfl⟩
theorem kw_118 : Cond.methodLink R_X 38 y_Heap_lowestRoom ∈ zz_tb := List.mem_filter.mpr ⟨List.mem_of_getElem? (i := 102) (by decide +kernel), rfl⟩
theorem kw_119 : Cond.instanceMethod y_Heap_lowestRoom ∈ zz_tb := List.mem_filter.mpr ⟨List.mem_of_getElem? (i := 103) (by decide +kernel), rfl⟩
theorem kw_120 : Cond.selects R_Heap y_Heap_lowestRoom y_Heap_lowestRoom ∈ zz_tb := List.mem_filter.mpr ⟨List.mem_of_getElem? (i := 104) (by decide +kernel), rfl⟩
theorem kc_121 : Cond.code y_Heap_layNew b_Heap_layNew 4 (some .int) ∈ zz_tb := List.mem_filter.mpr ⟨List.mem_of_getElem? (i := 181) rfl, rfl⟩
theorem kw_122 : Cond.methodLink R_X 46 y_Heap_layNew ∈ zz_tb := List.mem_filter.mpr ⟨List.mem_of_getElem? (i := 178) (by decide +kernel), rfl⟩
theorem kw_123 : Cond.instanceMethod y_Heap_layNew ∈ zz_tb := List.mem_filter.mpr ⟨List.mem_of_getElem? (i := 179) (by decide +kernel), rfl⟩
theorem kw_124 : Cond.selects R_Heap y_Heap_layNew y_Heap_layNew ∈ zz_tb := List.mem_filter.mpr ⟨List.mem_of_getElem? (i := 180) (by decide +kernel), rfl⟩
theorem kc_125 : Cond.code y_Places_push b_Places_push 2 (some .int) ∈ zz_tb := List.mem_filter.mpr ⟨List.mem_of_getElem? (i := 185) rfl, rfl⟩
theorem kw_126 : Cond.methodLink R_X 50 y_Places_push ∈ zz_tb := List.mem_filter.mpr ⟨List.mem_of_getElem? (i := 182) (by decide +kernel), rfl⟩
theorem kw_127 : Cond.instanceMethod y_Places_push ∈ zz_tb := List.mem_filter.mpr ⟨List.mem_of_getElem? (i := 183) (by decide +kernel), rfl⟩
theorem kw_128 : Cond.selects R_Places y_Places_push y_Places_push ∈ zz_tb := List.mem_filter.mpr ⟨List.mem_of_getElem? (i := 184) (by decide +kernel), rfl⟩
theorem kc_129 : Cond.code y_X_firstCellAt b_X_firstCellAt 2 (some .int) ∈ zz_tb := List.mem_filter.mpr ⟨List.mem_of_getElem? (i := 205) rfl, rfl⟩
theorem kw_130 : Cond.methodLink R_X 60 y_X_firstCellAt ∈ zz_tb := List.mem_filter.mpr ⟨List.mem_of_getElem? (i := 202) (by decide +kernel), rfl⟩
theorem kw_131 : Cond.instanceMethod y_X_firstCellAt ∈ zz_tb := List.mem_filter.mpr ⟨List.mem_of_getElem? (i := 204) (by decide +kernel), rfl⟩
theorem kw_132 : Cond.selects R_X y_X_firstCellAt y_X_firstCellAt ∈ zz_tb := List.mem_filter.mpr ⟨List.mem_of_getElem? (i := 4) (by decide +kernel), rfl⟩
theorem kc_133 : Cond.code y_Heap_hasSlot b_Heap_hasSlot 3 (some .boolean) ∈ zz_tb := List.mem_filter.mpr ⟨List.mem_of_getElem? (i := 209) rfl, rfl⟩
theorem kw_134 : Cond.methodLink R_X 63 y_Heap_hasSlot ∈ zz_tb := List.mem_filter.mpr ⟨List.mem_of_getElem? (i := 206) (by decide +kernel), rfl⟩
theorem kw_135 : Cond.instanceMethod y_Heap_hasSlot ∈ zz_tb := List.mem_filter.mpr ⟨List.mem_of_getElem? (i := 207) (by decide +kernel), rfl⟩
theorem kw_136 : Cond.selects R_Heap y_Heap_hasSlot y_Heap_hasSlot ∈ zz_tb := List.mem_filter.mpr ⟨List.mem_of_getElem? (i := 208) (by decide +kernel), rfl⟩
theorem kc_137 : Cond.code y_X_note b_X_note 6 none ∈ zz_tb := List.mem_filter.mpr ⟨List.mem_of_getElem? (i := 217) rfl, rfl⟩
theorem kw_138 : Cond.methodLink R_X 70 y_X_note ∈ zz_tb := List.mem_filter.mpr ⟨List.mem_of_getElem? (i := 214) (by decide +kernel), rfl⟩
theorem kw_139 : Cond.instanceMethod y_X_note ∈ zz_tb := List.mem_filter.mpr ⟨List.mem_of_getElem? (i := 216) (by decide +kernel), rfl⟩
theorem kw_140 : Cond.selects R_X y_X_note y_X_note ∈ zz_tb := List.mem_filter.mpr ⟨List.mem_of_getElem? (i := 5) (by decide +kernel), rfl⟩
theorem kc_141 : Cond.code y_Heap_setSlot b_Heap_setSlot 4 none ∈ zz_tb := List.mem_filter.mpr ⟨List.mem_of_getElem? (i := 237) rfl, rfl⟩
theorem kw_142 : Cond.methodLink R_X 74 y_Heap_setSlot ∈ zz_tb := List.mem_filter.mpr ⟨List.mem_of_getElem? (i := 234) (by decide +kernel), rfl⟩
theorem kw_143 : Cond.instanceMethod y_Heap_setSlot ∈ zz_tb := List.mem_filter.mpr ⟨List.mem_of_getElem? (i := 235) (by decide +kernel), rfl⟩
theorem kw_144 : Cond.selects R_Heap y_Heap_setSlot y_Heap_setSlot ∈ zz_tb := List.mem_filter.mpr ⟨List.mem_of_getElem? (i := 236) (by decide +kernel), rfl⟩
theorem kc_145 : Cond.code y_Places_size b_Places_size 1 (some .int) ∈ zz_tb := List.mem_filter.mpr ⟨List.mem_of_getElem? (i := 245) rfl, rfl⟩
theorem kw_146 : Cond.methodLink R_X 78 y_Places_size ∈ zz_tb := List.mem_filter.mpr ⟨List.mem_of_getElem? (i := 242) (by decide +kernel), rfl⟩
theorem kw_147 : Cond.instanceMethod y_Places_size ∈ zz_tb := List.mem_filter.mpr ⟨List.mem_of_getElem? (i := 243) (by decide +kernel), rfl⟩
theorem kw_148 : Cond.selects R_Places y_Places_size y_Places_size ∈ zz_tb := List.mem_filter.mpr ⟨List.mem_of_getElem? (i := 244) (by decide +kernel), rfl⟩
theorem kc_149 : Cond.code y_Places_pop b_Places_pop 1 (some .int) ∈ zz_tb := List.mem_filter.mpr ⟨List.mem_of_getElem? (i := 249) rfl, rfl⟩
theorem kw_150 : Cond.methodLink R_X 81 y_Places_pop ∈ zz_tb := List.mem_filter.mpr ⟨List.mem_of_getElem? (i := 246) (by decide +kernel), rfl⟩
theorem kw_151 : Cond.instanceMethod y_Places_pop ∈ zz_tb := List.mem_filter.mpr ⟨List.mem_of_getElem? (i := 247) (by decide +kernel), rfl⟩
theorem kw_152 : Cond.selects R_Places y_Places_pop y_Places_pop ∈ zz_tb := List.mem_filter.mpr ⟨List.mem_of_getElem? (i := 248) (by decide +kernel), rfl⟩
theorem kc_153 : Cond.code y_Heap_objects b_Heap_objects 3 (some .int) ∈ zz_tb := List.mem_filter.mpr ⟨List.mem_of_getElem? (i := 269) rfl, rfl⟩
theorem kw_154 : Cond.methodLink R_X 84 y_Heap_objects ∈ zz_tb := List.mem_filter.mpr ⟨List.mem_of_getElem? (i := 266) (by decide +kernel), rfl⟩
theorem kw_155 : Cond.instanceMethod y_Heap_objects ∈ zz_tb := List.mem_filter.mpr ⟨List.mem_of_getElem? (i := 267) (by decide +kernel), rfl⟩
theorem kw_156 : Cond.selects R_Heap y_Heap_objects y_Heap_objects ∈ zz_tb := List.mem_filter.mpr ⟨List.mem_of_getElem? (i := 268) (by decide +kernel), rfl⟩
theorem kc_157 : Cond.code y_Heap_countAt b_Heap_countAt 2 (some .int) ∈ zz_tb := List.mem_filter.mpr ⟨List.mem_of_getElem? (i := 277) rfl, rfl⟩
theorem kw_158 : Cond.methodLink R_X 90 y_Heap_countAt ∈ zz_tb := List.mem_filter.mpr ⟨List.mem_of_getElem? (i := 274) (by decide +kernel), rfl⟩
theorem kw_159 : Cond.instanceMethod y_Heap_countAt ∈ zz_tb := List.mem_filter.mpr ⟨List.mem_of_getElem? (i := 275) (by decide +kernel), rfl⟩
theorem kw_160 : Cond.selects R_Heap y_Heap_countAt y_Heap_countAt ∈ zz_tb := List.mem_filter.mpr ⟨List.mem_of_getElem? (i := 276) (by decide +kernel), rfl⟩
theorem kc_161 : Cond.code y_Heap_uncountedObjects b_Heap_uncountedObjects 3 (some .int) ∈ zz_tb := List.mem_filter.mpr ⟨List.mem_of_getElem? (i := 293) rfl, rfl⟩
theorem kw_162 : Cond.methodLink R_X 93 y_Heap_uncountedObjects ∈ zz_tb := List.mem_filter.mpr ⟨List.mem_of_getElem? (i := 290) (by decide +kernel), rfl⟩
theorem kw_163 : Cond.instanceMethod y_Heap_uncountedObjects ∈ zz_tb := List.mem_filter.mpr ⟨List.mem_of_getElem? (i := 291) (by decide +kernel), rfl⟩
theorem kw_164 : Cond.selects R_Heap y_Heap_uncountedObjects y_Heap_uncountedObjects ∈ zz_tb := List.mem_filter.mpr ⟨List.mem_of_getElem? (i := 292) (by decide +kernel), rfl⟩
theorem kc_165 : Cond.code y_Entries_has b_Entries_has 2 (some .boolean) ∈ zz_tb := List.mem_filter.mpr ⟨List.mem_of_getElem? (i := 310) rfl, rfl⟩
theorem kw_166 : Cond.methodLink R_X 103 y_Entries_has ∈ zz_tb := List.mem_filter.mpr ⟨List.mem_of_getElem? (i := 307) (by decide +kernel), rfl⟩
theorem kw_167 : Cond.instanceMethod y_Entries_has ∈ zz_tb := List.mem_filter.mpr ⟨List.mem_of_getElem? (i := 308) (by decide +kernel), rfl⟩
theorem kw_168 : Cond.selects R_Entries y_Entries_has y_Entries_has ∈ zz_tb := List.mem_filter.mpr ⟨List.mem_of_getElem? (i := 309) (by decide +kernel), rfl⟩
theorem kc_169 : Cond.code y_Heap_freeCells b_Heap_freeCells 3 (some .int) ∈ zz_tb := List.mem_filter.mpr ⟨List.mem_of_getElem? (i := 318) rfl, rfl⟩
theorem kw_170 : Cond.methodLink R_X 110 y_Heap_freeCells ∈ zz_tb := List.mem_filter.mpr ⟨List.mem_of_getElem? (i := 315) (by decide +kernel), rfl⟩
theorem kw_171 : Cond.instanceMethod y_Heap_freeCells ∈ zz_tb := List.mem_filter.mpr ⟨List.mem_of_getElem? (i := 316) (by decide +kernel), rfl⟩
theorem kw_172 : Cond.selects R_Heap y_Heap_freeCells y_Heap_freeCells ∈ zz_tb := List.mem_filter.mpr ⟨List.mem_of_getElem? (i := 317) (by decide +kernel), rfl⟩
theorem kw_173 : Cond.fieldLink R_M 13 "LazyCountsModel" "slots" "[I" ∈ zz_tb := List.mem_filter.mpr ⟨List.mem_of_getElem? (i := 330) (by decide +kernel), rfl⟩
theorem kw_174 : Cond.fieldLink R_M 7 "LazyCountsModel" "number" "[I" ∈ zz_tb := List.mem_filter.mpr ⟨List.mem_of_getElem? (i := 329) (by decide +kernel), rfl⟩
theorem kw_175 : Cond.fieldLink R_M 23 "LazyCountsModel" "holds" "[I" ∈ zz_tb := List.mem_filter.mpr ⟨List.mem_of_getElem? (i := 333) (by decide +kernel), rfl⟩
theorem kw_176 : Cond.fieldLink R_M 35 "LazyCountsModel" "height" "I" ∈ zz_tb := List.mem_filter.mpr ⟨List.mem_of_getElem? (i := 335) (by decide +kernel), rfl⟩
theorem kw_177 : Cond.fieldLink R_M 26 "LazyCountsModel" "places" "[I" ∈ zz_tb := List.mem_filter.mpr ⟨List.mem_of_getElem? (i := 336) (by decide +kernel), rfl⟩
theorem kw_178 : Cond.fieldLink R_M 16 "LazyCountsModel" "counts" "[I" ∈ zz_tb := List.mem_filter.mpr ⟨List.mem_of_getElem? (i := 331) (by decide +kernel), rfl⟩
theorem kw_179 : Cond.fieldLink R_M 19 "LazyCountsModel" "noted" "[Z" ∈ zz_tb := List.mem_filter.mpr ⟨List.mem_of_getElem? (i := 332) (by decide +kernel), rfl⟩
theorem kc_180 : Cond.code y_M_holders b_M_holders 5 (some .int) ∈ zz_tb := List.mem_filter.mpr ⟨List.mem_of_getElem? (i := 386) rfl, rfl⟩
theorem kw_181 : Cond.methodLink R_M 39 y_M_holders ∈ zz_tb := List.mem_filter.mpr ⟨List.mem_of_getElem? (i := 383) (by decide +kernel), rfl⟩
theorem kw_182 : Cond.instanceMethod y_M_holders ∈ zz_tb := List.mem_filter.mpr ⟨List.mem_of_getElem? (i := 385) (by decide +kernel), rfl⟩
theorem kw_183 : Cond.selects R_M y_M_holders y_M_holders ∈ zz_tb := List.mem_filter.mpr ⟨List.mem_of_getElem? (i := 8) (by decide +kernel), rfl⟩
theorem kw_184 : Cond.initialized R_M ∈ zz_tb := List.mem_filter.mpr ⟨List.mem_of_getElem? (i := 24) (by decide +kernel), rfl⟩
theorem kc_185 : Cond.code y_M_onStack b_M_onStack 4 (some .boolean) ∈ zz_tb := List.mem_filter.mpr ⟨List.mem_of_getElem? (i := 394) rfl, rfl⟩
theorem kw_186 : Cond.methodLink R_M 43 y_M_onStack ∈ zz_tb := List.mem_filter.mpr ⟨List.mem_of_getElem? (i := 391) (by decide +kernel), rfl⟩
theorem kw_187 : Cond.instanceMethod y_M_onStack ∈ zz_tb := List.mem_filter.mpr ⟨List.mem_of_getElem? (i := 393) (by decide +kernel), rfl⟩
theorem kw_188 : Cond.selects R_M y_M_onStack y_M_onStack ∈ zz_tb := List.mem_filter.mpr ⟨List.mem_of_getElem? (i := 10) (by decide +kernel), rfl⟩
theorem kw_189 : Cond.fieldLink R_M 47 "LazyCountsModel" "runs" "I" ∈ zz_tb := List.mem_filter.mpr ⟨List.mem_of_getElem? (i := 340) (by decide +kernel), rfl⟩
theorem kw_190 : Cond.fieldLink R_M 50 "LazyCountsModel" "entries" "I" ∈ zz_tb := List.mem_filter.mpr ⟨List.mem_of_getElem? (i := 337) (by decide +kernel), rfl⟩
theorem kc_191 : Cond.code y_M_recount b_M_recount 2 none ∈ zz_tb := List.mem_filter.mpr ⟨List.mem_of_getElem? (i := 382) rfl, rfl⟩
theorem kw_192 : Cond.methodLink R_M 53 y_M_recount ∈ zz_tb := List.mem_filter.mpr ⟨List.mem_of_getElem? (i := 379) (by decide +kernel), rfl⟩
theorem kw_193 : Cond.instanceMethod y_M_recount ∈ zz_tb := List.mem_filter.mpr ⟨List.mem_of_getElem? (i := 381) (by decide +kernel), rfl⟩
theorem kw_194 : Cond.selects R_M y_M_recount y_M_recount ∈ zz_tb := List.mem_filter.mpr ⟨List.mem_of_getElem? (i := 7) (by decide +kernel), rfl⟩
theorem kc_195 : Cond.code y_M_round b_M_round 3 (some .int) ∈ zz_tb := List.mem_filter.mpr ⟨List.mem_of_getElem? (i := 390) rfl, rfl⟩
theorem kw_196 : Cond.methodLink R_M 56 y_M_round ∈ zz_tb := List.mem_filter.mpr ⟨List.mem_of_getElem? (i := 387) (by decide +kernel), rfl⟩
theorem kw_197 : Cond.instanceMethod y_M_round ∈ zz_tb := List.mem_filter.mpr ⟨List.mem_of_getElem? (i := 389) (by decide +kernel), rfl⟩
theorem kw_198 : Cond.selects R_M y_M_round y_M_round ∈ zz_tb := List.mem_filter.mpr ⟨List.mem_of_getElem? (i := 9) (by decide +kernel), rfl⟩
theorem kc_199 : Cond.code y_M_alive b_M_alive 3 (some .int) ∈ zz_tb := List.mem_filter.mpr ⟨List.mem_of_getElem? (i := 374) rfl, rfl⟩
theorem kw_200 : Cond.methodLink R_M 60 y_M_alive ∈ zz_tb := List.mem_filter.mpr ⟨List.mem_of_getElem? (i := 371) (by decide +kernel), rfl⟩
theorem kw_201 : Cond.instanceMethod y_M_alive ∈ zz_tb := List.mem_filter.mpr ⟨List.mem_of_getElem? (i := 372) (by decide +kernel), rfl⟩
theorem kw_202 : Cond.selects R_M y_M_alive y_M_alive ∈ zz_tb := List.mem_filter.mpr ⟨List.mem_of_getElem? (i := 373) (by decide +kernel), rfl⟩
theorem kc_203 : Cond.code y_M_settle b_M_settle 2 none ∈ zz_tb := List.mem_filter.mpr ⟨List.mem_of_getElem? (i := 378) rfl, rfl⟩
theorem kw_204 : Cond.methodLink R_M 63 y_M_settle ∈ zz_tb := List.mem_filter.mpr ⟨List.mem_of_getElem? (i := 375) (by decide +kernel), rfl⟩
theorem kw_205 : Cond.instanceMethod y_M_settle ∈ zz_tb := List.mem_filter.mpr ⟨List.mem_of_getElem? (i := 377) (by decide +kernel), rfl⟩
theorem kw_206 : Cond.selects R_M y_M_settle y_M_settle ∈ zz_tb := List.mem_filter.mpr ⟨List.mem_of_getElem? (i := 6) (by decide +kernel), rfl⟩
theorem kc_207 : Cond.code y_M_within b_M_within 3 (some .boolean) ∈ zz_tb := List.mem_filter.mpr ⟨List.mem_of_getElem? (i := 401) rfl, rfl⟩
theorem kw_208 : Cond.methodLink R_M 66 y_M_within ∈ zz_tb := List.mem_filter.mpr ⟨List.mem_of_getElem? (i := 399) (by decide +kernel), rfl⟩
theorem kw_209 : Cond.static y_M_within ∈ zz_tb := List.mem_filter.mpr ⟨List.mem_of_getElem? (i := 400) (by decide +kernel), rfl⟩
theorem kc_210 : Cond.code y_M_room b_M_room 4 (some .int) ∈ zz_tb := List.mem_filter.mpr ⟨List.mem_of_getElem? (i := 405) rfl, rfl⟩
theorem kw_211 : Cond.methodLink R_M 70 y_M_room ∈ zz_tb := List.mem_filter.mpr ⟨List.mem_of_getElem? (i := 402) (by decide +kernel), rfl⟩
theorem kw_212 : Cond.instanceMethod y_M_room ∈ zz_tb := List.mem_filter.mpr ⟨List.mem_of_getElem? (i := 404) (by decide +kernel), rfl⟩
theorem kw_213 : Cond.selects R_M y_M_room y_M_room ∈ zz_tb := List.mem_filter.mpr ⟨List.mem_of_getElem? (i := 11) (by decide +kernel), rfl⟩
theorem kw_214 : Cond.fieldLink R_M 73 "LazyCountsModel" "made" "I" ∈ zz_tb := List.mem_filter.mpr ⟨List.mem_of_getElem? (i := 334) (by decide +kernel), rfl⟩
theorem kc_215 : Cond.code y_M_push b_M_push 2 none ∈ zz_tb := List.mem_filter.mpr ⟨List.mem_of_getElem? (i := 409) rfl, rfl⟩
theorem kw_216 : Cond.methodLink R_M 76 y_M_push ∈ zz_tb := List.mem_filter.mpr ⟨List.mem_of_getElem? (i := 406) (by decide +kernel), rfl⟩
theorem kw_217 : Cond.instanceMethod y_M_push ∈ zz_tb := List.mem_filter.mpr ⟨List.mem_of_getElem? (i := 408) (by decide +kernel), rfl⟩
theorem kw_218 : Cond.selects R_M y_M_push y_M_push ∈ zz_tb := List.mem_filter.mpr ⟨List.mem_of_getElem? (i := 12) (by decide +kernel), rfl⟩
theorem kc_219 : Cond.code y_M_isPlace b_M_isPlace 2 (some .boolean) ∈ zz_tb := List.mem_filter.mpr ⟨List.mem_of_getElem? (i := 417) rfl, rfl⟩
theorem kw_220 : Cond.methodLink R_M 80 y_M_isPlace ∈ zz_tb := List.mem_filter.mpr ⟨List.mem_of_getElem? (i := 414) (by decide +kernel), rfl⟩
theorem kw_221 : Cond.instanceMethod y_M_isPlace ∈ zz_tb := List.mem_filter.mpr ⟨List.mem_of_getElem? (i := 416) (by decide +kernel), rfl⟩
theorem kw_222 : Cond.selects R_M y_M_isPlace y_M_isPlace ∈ zz_tb := List.mem_filter.mpr ⟨List.mem_of_getElem? (i := 13) (by decide +kernel), rfl⟩
theorem kc_223 : Cond.code y_M_find b_M_find 4 (some .int) ∈ zz_tb := List.mem_filter.mpr ⟨List.mem_of_getElem? (i := 429) rfl, rfl⟩
theorem kw_224 : Cond.methodLink R_M 83 y_M_find ∈ zz_tb := List.mem_filter.mpr ⟨List.mem_of_getElem? (i := 426) (by decide +kernel), rfl⟩
theorem kw_225 : Cond.instanceMethod y_M_find ∈ zz_tb := List.mem_filter.mpr ⟨List.mem_of_getElem? (i := 428) (by decide +kernel), rfl⟩
theorem kw_226 : Cond.selects R_M y_M_find y_M_find ∈ zz_tb := List.mem_filter.mpr ⟨List.mem_of_getElem? (i := 15) (by decide +kernel), rfl⟩
theorem kc_227 : Cond.code y_M_slotCell b_M_slotCell 4 (some .int) ∈ zz_tb := List.mem_filter.mpr ⟨List.mem_of_getElem? (i := 425) rfl, rfl⟩
theorem kw_228 : Cond.methodLink R_M 86 y_M_slotCell ∈ zz_tb := List.mem_filter.mpr ⟨List.mem_of_getElem? (i := 422) (by decide +kernel), rfl⟩
theorem kw_229 : Cond.instanceMethod y_M_slotCell ∈ zz_tb := List.mem_filter.mpr ⟨List.mem_of_getElem? (i := 424) (by decide +kernel), rfl⟩
theorem kw_230 : Cond.selects R_M y_M_slotCell y_M_slotCell ∈ zz_tb := List.mem_filter.mpr ⟨List.mem_of_getElem? (i := 14) (by decide +kernel), rfl⟩
theorem kw_231 : Cond.fieldLink R_M 29 "LazyCountsModel" "who" "[I" ∈ zz_tb := List.mem_filter.mpr ⟨List.mem_of_getElem? (i := 338) (by decide +kernel), rfl⟩
theorem kw_232 : Cond.fieldLink R_M 32 "LazyCountsModel" "held" "[I" ∈ zz_tb := List.mem_filter.mpr ⟨List.mem_of_getElem? (i := 339) (by decide +kernel), rfl⟩
theorem kc_233 : Cond.code y_M_makeRoom b_M_makeRoom 1 none ∈ zz_tb := List.mem_filter.mpr ⟨List.mem_of_getElem? (i := 437) rfl, rfl⟩
theorem kw_234 : Cond.methodLink R_M 90 y_M_makeRoom ∈ zz_tb := List.mem_filter.mpr ⟨List.mem_of_getElem? (i := 434) (by decide +kernel), rfl⟩
theorem kw_235 : Cond.instanceMethod y_M_makeRoom ∈ zz_tb := List.mem_filter.mpr ⟨List.mem_of_getElem? (i := 436) (by decide +kernel), rfl⟩
theorem kw_236 : Cond.selects R_M y_M_makeRoom y_M_makeRoom ∈ zz_tb := List.mem_filter.mpr ⟨List.mem_of_getElem? (i := 16) (by decide +kernel), rfl⟩
theorem kc_237 : Cond.code y_M_note b_M_note 3 none ∈ zz_tb := List.mem_filter.mpr ⟨List.mem_of_getElem? (i := 441) rfl, rfl⟩
theorem kw_238 : Cond.methodLink R_M 93 y_M_note ∈ zz_tb := List.mem_filter.mpr ⟨List.mem_of_getElem? (i := 438) (by decide +kernel), rfl⟩
theorem kw_239 : Cond.instanceMethod y_M_note ∈ zz_tb := List.mem_filter.mpr ⟨List.mem_of_getElem? (i := 440) (by decide +kernel), rfl⟩
theorem kw_240 : Cond.selects R_M y_M_note y_M_note ∈ zz_tb := List.mem_filter.mpr ⟨List.mem_of_getElem? (i := 17) (by decide +kernel), rfl⟩
theorem kc_241 : Cond.code y_M_slotsOf b_M_slotsOf 3 (some .int) ∈ zz_tb := List.mem_filter.mpr ⟨List.mem_of_getElem? (i := 486) rfl, rfl⟩
theorem kw_242 : Cond.methodLink R_M 96 y_M_slotsOf ∈ zz_tb := List.mem_filter.mpr ⟨List.mem_of_getElem? (i := 483) (by decide +kernel), rfl⟩
theorem kw_243 : Cond.instanceMethod y_M_slotsOf ∈ zz_tb := List.mem_filter.mpr ⟨List.mem_of_getElem? (i := 485) (by decide +kernel), rfl⟩
theorem kw_244 : Cond.selects R_M y_M_slotsOf y_M_slotsOf ∈ zz_tb := List.mem_filter.mpr ⟨List.mem_of_getElem? (i := 18) (by decide +kernel), rfl⟩
end
section
section BASE
/-! contracts that name the answer and the world behind the call; a call, a return, in one row each -/
def zz_w (y : MethodName) (b : ByteArray) (n : Nat) (ret : Option FieldType) : List Cond := Cond.code y b n ret :: zz_tb
abbrev zz_B (D : va_G) (tys : List (ClassId × FieldType)) (ws ws' : va_W) (sz : Nat) (_ : Unit) (t : State) : Prop := va_P D classes ws' t.heap ∧ va_K D classes tys t ∧ va_D (va_A ws sz) ws'
abbrev zz_Pre (D : va_G) (tys : List (ClassId × FieldType)) (av : List Value) (ws : va_W) (sz : Nat) : Array Value → State → Prop := va_Pc av (fun U => U.heap.size = sz ∧ va_P D classes ws U.heap ∧ va_K D classes tys U ∧ va_D (fun _ => True) ws)
def zz_MI (l : Launch) (y : MethodName) (b : ByteArray) (n : Nat) (ty : FieldType) (rm : Room) (D : va_G) (tys : List (ClassId × FieldType)) (av : List Value) (ws : va_W) (r : Int32) (ws' : va_W) : Prop :=
  ∀ sz : Nat, Met l y (zz_w y b n (some ty)) rm (zz_Pre D tys av ws sz) (va_Qi (fun (x : Int32) (_ : Unit) => x = r) (zz_B D tys ws ws' sz) (va_A ws sz)) 0 0 (va_A ws sz)
def zz_MV (l : Launch) (y : MethodName) (b : ByteArray) (n : Nat) (rm : Room) (D : va_G) (tys : List (ClassId × FieldType)) (av : List Value) (ws : va_W) (ws' : va_W) : Prop :=
  ∀ sz : Nat, Met l y (zz_w y b n none) rm (zz_Pre D tys av ws sz) (va_Qv (fun (_ : Unit) => True) (zz_B D tys ws ws' sz) (va_A ws sz)) 0 0 (va_A ws sz)
theorem zz_MI_of {l : Launch} {y : MethodName} {b : ByteArray} {n : Nat} {ty : FieldType} {rm : Room} {D : va_G} {tys : List (ClassId × FieldType)} {av : List Value} {ws : va_W} {r : Int32} {ws' : va_W}
    (hy : plainName y.cls = true) (hav : (lg_sl av).length ≤ n) (hnar : narrow ty (.int r) = .int r)
    (body : ∀ (p : Program) (e : Env) (s : State) (m : MethodId) (args : Array Value) (below : List Frame) (meth : Method) (c : Code) (A : Nat → Prop) (ls : Array Slot) (Q : State → Prop),
      p.tables.exec = Jvm.exec → c.code = b → c.maxLocals = n → s.vm.findClass y.cls = some m.cls → (∀ w ∈ zz_tb, w.before args s = true) →
      va_K D classes tys s → va_P D classes ws s.heap → va_D A ws → va_S A s.heap s.heap [] → (∀ q : Nat, s.heap.size ≤ q → A q) → lv_has ls n (lv_args 0 av) →
      (∀ (H : Heap) (locs : List Loc) (pc : Nat) (ls : Array Slot), decode b pc = .ok (.ireturn, 1) → va_P D classes ws' H → va_D A ws' → va_S A s.heap H locs → W p l e rm s m args below meth c H locs 0 0 Q (F0 m pc ls [.int r])) →
      W p l e rm s m args below meth c s.heap [] 0 0 Q (F0 m 0 ls [])) :
    zz_MI l y b n ty rm D tys av ws r ws' := by
  intro sz
  refine Met.ofW (cc := b) (maxL := n) (ret := some ty) hy rfl ?_
  intro p e s m args below meth c s₁ B hml hv
  obtain ⟨rfl, hsz, hP, hK, hD0⟩ := hv
  have hx := B.exec
  have hb := B.bytes
  have hr := B.returns
  have hts := atoms_spec (ws := zz_w y b n (some ty)) B.pre
  have hown : s.vm.findClass y.cls = some m.cls := findClass_of_methodNamed B.named
  have hlocks := B.notSynchronized
  subst hsz
  have hD := hD0.self (sz := s.heap.size)
  have hA : ∀ q : Nat, s.heap.size ≤ q → va_A ws s.heap.size q := fun q h => Or.inr h
  have hS : va_S (va_A ws s.heap.size) s.heap s.heap [] := va_S.rf
  have hl := lv_entry av (n := n) hav
  rw [lg_entry_eq]
  refine body p e s m _ below meth c (va_A ws s.heap.size) _ _ hx hb hml hown (fun w hw => hts w (List.mem_cons_of_mem _ hw)) hK hP hD hS hA hl ?_
  intro H locs pc ls hd hP' hD' hS'
  exact W.zret hx hb hr hnar (fun t ht hW => ⟨⟨r, (), rfl, rfl, by rw [ht]; exact hP', va_K.moved hW.alike hK, hD'⟩, hS'.F ht⟩) hS'.2.2 hd
theorem zz_MV_of {l : Launch} {y : MethodName} {b : ByteArray} {n : Nat} {rm : Room} {D : va_G} {tys : List (ClassId × FieldType)} {av : List Value} {ws : va_W} {ws' : va_W}
    (hy : plainName y.cls = true) (hav : (lg_sl av).length ≤ n)
    (body : ∀ (p : Program) (e : Env) (s : State) (m : MethodId) (args : Array Value) (below : List Frame) (meth : Method) (c : Code) (A : Nat → Prop) (ls : Array Slot) (Q : State → Prop),
      p.tables.exec = Jvm.exec → c.code = b → c.maxLocals = n → s.vm.findClass y.cls = some m.cls → (∀ w ∈ zz_tb, w.before args s = true) →
      va_K D classes tys s → va_P D classes ws s.heap → va_D A ws → va_S A s.heap s.heap [] → (∀ q : Nat, s.heap.size ≤ q → A q) → lv_has ls n (lv_args 0 av) →
      (∀ (H : Heap) (locs : List Loc) (pc : Nat) (ls : Array Slot), decode b pc = .ok (.return_, 1) → va_P D classes ws' H → va_D A ws' → va_S A s.heap H locs → W p l e rm s m args below meth c H locs 0 0 Q (F0 m pc ls [])) →
      W p l e rm s m args below meth c s.heap [] 0 0 Q (F0 m 0 ls [])) :
    zz_MV l y b n rm D tys av ws ws' := by
  intro sz
  refine Met.ofW (cc := b) (maxL := n) (ret := none) hy rfl ?_
  intro p e s m args below meth c s₁ B hml hv
  obtain ⟨rfl, hsz, hP, hK, hD0⟩ := hv
  have hx := B.exec
  have hb := B.bytes
  have hr := B.returns
  have hts := atoms_spec (ws := zz_w y b n none) B.pre
  have hown : s.vm.findClass y.cls = some m.cls := findClass_of_methodNamed B.named
  have hlocks := B.notSynchronized
  subst hsz
  have hD := hD0.self (sz := s.heap.size)
  have hA : ∀ q : Nat, s.heap.size ≤ q → va_A ws s.heap.size q := fun q h => Or.inr h
  have hS : va_S (va_A ws s.heap.size) s.heap s.heap [] := va_S.rf
  have hl := lv_entry av (n := n) hav
  rw [lg_entry_eq]
  refine body p e s m _ below meth c (va_A ws s.heap.size) _ _ hx hb hml hown (fun w hw => hts w (List.mem_cons_of_mem _ hw)) hK hP hD hS hA hl ?_
  intro H locs pc ls hd hP' hD' hS'
  exact W.vret hx hb hr (fun t ht hW => ⟨⟨(), rfl, trivial, by rw [ht]; exact hP', va_K.moved hW.alike hK, hD'⟩, hS'.F ht⟩) hS'.2.2 hd
theorem zz_subP {D : va_G} {cl : List vw_C} {ws wc : va_W} {H : Heap} {is : List Nat} (hC : is.map (fun i => ws[i]?) = wc.map some) (h : va_P D cl ws H) : va_P D cl wc H := by
  intro k q hk
  have h1 : (is.map (fun i => ws[i]?))[k]? = some (some q) := by rw [hC, List.getElem?_map, hk]; rfl
  rw [List.getElem?_map] at h1
  cases hi : is[k]? with
  | none => rw [hi] at h1; cases h1
  | some i => rw [hi] at h1; exact h i q (Option.some.inj h1)
theorem zz_toP {D : va_G} {cl : List vw_C} {ws ws' : va_W} {H : Heap} (e : ws = ws') (h : va_P D cl ws H) : va_P D cl ws' H := e ▸ h
theorem zz_toD {A : Nat → Prop} {ws ws' : va_W} (e : ws = ws') (h : va_D A ws) : va_D A ws' := e ▸ h
theorem zz_good0 : zz_tb.all (fun w => k2_isCode w || goodWord w) = true := List.all_eq_true.mpr (fun w hw => (List.mem_filter.mp hw).2)
theorem zz_good : GoodIn zz_tb zz_tb := by
  intro w hw
  refine ⟨hw, ?_⟩
  have h := List.all_eq_true.mp zz_good0 w hw
  simp only [Bool.or_eq_true] at h
  rcases h with h | h
  · cases w <;> first | (simp [k2_isCode] at h; done) | exact Or.inl rfl
  · exact good_of_word h
theorem zz_gv {own C : String} {idx n : Nat} {y : MethodName} {b : ByteArray} {ret : Option FieldType} (h1 : Cond.methodLink own idx y ∈ zz_tb) (h2 : Cond.instanceMethod y ∈ zz_tb) (h3 : Cond.selects C y y ∈ zz_tb) (h4 : Cond.initialized C ∈ zz_tb) (h5 : Cond.code y b n ret ∈ zz_tb) : GoodIn zz_tb (wsV own idx C y (zz_w y b n ret)) := by
  intro w hw
  refine zz_good w ?_
  simp only [wsV, zz_w, List.cons_append, List.nil_append, List.mem_cons] at hw
  rcases hw with rfl | rfl | rfl | rfl | rfl | hw
  · exact h1
  · exact h2
  · exact h3
  · exact h4
  · exact h5
  · exact hw
theorem zz_gs {own : String} {idx n : Nat} {y : MethodName} {b : ByteArray} {ret : Option FieldType} (h1 : Cond.methodLink own idx y ∈ zz_tb) (h2 : Cond.static y ∈ zz_tb) (h4 : Cond.initialized own ∈ zz_tb) (h5 : Cond.code y b n ret ∈ zz_tb) : GoodIn zz_tb (wsS own idx y (zz_w y b n ret)) := by
  intro w hw
  refine zz_good w ?_
  simp only [wsS, zz_w, List.cons_append, List.nil_append, List.mem_cons] at hw
  rcases hw with rfl | rfl | rfl | rfl | hw
  · exact h1
  · exact h2
  · exact h4
  · exact h5
  · exact hw
theorem zz_gi {n : Nat} {y : MethodName} {b : ByteArray} {ret : Option FieldType} (h5 : Cond.code y b n ret ∈ zz_tb) : GoodIn zz_tb (zz_w y b n ret) := by
  intro w hw
  refine zz_good w ?_
  simp only [zz_w, List.mem_cons] at hw
  rcases hw with rfl | hw
  · exact h5
  · exact hw
end BASE
section BASEW
variable {p : Program} {l : Launch} {e : Env} {R : Room} {s : State} {m : MethodId} {args : Array Value} {below : List Frame} {meth : Method} {c : Code} {H : Heap} {locs : List Loc} {cells slots : Nat} {Q : State → Prop}
variable {cc : ByteArray} {pc nL : Nat} {ls : Array Slot} {rest st0 As : List Value} {D : va_G} {A : Nat → Prop} {tys tysc : List (ClassId × FieldType)} {ws wc wr wc' ws' : va_W} {own C : String} {y : MethodName} {b : ByteArray} {n np index : Nat} {ty : FieldType} {rm : Room} {a : Nat} {r : Int32}
theorem zz_callI (hx : p.tables.exec = Jvm.exec) (hb : c.code = cc) (hml : c.maxLocals = nL) (hown : s.vm.findClass own = some m.cls) (hts : ∀ w ∈ zz_tb, w.before args s = true)
    (hK : va_K D classes tys s) (hP : va_P D classes ws H) (hD : va_D A ws) (hS : va_S A s.heap H locs) (hA : ∀ q : Nat, s.heap.size ≤ q → A q)
    (hM : zz_MI l y b n ty rm D tysc (.ref a :: As) wc r wc') (hg : GoodIn zz_tb (wsV own index C y (zz_w y b n (some ty))))
    (hd : y.cls = C ∧ y.cls ≠ "java/lang/invoke/MethodHandle" ∧ y.cls ≠ "java/lang/invoke/VarHandle" ∧ (parseMethodDescriptor y.desc).map (fun d => d.parameters.length) = some np)
    (hrc : rm.cells = 0) (hrs : rm.slots = 0) (hR : rm.frames + 1 ≤ R.frames ∧ 8 + (n + 11) + rm.locals ≤ R.locals) (hf : cells ≤ R.cells ∧ slots ≤ R.slots)
    (tt : List Nat) (htt : tt.filterMap (fun i => tys[i]?) = tysc) (q0 ci : Nat) {q : vw_C} {fs : List Value} (hc : classes[ci]? = some q) (hqC : q.1 = C) (he : ws[q0]? = some (a, .inr (ci, fs)))
    (isC isR perm : List Nat) (hC : isC.map (fun i => ws[i]?) = wc.map some) (hnC : va_nd isC = true) (hR' : isR.map (fun i => ws[i]?) = wr.map some) (hnR : va_nd isR = true) (hdis : ∀ i ∈ isR, i ∉ isC) (hpm : perm.map (fun i => (wr ++ wc')[i]?) = ws'.map some) (hnp : va_nd perm = true)
    (hn : As.length = np) (hsz : ls.size = nL) (hst : st0 = As.reverse ++ .ref a :: rest) (hrm : (rest.map fun v => v.category).sum ≤ 8) (hdg : decode cc pc = .ok (.invokevirtual index, 3))
    (kk : ∀ (H1 : Heap) (locs1 : List Loc), va_P D classes ws' H1 → va_D A ws' → va_S A s.heap H1 locs1 → W p l e R s m args below meth c H1 locs1 cells slots Q (F0 m (pc + 3) ls (.int r :: rest))) :
    W p l e R s m args below meth c H locs cells slots Q (F0 m pc ls st0) := by
  subst hqC
  have hPc := zz_subP hC hP
  have hDc := hD.sub isC hnC hC
  have hKc := hK.sub tt htt
  have hFc := va_free hD hS hA isC hC
  refine va_calli (va_runV (As := As) (rest := rest) ⟨hx, hb, hml, hown, hts⟩ (hM H.size) (cwV np hts hg rfl hrc hrs hd hR) ⟨?_, va_recv hK hP hc he, ?_⟩ rfl hn hsz hst (lv_room hrm) hdg hf) hS (fun q _ h => hFc q h) hFc (fun x u t H1 locs1 ht hvm hw hB hz1 hk1 hS1 => ?_)
  · intro a U g mk q
    obtain ⟨q0, q1, qP, qK, qD⟩ := q
    exact ⟨q0, q1, qP, va_K.moved (u := U) (U := U.calling g mk a) (Vm.Alike.refl U.vm) qK, qD⟩
  · exact fun U hU hW => ⟨rfl, by rw [hU], by rw [hU]; exact hPc, va_K.moved hW.alike hKc, hDc.weaken (fun _ _ _ _ => trivial)⟩
  · have hw : x = r := hw
    subst hw
    obtain ⟨hP1, hK1, hD1⟩ := hB
    rw [ht] at hP1
    obtain ⟨hP2, hD2⟩ := va_join hP hD isC isR hC hR' hnR hdis hk1 hFc hP1 hD1
    exact kk H1 locs1 (zz_subP hpm hP2) (hD2.sub perm hnp hpm) hS1
theorem zz_callV (hx : p.tables.exec = Jvm.exec) (hb : c.code = cc) (hml : c.maxLocals = nL) (hown : s.vm.findClass own = some m.cls) (hts : ∀ w ∈ zz_tb, w.before args s = true)
    (hK : va_K D classes tys s) (hP : va_P D classes ws H) (hD : va_D A ws) (hS : va_S A s.heap H locs) (hA : ∀ q : Nat, s.heap.size ≤ q → A q)
    (hM : zz_MV l y b n rm D tysc (.ref a :: As) wc wc') (hg : GoodIn zz_tb (wsV own index C y (zz_w y b n none)))
    (hd : y.cls = C ∧ y.cls ≠ "java/lang/invoke/MethodHandle" ∧ y.cls ≠ "java/lang/invoke/VarHandle" ∧ (parseMethodDescriptor y.desc).map (fun d => d.parameters.length) = some np)
    (hrc : rm.cells = 0) (hrs : rm.slots = 0) (hR : rm.frames + 1 ≤ R.frames ∧ 8 + (n + 11) + rm.locals ≤ R.locals) (hf : cells ≤ R.cells ∧ slots ≤ R.slots)
    (tt : List Nat) (htt : tt.filterMap (fun i => tys[i]?) = tysc) (q0 ci : Nat) {q : vw_C} {fs : List Value} (hc : classes[ci]? = some q) (hqC : q.1 = C) (he : ws[q0]? = some (a, .inr (ci, fs)))
    (isC isR perm : List Nat) (hC : isC.map (fun i => ws[i]?) = wc.map some) (hnC : va_nd isC = true) (hR' : isR.map (fun i => ws[i]?) = wr.map some) (hnR : va_nd isR = true) (hdis : ∀ i ∈ isR, i ∉ isC) (hpm : perm.map (fun i => (wr ++ wc')[i]?) = ws'.map some) (hnp : va_nd perm = true)
    (hn : As.length = np) (hsz : ls.size = nL) (hst : st0 = As.reverse ++ .ref a :: rest) (hrm : (rest.map fun v => v.category).sum ≤ 8) (hdg : decode cc pc = .ok (.invokevirtual index, 3))
    (kk : ∀ (H1 : Heap) (locs1 : List Loc), va_P D classes ws' H1 → va_D A ws' → va_S A s.heap H1 locs1 → W p l e R s m args below meth c H1 locs1 cells slots Q (F0 m (pc + 3) ls rest)) :
    W p l e R s m args below meth c H locs cells slots Q (F0 m pc ls st0) := by
  subst hqC
  have hPc := zz_subP hC hP
  have hDc := hD.sub isC hnC hC
  have hKc := hK.sub tt htt
  have hFc := va_free hD hS hA isC hC
  refine va_callv (va_runV (As := As) (rest := rest) ⟨hx, hb, hml, hown, hts⟩ (hM H.size) (cwV np hts hg rfl hrc hrs hd hR) ⟨?_, va_recv hK hP hc he, ?_⟩ rfl hn hsz hst (lv_room hrm) hdg hf) hS (fun q _ h => hFc q h) hFc (fun u t H1 locs1 ht hvm hw hB hz1 hk1 hS1 => ?_)
  · intro a U g mk q
    obtain ⟨q0, q1, qP, qK, qD⟩ := q
    exact ⟨q0, q1, qP, va_K.moved (u := U) (U := U.calling g mk a) (Vm.Alike.refl U.vm) qK, qD⟩
  · exact fun U hU hW => ⟨rfl, by rw [hU], by rw [hU]; exact hPc, va_K.moved hW.alike hKc, hDc.weaken (fun _ _ _ _ => trivial)⟩
  · obtain ⟨hP1, hK1, hD1⟩ := hB
    rw [ht] at hP1
    obtain ⟨hP2, hD2⟩ := va_join hP hD isC isR hC hR' hnR hdis hk1 hFc hP1 hD1
    exact kk H1 locs1 (zz_subP hpm hP2) (hD2.sub perm hnp hpm) hS1
/-- a static method that touches no cell -/
theorem zz_callS (hx : p.tables.exec = Jvm.exec) (hb : c.code = cc) (hml : c.maxLocals = nL) (hown : s.vm.findClass own = some m.cls) (hts : ∀ w ∈ zz_tb, w.before args s = true)
    (hK : va_K D classes tys s) (hP : va_P D classes ws H) (hD : va_D A ws) (hS : va_S A s.heap H locs) (hA : ∀ q : Nat, s.heap.size ≤ q → A q)
    (hM : zz_MI l y b n ty rm D [] As [] r []) (hg : GoodIn zz_tb (wsS own index y (zz_w y b n (some ty))))
    (hd : y.cls = own ∧ y.cls ≠ "java/lang/invoke/MethodHandle" ∧ y.cls ≠ "java/lang/invoke/VarHandle" ∧ (parseMethodDescriptor y.desc).map (fun d => d.parameters.length) = some np)
    (hrc : rm.cells = 0) (hrs : rm.slots = 0) (hR : rm.frames + 1 ≤ R.frames ∧ 8 + (n + 11) + rm.locals ≤ R.locals) (hf : cells ≤ R.cells ∧ slots ≤ R.slots)
    (isR : List Nat) (hR' : isR.map (fun i => ws[i]?) = ws.map some) (hnR : va_nd isR = true)
    (hn : As.length = np) (hsz : ls.size = nL) (hst : st0 = As.reverse ++ rest) (hrm : (rest.map fun v => v.category).sum ≤ 8) (hdg : decode cc pc = .ok (.invokestatic index, 3))
    (kk : ∀ (H1 : Heap) (locs1 : List Loc), va_P D classes ws H1 → va_D A ws → va_S A s.heap H1 locs1 → W p l e R s m args below meth c H1 locs1 cells slots Q (F0 m (pc + 3) ls (.int r :: rest))) :
    W p l e R s m args below meth c H locs cells slots Q (F0 m pc ls st0) := by
  have hPc : va_P D classes [] H := fun k q h => by simp at h
  have hDc : va_D A [] := ⟨fun i j p q h => by simp at h, fun k q h => by simp at h⟩
  have hKc := hK.sub (tys' := []) [] rfl
  have hFc := va_free (wc := []) hD hS hA [] rfl
  refine va_calli (va_runS (As := As) (rest := rest) ⟨hx, hb, hml, hown, hts⟩ (hM H.size) (cwS np hts hg rfl hrc hrs hd hR) ⟨?_, ?_⟩ rfl hn hsz hst (lv_room hrm) hdg hf) hS (fun q _ h => hFc q h) hFc (fun x u t H1 locs1 ht hvm hw hB hz1 hk1 hS1 => ?_)
  · intro a U g mk q
    obtain ⟨q0, q1, qP, qK, qD⟩ := q
    exact ⟨q0, q1, qP, va_K.moved (u := U) (U := U.calling g mk a) (Vm.Alike.refl U.vm) qK, qD⟩
  · exact fun U hU hW => ⟨rfl, by rw [hU], by rw [hU]; exact hPc, va_K.moved hW.alike hKc, hDc.weaken (fun _ _ _ _ => trivial)⟩
  · have hw : x = r := hw
    subst hw
    obtain ⟨hP1, hK1, hD1⟩ := hB
    rw [ht] at hP1
    obtain ⟨hP2, hD2⟩ := va_join (wr := ws) (w1 := []) hP hD [] isR rfl hR' hnR (fun _ _ h => by cases h) hk1 hFc hP1 hD1
    rw [List.append_nil] at hP2 hD2
    exact kk H1 locs1 hP2 hD2 hS1
/-! instructions over nI -/
theorem zz_iald (hx : p.tables.exec = Jvm.exec) (hb : c.code = cc) (hK : va_K D classes tys s) (hP : va_P D classes ws H) (q0 t0 : Nat) {cA : ClassId} {k : Nat} {f : Nat → Int32} (ha : ws[q0]? = some (a, .inl (cA, k, .inl f))) (ht : tys[t0]? = some (cA, .int)) {i : Nat} (hi : i < k) (hk : k < 2 ^ 31) (hdg : decode cc pc = .ok (.iaload, 1))
    (kk : W p l e R s m args below meth c H locs cells slots Q (F0 m (pc + 1) ls (.int (f i) :: rest))) : W p l e R s m args below meth c H locs cells slots Q (F0 m pc ls (.int (nI i) :: .ref a :: rest)) := by
  refine va_iald hx hb hK hP q0 t0 ha ht (vp_in_nI hi hk) hdg ?_
  rw [nI_clamp (by omega)]
  exact kk
theorem zz_zald (hx : p.tables.exec = Jvm.exec) (hb : c.code = cc) (hK : va_K D classes tys s) (hP : va_P D classes ws H) (q0 t0 : Nat) {cA : ClassId} {k : Nat} {f : Nat → Int32} (ha : ws[q0]? = some (a, .inl (cA, k, .inl f))) (ht : tys[t0]? = some (cA, .boolean)) {i : Nat} (hi : i < k) (hk : k < 2 ^ 31) (hdg : decode cc pc = .ok (.baload, 1))
    (kk : W p l e R s m args below meth c H locs cells slots Q (F0 m (pc + 1) ls (.int (f i) :: rest))) : W p l e R s m args below meth c H locs cells slots Q (F0 m pc ls (.int (nI i) :: .ref a :: rest)) := by
  refine va_zald hx hb hK hP q0 t0 ha ht (vp_in_nI hi hk) hdg ?_
  rw [nI_clamp (by omega)]
  exact kk
theorem zz_iast (hx : p.tables.exec = Jvm.exec) (hb : c.code = cc) (hK : va_K D classes tys s) (hP : va_P D classes ws H) (hD : va_D A ws) {H0 : Heap} (hS : va_S A H0 H locs) (q0 t0 : Nat) {cA : ClassId} {k : Nat} {f : Nat → Int32} (ha : ws[q0]? = some (a, .inl (cA, k, .inl f))) (ht : tys[t0]? = some (cA, .int)) {i : Nat} {x : Int32} (hi : i < k) (hk : k < 2 ^ 31) (hdg : decode cc pc = .ok (.iastore, 1))
    {g : Nat → Int32} (hg : upd f i x = g) (hw : ws.set q0 (a, .inl (cA, k, .inl g)) = ws')
    (kk : ∀ (H1 : Heap) (locs1 : List Loc), va_P D classes ws' H1 → va_D A ws' → va_S A H0 H1 locs1 → W p l e R s m args below meth c H1 locs1 cells slots Q (F0 m (pc + 1) ls rest)) : W p l e R s m args below meth c H locs cells slots Q (F0 m pc ls (.int x :: .int (nI i) :: .ref a :: rest)) := by
  subst hw
  subst hg
  refine va_iast hx hb hK hP hD hS q0 t0 ha ht (vp_in_nI hi hk) hdg ?_
  rw [nI_clamp (by omega)]
  exact kk
theorem zz_zast (hx : p.tables.exec = Jvm.exec) (hb : c.code = cc) (hK : va_K D classes tys s) (hP : va_P D classes ws H) (hD : va_D A ws) {H0 : Heap} (hS : va_S A H0 H locs) (q0 t0 : Nat) {cA : ClassId} {k : Nat} {f : Nat → Int32} (ha : ws[q0]? = some (a, .inl (cA, k, .inl f))) (ht : tys[t0]? = some (cA, .boolean)) {i : Nat} {x : Int32} (hi : i < k) (hk : k < 2 ^ 31) (hdg : decode cc pc = .ok (.bastore, 1))
    (hxn : vp_nar .boolean x = x) {g : Nat → Int32} (hg : upd f i x = g) (hw : ws.set q0 (a, .inl (cA, k, .inl g)) = ws')
    (kk : ∀ (H1 : Heap) (locs1 : List Loc), va_P D classes ws' H1 → va_D A ws' → va_S A H0 H1 locs1 → W p l e R s m args below meth c H1 locs1 cells slots Q (F0 m (pc + 1) ls rest)) : W p l e R s m args below meth c H locs cells slots Q (F0 m pc ls (.int x :: .int (nI i) :: .ref a :: rest)) := by
  subst hw
  subst hg
  refine va_zast hx hb hK hP hD hS q0 t0 ha ht (vp_in_nI hi hk) hdg ?_
  rw [nI_clamp (by omega), hxn]
  exact kk
theorem zz_top {x z : Int32} (h : x = z) (k : W p l e R s m args below meth c H locs cells slots Q (F0 m pc ls (.int z :: rest))) : W p l e R s m args below meth c H locs cells slots Q (F0 m pc ls (.int x :: rest)) := h ▸ k
theorem zz_icmp_eq (hx : p.tables.exec = Jvm.exec) (hb : c.code = cc) {i j : Nat} {off : Int} {tgt : Nat} (hi : i < 2 ^ 31) (hj : j < 2 ^ 31) (hdg : decode cc pc = .ok (.if_icmp .eq off, 3)) (ht : (pc : Int) + off = (tgt : Int))
    (kt : i = j → W p l e R s m args below meth c H locs cells slots Q (F0 m tgt ls rest)) (kf : i ≠ j → W p l e R s m args below meth c H locs cells slots Q (F0 m (pc + 3) ls rest)) : W p l e R s m args below meth c H locs cells slots Q (F0 m pc ls (.int (nI j) :: .int (nI i) :: rest)) :=
  lv_icmp_eq hx hb hdg ht (fun h => kt ((nI_eq hi hj).mp h)) (fun h => kf (fun q => h ((nI_eq hi hj).mpr q)))
theorem zz_icmp_ne (hx : p.tables.exec = Jvm.exec) (hb : c.code = cc) {i j : Nat} {off : Int} {tgt : Nat} (hi : i < 2 ^ 31) (hj : j < 2 ^ 31) (hdg : decode cc pc = .ok (.if_icmp .ne off, 3)) (ht : (pc : Int) + off = (tgt : Int))
    (kt : i ≠ j → W p l e R s m args below meth c H locs cells slots Q (F0 m tgt ls rest)) (kf : i = j → W p l e R s m args below meth c H locs cells slots Q (F0 m (pc + 3) ls rest)) : W p l e R s m args below meth c H locs cells slots Q (F0 m pc ls (.int (nI j) :: .int (nI i) :: rest)) :=
  lv_icmp_ne hx hb hdg ht (fun h => kt (fun q => h ((nI_eq hi hj).mpr q))) (fun h => kf ((nI_eq hi hj).mp h))
theorem zz_icmp_lt (hx : p.tables.exec = Jvm.exec) (hb : c.code = cc) {i j : Nat} {off : Int} {tgt : Nat} (hi : i < 2 ^ 31) (hj : j < 2 ^ 31) (hdg : decode cc pc = .ok (.if_icmp .lt off, 3)) (ht : (pc : Int) + off = (tgt : Int))
    (kt : i < j → W p l e R s m args below meth c H locs cells slots Q (F0 m tgt ls rest)) (kf : j ≤ i → W p l e R s m args below meth c H locs cells slots Q (F0 m (pc + 3) ls rest)) : W p l e R s m args below meth c H locs cells slots Q (F0 m pc ls (.int (nI j) :: .int (nI i) :: rest)) :=
  lv_icmp_lt hx hb hdg ht (fun h => kt ((nI_ltI hi hj).mp h)) (fun h => kf (Nat.not_lt.mp (fun q => h ((nI_ltI hi hj).mpr q))))
theorem zz_icmp_ge (hx : p.tables.exec = Jvm.exec) (hb : c.code = cc) {i j : Nat} {off : Int} {tgt : Nat} (hi : i < 2 ^ 31) (hj : j < 2 ^ 31) (hdg : decode cc pc = .ok (.if_icmp .ge off, 3)) (ht : (pc : Int) + off = (tgt : Int))
    (kt : j ≤ i → W p l e R s m args below meth c H locs cells slots Q (F0 m tgt ls rest)) (kf : i < j → W p l e R s m args below meth c H locs cells slots Q (F0 m (pc + 3) ls rest)) : W p l e R s m args below meth c H locs cells slots Q (F0 m pc ls (.int (nI j) :: .int (nI i) :: rest)) :=
  lv_icmp_ge hx hb hdg ht (fun h => kt ((nI_leI hj hi).mp h)) (fun h => kf (Nat.not_le.mp (fun q => h ((nI_leI hj hi).mpr q))))
theorem zz_icmp_gt (hx : p.tables.exec = Jvm.exec) (hb : c.code = cc) {i j : Nat} {off : Int} {tgt : Nat} (hi : i < 2 ^ 31) (hj : j < 2 ^ 31) (hdg : decode cc pc = .ok (.if_icmp .gt off, 3)) (ht : (pc : Int) + off = (tgt : Int))
    (kt : j < i → W p l e R s m args below meth c H locs cells slots Q (F0 m tgt ls rest)) (kf : i ≤ j → W p l e R s m args below meth c H locs cells slots Q (F0 m (pc + 3) ls rest)) : W p l e R s m args below meth c H locs cells slots Q (F0 m pc ls (.int (nI j) :: .int (nI i) :: rest)) :=
  lv_icmp_gt hx hb hdg ht (fun h => kt ((nI_ltI hj hi).mp h)) (fun h => kf (Nat.not_lt.mp (fun q => h ((nI_ltI hj hi).mpr q))))
theorem zz_icmp_le (hx : p.tables.exec = Jvm.exec) (hb : c.code = cc) {i j : Nat} {off : Int} {tgt : Nat} (hi : i < 2 ^ 31) (hj : j < 2 ^ 31) (hdg : decode cc pc = .ok (.if_icmp .le off, 3)) (ht : (pc : Int) + off = (tgt : Int))
    (kt : i ≤ j → W p l e R s m args below meth c H locs cells slots Q (F0 m tgt ls rest)) (kf : j < i → W p l e R s m args below meth c H locs cells slots Q (F0 m (pc + 3) ls rest)) : W p l e R s m args below meth c H locs cells slots Q (F0 m pc ls (.int (nI j) :: .int (nI i) :: rest)) :=
  lv_icmp_le hx hb hdg ht (fun h => kt ((nI_leI hi hj).mp h)) (fun h => kf (Nat.not_le.mp (fun q => h ((nI_leI hi hj).mpr q))))
theorem zz_if_eq (hx : p.tables.exec = Jvm.exec) (hb : c.code = cc) {i : Nat} {off : Int} {tgt : Nat} (hi : i < 2 ^ 31) (hdg : decode cc pc = .ok (.ifCond .eq off, 3)) (ht : (pc : Int) + off = (tgt : Int))
    (kt : i = 0 → W p l e R s m args below meth c H locs cells slots Q (F0 m tgt ls rest)) (kf : 0 < i → W p l e R s m args below meth c H locs cells slots Q (F0 m (pc + 3) ls rest)) : W p l e R s m args below meth c H locs cells slots Q (F0 m pc ls (.int (nI i) :: rest)) :=
  lv_if_eq hx hb hdg ht (fun h => kt (Decidable.byContradiction fun q => nI_ne0 (by omega) hi h)) (fun h => kf (Nat.pos_of_ne_zero (fun q => h (by rw [q]; exact nI_0))))
theorem zz_if_ne (hx : p.tables.exec = Jvm.exec) (hb : c.code = cc) {i : Nat} {off : Int} {tgt : Nat} (hi : i < 2 ^ 31) (hdg : decode cc pc = .ok (.ifCond .ne off, 3)) (ht : (pc : Int) + off = (tgt : Int))
    (kt : 0 < i → W p l e R s m args below meth c H locs cells slots Q (F0 m tgt ls rest)) (kf : i = 0 → W p l e R s m args below meth c H locs cells slots Q (F0 m (pc + 3) ls rest)) : W p l e R s m args below meth c H locs cells slots Q (F0 m pc ls (.int (nI i) :: rest)) :=
  lv_if_ne hx hb hdg ht (fun h => kt (Nat.pos_of_ne_zero (fun q => h (by rw [q]; exact nI_0)))) (fun h => kf (Decidable.byContradiction fun q => nI_ne0 (by omega) hi h))
theorem zz_if_gt (hx : p.tables.exec = Jvm.exec) (hb : c.code = cc) {i : Nat} {off : Int} {tgt : Nat} (hi : i < 2 ^ 31) (hdg : decode cc pc = .ok (.ifCond .gt off, 3)) (ht : (pc : Int) + off = (tgt : Int))
    (kt : 0 < i → W p l e R s m args below meth c H locs cells slots Q (F0 m tgt ls rest)) (kf : i = 0 → W p l e R s m args below meth c H locs cells slots Q (F0 m (pc + 3) ls rest)) : W p l e R s m args below meth c H locs cells slots Q (F0 m pc ls (.int (nI i) :: rest)) :=
  lv_if_gt hx hb hdg ht (fun h => kt (Nat.pos_of_ne_zero (fun q => by rw [q, nI_0] at h; exact absurd h (by decide)))) (fun h => kf (Decidable.byContradiction fun q => h (by rw [← nI_0]; exact nI_lt (by omega) hi)))
theorem zz_if_le (hx : p.tables.exec = Jvm.exec) (hb : c.code = cc) {i : Nat} {off : Int} {tgt : Nat} (hi : i < 2 ^ 31) (hdg : decode cc pc = .ok (.ifCond .le off, 3)) (ht : (pc : Int) + off = (tgt : Int))
    (kt : i = 0 → W p l e R s m args below meth c H locs cells slots Q (F0 m tgt ls rest)) (kf : 0 < i → W p l e R s m args below meth c H locs cells slots Q (F0 m (pc + 3) ls rest)) : W p l e R s m args below meth c H locs cells slots Q (F0 m pc ls (.int (nI i) :: rest)) :=
  lv_if_le hx hb hdg ht (fun h => kt (Decidable.byContradiction fun q => nI_nle (by omega) hi h)) (fun h => kf (Nat.pos_of_ne_zero (fun q => h (by rw [q, nI_0]; decide))))
theorem zz_iadd (hx : p.tables.exec = Jvm.exec) (hb : c.code = cc) {i j : Nat} (hdg : decode cc pc = .ok (.iadd, 1))
    (k : W p l e R s m args below meth c H locs cells slots Q (F0 m (pc + 1) ls (.int (nI (i + j)) :: rest))) : W p l e R s m args below meth c H locs cells slots Q (F0 m pc ls (.int (nI j) :: .int (nI i) :: rest)) := by
  refine lv_iadd hx hb hdg ?_
  rw [nI_add]
  exact k
theorem zz_isub (hx : p.tables.exec = Jvm.exec) (hb : c.code = cc) {i j : Nat} (hij : j ≤ i) (hdg : decode cc pc = .ok (.isub, 1))
    (k : W p l e R s m args below meth c H locs cells slots Q (F0 m (pc + 1) ls (.int (nI (i - j)) :: rest))) : W p l e R s m args below meth c H locs cells slots Q (F0 m pc ls (.int (nI j) :: .int (nI i) :: rest)) := by
  refine lv_isub hx hb hdg ?_
  rw [pk_sub hij]
  exact k
theorem zz_imul (hx : p.tables.exec = Jvm.exec) (hb : c.code = cc) {i j : Nat} (hdg : decode cc pc = .ok (.imul, 1))
    (k : W p l e R s m args below meth c H locs cells slots Q (F0 m (pc + 1) ls (.int (nI (i * j)) :: rest))) : W p l e R s m args below meth c H locs cells slots Q (F0 m pc ls (.int (nI j) :: .int (nI i) :: rest)) := by
  refine lv_imul hx hb hdg ?_
  rw [pk_mul]
  exact k
end BASEW
section BASES
variable {p : Program} {l : Launch} {e : Env} {R : Room} {s : State} {m : MethodId} {args : Array Value} {below : List Frame} {meth : Method} {c : Code} {H : Heap} {locs : List Loc} {cells slots pc : Nat} {Q : State → Prop} {ls : Array Slot} {rest : List Value}
theorem zz_bI {b : Bool} (kt : b = true → W p l e R s m args below meth c H locs cells slots Q (F0 m pc ls (.int (nI 1) :: rest))) (kf : b = false → W p l e R s m args below meth c H locs cells slots Q (F0 m pc ls (.int (nI 0) :: rest))) : W p l e R s m args below meth c H locs cells slots Q (F0 m pc ls (.int (lc_bI b) :: rest)) := by
  cases b with
  | true => exact kt rfl
  | false => exact kf rfl
theorem zz_oI {o : Option Nat} (kn : o = none → W p l e R s m args below meth c H locs cells slots Q (F0 m pc ls (.int (-1) :: rest))) (ks : ∀ k, o = some k → W p l e R s m args below meth c H locs cells slots Q (F0 m pc ls (.int (nI k) :: rest))) : W p l e R s m args below meth c H locs cells slots Q (F0 m pc ls (.int (lc_oI o) :: rest)) := by
  cases o with
  | none => exact kn rfl
  | some k => exact ks k rfl
theorem zz_pl {x : Int32} {n : Nat} (hn : n < 2 ^ 31) (kn : lc_pl x n = none → W p l e R s m args below meth c H locs cells slots Q (F0 m pc ls (.int (nI 0) :: rest))) (ks : ∀ j, j < n → x = nI j → lc_pl x n = some j → W p l e R s m args below meth c H locs cells slots Q (F0 m pc ls (.int (nI 1) :: rest))) : W p l e R s m args below meth c H locs cells slots Q (F0 m pc ls (.int (lc_bI (lc_pl x n).isSome) :: rest)) := by
  cases h : lc_pl x n with
  | none => exact kn h
  | some j =>
    obtain ⟨h1, h2⟩ := lc_pl_spec hn h
    exact ks j h1 h2 h
end BASES
theorem zz_upN (f : Nat → Nat) (k v : Nat) : upd (fun i => nI (f i)) k (nI v) = fun i => nI (va_up f k v i) := by
  funext j
  by_cases h : j = k
  · subst h; rw [pk_us, va_up_self]
  · rw [pk_un h, va_up_ne f v h]
theorem zz_upB (f : Nat → Bool) (k : Nat) (v : Bool) : upd (fun i => lc_bI (f i)) k (lc_bI v) = fun i => lc_bI (va_up f k v i) := by
  funext j
  by_cases h : j = k
  · subst h; rw [pk_us, va_up_self]
  · rw [pk_un h, va_up_ne f v h]
theorem zz_nm1 {i : Nat} (hi : i < 2 ^ 31) : ¬ nI i = -1 := by
  intro h
  have h1 := congrArg Int32.toInt h
  rw [nI_toInt hi] at h1
  have h2 : (-1 : Int32).toInt = -1 := by decide
  rw [h2] at h1
  omega
end
section
section ROWS
variable {p : Program} {l : Launch} {e : Env} {R : Room} {s : State} {m : MethodId} {args : Array Value} {below : List Frame} {meth : Method} {c : Code} {H : Heap} {locs : List Loc} {cells slots : Nat} {Q : State → Prop}
variable {cc : ByteArray} {pc : Nat} {ls : Array Slot} {rest : List Value} {D : va_G} {tys : List (ClassId × FieldType)} {ws : va_W} {a : Nat}
theorem zz_aald (hx : p.tables.exec = Jvm.exec) (hb : c.code = cc) (hK : va_K D classes tys s) (hP : va_P D classes ws H) (q0 t0 : Nat) {cA : ClassId} {ty : FieldType} {k : Nat} {f : Nat → Option Nat} (ha : ws[q0]? = some (a, .inl (cA, k, .inr (.inr (.inr (.inr f)))))) (ht : tys[t0]? = some (cA, .array ty)) {i r : Nat} (hi : i < k) (hk : k < 2 ^ 31) (hr : f i = some r) (hdg : decode cc pc = .ok (.aaload, 1))
    (kk : W p l e R s m args below meth c H locs cells slots Q (F0 m (pc + 1) ls (.ref r :: rest))) : W p l e R s m args below meth c H locs cells slots Q (F0 m pc ls (.int (nI i) :: .ref a :: rest)) := by
  have e1 : (nI i).toNatClampNeg = i := nI_clamp (by omega)
  refine W.aald (v := va_rf (f i)) (ty := .array ty) hx hb (hP q0 _ ha) ((hK.2 t0 _ ht).1 k (fun j => va_rf (f j))) rfl (fun q => by cases q) (by show ¬ (nI i < 0 ∨ (arrV _ _ _).slots.size ≤ _); rw [arrV_size]; exact vp_in_nI hi hk) (by show (arrV _ _ _).slots[_]? = _; rw [e1, arrV_read _ _ hi]) rfl rfl hdg ?_
  rw [hr]
  exact kk
end ROWS
theorem zz_rowget {c0 c1 c2 : Nat × va_E} {cI : ClassId} {rr : Nat → Nat} {M : Nat → lc_A} {k : Nat} (hk : k < 5) : ([c0, c1, c2, (rr 0, .inl (cI, 4, .inl (M 0))), (rr 1, .inl (cI, 4, .inl (M 1))), (rr 2, .inl (cI, 4, .inl (M 2))), (rr 3, .inl (cI, 4, .inl (M 3))), (rr 4, .inl (cI, 4, .inl (M 4)))] : va_W)[3 + k]? = some (rr k, .inl (cI, 4, .inl (M k))) := by
  rcases (show k = 0 ∨ k = 1 ∨ k = 2 ∨ k = 3 ∨ k = 4 by omega) with rfl | rfl | rfl | rfl | rfl <;> rfl
theorem zz_rowset {c0 c1 c2 : Nat × va_E} {cI : ClassId} {rr : Nat → Nat} {M : Nat → lc_A} {g : lc_A} {k : Nat} (hk : k < 5) : ([c0, c1, c2, (rr 0, .inl (cI, 4, .inl (M 0))), (rr 1, .inl (cI, 4, .inl (M 1))), (rr 2, .inl (cI, 4, .inl (M 2))), (rr 3, .inl (cI, 4, .inl (M 3))), (rr 4, .inl (cI, 4, .inl (M 4)))] : va_W).set (3 + k) (rr k, .inl (cI, 4, .inl g)) = [c0, c1, c2, (rr 0, .inl (cI, 4, .inl (va_up M k g 0))), (rr 1, .inl (cI, 4, .inl (va_up M k g 1))), (rr 2, .inl (cI, 4, .inl (va_up M k g 2))), (rr 3, .inl (cI, 4, .inl (va_up M k g 3))), (rr 4, .inl (cI, 4, .inl (va_up M k g 4)))] := by
  rcases (show k = 0 ∨ k = 1 ∨ k = 2 ∨ k = 3 ∨ k = 4 by omega) with rfl | rfl | rfl | rfl | rfl <;> rfl
theorem zz_nt {b : Bool} (h : b = false) : ¬ b = true := by rw [h]; decide
theorem lx_note_fp (fo fw : lc_A) (md : Nat) (fp : lc_A) (ht : Nat) (fe : lc_A) (M : Nat → lc_A) (len : Nat) (rk : Int32) (a : Nat) : (lx_note fo fw md fp ht fe M len rk a).2.2.2.1 = fp := by
  unfold lx_note
  split
  · rfl
  · split <;> rfl
theorem lm_lp_i (nu ho fp : lc_A) (ht f : Nat) (s : Nat → Nat) (co : lc_A) (nt : Nat → Bool) : lm_lp nu ho fp ht f 1 s co nt = lm_st nu ho fp ht f s co nt := by
  unfold lm_lp
  rw [if_neg (by decide)]
end
section
set_option maxHeartbeats 4000000 in
set_option maxRecDepth 100000 in
theorem c_Heap_objectIn (l : Launch) (D : va_G) (cI : ClassId) (hp : Nat) (ow : Nat) (wo : Nat) (fo : lc_A) (fw : lc_A) (md : Nat) (i : Nat) (hi : i < 48) : zz_MI l y_Heap_objectIn b_Heap_objectIn 2 .int ({ frames := 0, cells := 0, slots := 0, locals := 0 } : Room) D [(cI, .int)] [.ref hp, .int (nI i)] [(hp, .inr (1, [.ref ow, .ref wo, .int (nI md)])), (ow, .inl (cI, 48, .inl fo)), (wo, .inl (cI, 48, .inl fw))] (fo i) [(hp, .inr (1, [.ref ow, .ref wo, .int (nI md)])), (ow, .inl (cI, 48, .inl fo)), (wo, .inl (cI, 48, .inl fw))] := by
  refine zz_MI_of (by decide) (Nat.le_of_ble_eq_true rfl) (vp_nar_int _) ?_
  intro p e s m args below meth c A ls Q hx hb hml hown hts hK hP hD hS hA hl hret
  have hown : s.vm.findClass R_Heap = some m.cls := hown
  have hl : lv_has ls 2 [(0, .ref hp), (1, .int (nI i))] := hl
  refine lv_aload_n hx hb d_Heap_objectIn_0 rfl (lv_at hl 0 rfl) ?_
  refine va_get (D := D) (ci := 1) (v := .ref ow) (C := R_Heap) (T := F_Heap) (N := 3) hx hb hts i_Heap hown hK hP 0 rfl rfl 0 (by decide) (hts _ kw_0) (fun _ h9 => h9) rfl d_Heap_objectIn_1 ?_
  refine lv_iload_n hx hb d_Heap_objectIn_4 rfl (lv_at hl 1 rfl) ?_
  refine zz_iald hx hb hK hP 1 0 (f := fo) rfl rfl (i := i) (by omega) (by omega) d_Heap_objectIn_5 ?_
  exact hret _ _ _ _ d_Heap_objectIn_6 hP hD hS
set_option maxHeartbeats 4000000 in
set_option maxRecDepth 100000 in
theorem c_Heap_countAt (l : Launch) (D : va_G) (cI : ClassId) (hp : Nat) (ow : Nat) (wo : Nat) (fo : lc_A) (fw : lc_A) (md : Nat) (i : Nat) (hi : i < 48) : zz_MI l y_Heap_countAt b_Heap_countAt 2 .int ({ frames := 0, cells := 0, slots := 0, locals := 0 } : Room) D [(cI, .int)] [.ref hp, .int (nI i)] [(hp, .inr (1, [.ref ow, .ref wo, .int (nI md)])), (ow, .inl (cI, 48, .inl fo)), (wo, .inl (cI, 48, .inl fw))] (fw i) [(hp, .inr (1, [.ref ow, .ref wo, .int (nI md)])), (ow, .inl (cI, 48, .inl fo)), (wo, .inl (cI, 48, .inl fw))] := by
  refine zz_MI_of (by decide) (Nat.le_of_ble_eq_true rfl) (vp_nar_int _) ?_
  intro p e s m args below meth c A ls Q hx hb hml hown hts hK hP hD hS hA hl hret
  have hown : s.vm.findClass R_Heap = some m.cls := hown
  have hl : lv_has ls 2 [(0, .ref hp), (1, .int (nI i))] := hl
  refine lv_aload_n hx hb d_Heap_countAt_0 rfl (lv_at hl 0 rfl) ?_
  refine va_get (D := D) (ci := 1) (v := .ref wo) (C := R_Heap) (T := F_Heap) (N := 3) hx hb hts i_Heap hown hK hP 0 rfl rfl 1 (by decide) (hts _ kw_1) (fun _ h9 => h9) rfl d_Heap_countAt_1 ?_
  refine lv_iload_n hx hb d_Heap_countAt_4 rfl (lv_at hl 1 rfl) ?_
  refine zz_iald hx hb hK hP 2 0 (f := fw) rfl rfl (i := i) (by omega) (by omega) d_Heap_countAt_5 ?_
  exact hret _ _ _ _ d_Heap_countAt_6 hP hD hS
set_option maxHeartbeats 4000000 in
set_option maxRecDepth 100000 in
theorem c_Heap_inSlot (l : Launch) (D : va_G) (cI : ClassId) (hp : Nat) (ow : Nat) (wo : Nat) (fo : lc_A) (fw : lc_A) (md : Nat) (a : Nat) (j : Nat) (hi : a + 1 + j < 48) : zz_MI l y_Heap_inSlot b_Heap_inSlot 3 .int ({ frames := 0, cells := 0, slots := 0, locals := 0 } : Room) D [(cI, .int)] [.ref hp, .int (nI a), .int (nI j)] [(hp, .inr (1, [.ref ow, .ref wo, .int (nI md)])), (ow, .inl (cI, 48, .inl fo)), (wo, .inl (cI, 48, .inl fw))] (fw (a + 1 + j)) [(hp, .inr (1, [.ref ow, .ref wo, .int (nI md)])), (ow, .inl (cI, 48, .inl fo)), (wo, .inl (cI, 48, .inl fw))] := by
  refine zz_MI_of (by decide) (Nat.le_of_ble_eq_true rfl) (vp_nar_int _) ?_
  intro p e s m args below meth c A ls Q hx hb hml hown hts hK hP hD hS hA hl hret
  have hown : s.vm.findClass R_Heap = some m.cls := hown
  have hl : lv_has ls 3 [(0, .ref hp), (1, .int (nI a)), (2, .int (nI j))] := hl
  refine lv_aload_n hx hb d_Heap_inSlot_0 rfl (lv_at hl 0 rfl) ?_
  refine va_get (D := D) (ci := 1) (v := .ref wo) (C := R_Heap) (T := F_Heap) (N := 3) hx hb hts i_Heap hown hK hP 0 rfl rfl 1 (by decide) (hts _ kw_1) (fun _ h9 => h9) rfl d_Heap_inSlot_1 ?_
  refine lv_iload_n hx hb d_Heap_inSlot_4 rfl (lv_at hl 1 rfl) ?_
  refine lv_iconst (v := nI 1) hx hb d_Heap_inSlot_5 (by decide +kernel) ?_
  refine zz_iadd hx hb d_Heap_inSlot_6 ?_
  refine lv_iload_n hx hb d_Heap_inSlot_7 rfl (lv_at hl 2 rfl) ?_
  refine zz_iadd hx hb d_Heap_inSlot_8 ?_
  refine zz_iald hx hb hK hP 2 0 (f := fw) rfl rfl (i := (a + 1) + j) (by omega) (by omega) d_Heap_inSlot_9 ?_
  refine zz_top (z := fw (a + 1 + j)) (by simp) ?_
  exact hret _ _ _ _ d_Heap_inSlot_10 hP hD hS
set_option maxHeartbeats 4000000 in
set_option maxRecDepth 100000 in
theorem c_Heap_setSlot (l : Launch) (D : va_G) (cI : ClassId) (hp : Nat) (ow : Nat) (wo : Nat) (fo : lc_A) (fw : lc_A) (md : Nat) (a : Nat) (j : Nat) (x : Int32) (hi : a + 1 + j < 48) : zz_MV l y_Heap_setSlot b_Heap_setSlot 4 ({ frames := 0, cells := 0, slots := 0, locals := 0 } : Room) D [(cI, .int)] [.ref hp, .int (nI a), .int (nI j), .int x] [(hp, .inr (1, [.ref ow, .ref wo, .int (nI md)])), (ow, .inl (cI, 48, .inl fo)), (wo, .inl (cI, 48, .inl fw))] [(hp, .inr (1, [.ref ow, .ref wo, .int (nI md)])), (ow, .inl (cI, 48, .inl fo)), (wo, .inl (cI, 48, .inl (upd fw (a + 1 + j) x)))] := by
  refine zz_MV_of (by decide) (Nat.le_of_ble_eq_true rfl) ?_
  intro p e s m args below meth c A ls Q hx hb hml hown hts hK hP hD hS hA hl hret
  have hown : s.vm.findClass R_Heap = some m.cls := hown
  have hl : lv_has ls 4 [(0, .ref hp), (1, .int (nI a)), (2, .int (nI j)), (3, .int x)] := hl
  refine lv_aload_n hx hb d_Heap_setSlot_0 rfl (lv_at hl 0 rfl) ?_
  refine va_get (D := D) (ci := 1) (v := .ref wo) (C := R_Heap) (T := F_Heap) (N := 3) hx hb hts i_Heap hown hK hP 0 rfl rfl 1 (by decide) (hts _ kw_1) (fun _ h9 => h9) rfl d_Heap_setSlot_1 ?_
  refine lv_iload_n hx hb d_Heap_setSlot_4 rfl (lv_at hl 1 rfl) ?_
  refine lv_iconst (v := nI 1) hx hb d_Heap_setSlot_5 (by decide +kernel) ?_
  refine zz_iadd hx hb d_Heap_setSlot_6 ?_
  refine lv_iload_n hx hb d_Heap_setSlot_7 rfl (lv_at hl 2 rfl) ?_
  refine zz_iadd hx hb d_Heap_setSlot_8 ?_
  refine lv_iload_n hx hb d_Heap_setSlot_9 rfl (lv_at hl 3 rfl) ?_
  refine zz_iast hx hb hK hP hD hS 2 0 (f := fw) rfl rfl (i := (a + 1) + j) (by omega) (by omega) d_Heap_setSlot_10 (g := upd fw ((a + 1) + j) x) rfl (ws' := [(hp, .inr (1, [.ref ow, .ref wo, .int (nI md)])), (ow, .inl (cI, 48, .inl fo)), (wo, .inl (cI, 48, .inl (upd fw ((a + 1) + j) x)))]) rfl (fun H locs hP hD hS => ?_)
  have eW : ([(hp, .inr (1, [.ref ow, .ref wo, .int (nI md)])), (ow, .inl (cI, 48, .inl fo)), (wo, .inl (cI, 48, .inl (upd fw ((a + 1) + j) x)))] : va_W) = [(hp, .inr (1, [.ref ow, .ref wo, .int (nI md)])), (ow, .inl (cI, 48, .inl fo)), (wo, .inl (cI, 48, .inl (upd fw (a + 1 + j) x)))] := by simp
  exact hret _ _ _ _ d_Heap_setSlot_11 (zz_toP eW hP) (zz_toD eW hD) hS
set_option maxHeartbeats 4000000 in
set_option maxRecDepth 100000 in
theorem c_Heap_isFirst (l : Launch) (D : va_G) (cI : ClassId) (hp : Nat) (ow : Nat) (wo : Nat) (fo : lc_A) (fw : lc_A) (md : Nat) (i : Nat) (hi : i < 48) : zz_MI l y_Heap_isFirst b_Heap_isFirst 2 .boolean ({ frames := 0, cells := 0, slots := 0, locals := 0 } : Room) D [(cI, .int)] [.ref hp, .int (nI i)] [(hp, .inr (1, [.ref ow, .ref wo, .int (nI md)])), (ow, .inl (cI, 48, .inl fo)), (wo, .inl (cI, 48, .inl fw))] (lc_bI (lc_isF fo i)) [(hp, .inr (1, [.ref ow, .ref wo, .int (nI md)])), (ow, .inl (cI, 48, .inl fo)), (wo, .inl (cI, 48, .inl fw))] := by
  refine zz_MI_of (by decide) (Nat.le_of_ble_eq_true rfl) (zz_narB _) ?_
  intro p e s m args below meth c A ls Q hx hb hml hown hts hK hP hD hS hA hl hret
  have hown : s.vm.findClass R_Heap = some m.cls := hown
  have hl : lv_has ls 2 [(0, .ref hp), (1, .int (nI i))] := hl
  refine lv_aload_n hx hb d_Heap_isFirst_0 rfl (lv_at hl 0 rfl) ?_
  refine va_get (D := D) (ci := 1) (v := .ref ow) (C := R_Heap) (T := F_Heap) (N := 3) hx hb hts i_Heap hown hK hP 0 rfl rfl 0 (by decide) (hts _ kw_0) (fun _ h9 => h9) rfl d_Heap_isFirst_1 ?_
  refine lv_iload_n hx hb d_Heap_isFirst_4 rfl (lv_at hl 1 rfl) ?_
  refine zz_iald hx hb hK hP 1 0 (f := fo) rfl rfl (i := i) (by omega) (by omega) d_Heap_isFirst_5 ?_
  refine lv_if_eq (tgt := 34) hx hb d_Heap_isFirst_6 (by decide) (fun c6 => ?_) (fun c6 => ?_)
  · skip
    refine lv_iconst (v := nI 0) hx hb d_Heap_isFirst_34 (by decide +kernel) ?_
    refine zz_top (z := lc_bI (lc_isF fo i)) (by first | exact lc_isF0 (by assumption) | exact lc_isF1 (by assumption) (by assumption) | exact lc_isF2 (by assumption) (by assumption) | exact lc_isF3 (by assumption) (by assumption)) ?_
    exact hret _ _ _ _ d_Heap_isFirst_35 hP hD hS
  · skip
    refine lv_iload_n hx hb d_Heap_isFirst_9 rfl (lv_at hl 1 rfl) ?_
    refine zz_if_eq (tgt := 30) hx hb (by omega) d_Heap_isFirst_10 (by decide) (fun c10 => ?_) (fun c10 => ?_)
    · skip
      refine lv_iconst (v := nI 1) hx hb d_Heap_isFirst_30 (by decide +kernel) ?_
      refine lv_goto (tgt := 35) hx hb d_Heap_isFirst_31 (by decide) ?_
      refine zz_top (z := lc_bI (lc_isF fo i)) (by first | exact lc_isF0 (by assumption) | exact lc_isF1 (by assumption) (by assumption) | exact lc_isF2 (by assumption) (by assumption) | exact lc_isF3 (by assumption) (by assumption)) ?_
      exact hret _ _ _ _ d_Heap_isFirst_35 hP hD hS
    · skip
      refine lv_aload_n hx hb d_Heap_isFirst_13 rfl (lv_at hl 0 rfl) ?_
      refine va_get (D := D) (ci := 1) (v := .ref ow) (C := R_Heap) (T := F_Heap) (N := 3) hx hb hts i_Heap hown hK hP 0 rfl rfl 0 (by decide) (hts _ kw_0) (fun _ h9 => h9) rfl d_Heap_isFirst_14 ?_
      refine lv_iload_n hx hb d_Heap_isFirst_17 rfl (lv_at hl 1 rfl) ?_
      refine lv_iconst (v := nI 1) hx hb d_Heap_isFirst_18 (by decide +kernel) ?_
      refine zz_isub hx hb (by omega) d_Heap_isFirst_19 ?_
      refine zz_iald hx hb hK hP 1 0 (f := fo) rfl rfl (i := i - 1) (by omega) (by omega) d_Heap_isFirst_20 ?_
      refine lv_aload_n hx hb d_Heap_isFirst_21 rfl (lv_at hl 0 rfl) ?_
      refine va_get (D := D) (ci := 1) (v := .ref ow) (C := R_Heap) (T := F_Heap) (N := 3) hx hb hts i_Heap hown hK hP 0 rfl rfl 0 (by decide) (hts _ kw_0) (fun _ h9 => h9) rfl d_Heap_isFirst_22 ?_
      refine lv_iload_n hx hb d_Heap_isFirst_25 rfl (lv_at hl 1 rfl) ?_
      refine zz_iald hx hb hK hP 1 0 (f := fo) rfl rfl (i := i) (by omega) (by omega) d_Heap_isFirst_26 ?_
      refine lv_icmp_eq (tgt := 34) hx hb d_Heap_isFirst_27 (by decide) (fun c27 => ?_) (fun c27 => ?_)
      · skip
        refine lv_iconst (v := nI 0) hx hb d_Heap_isFirst_34 (by decide +kernel) ?_
        refine zz_top (z := lc_bI (lc_isF fo i)) (by first | exact lc_isF0 (by assumption) | exact lc_isF1 (by assumption) (by assumption) | exact lc_isF2 (by assumption) (by assumption) | exact lc_isF3 (by assumption) (by assumption)) ?_
        exact hret _ _ _ _ d_Heap_isFirst_35 hP hD hS
      · skip
        refine lv_iconst (v := nI 1) hx hb d_Heap_isFirst_30 (by decide +kernel) ?_
        refine lv_goto (tgt := 35) hx hb d_Heap_isFirst_31 (by decide) ?_
        refine zz_top (z := lc_bI (lc_isF fo i)) (by first | exact lc_isF0 (by assumption) | exact lc_isF1 (by assumption) (by assumption) | exact lc_isF2 (by assumption) (by assumption) | exact lc_isF3 (by assumption) (by assumption)) ?_
        exact hret _ _ _ _ d_Heap_isFirst_35 hP hD hS
set_option maxHeartbeats 4000000 in
set_option maxRecDepth 100000 in
theorem c_Heap_isUncounted (l : Launch) (D : va_G) (cI : ClassId) (hp : Nat) (ow : Nat) (wo : Nat) (fo : lc_A) (fw : lc_A) (md : Nat) (i : Nat) (hi : i < 48) : zz_MI l y_Heap_isUncounted b_Heap_isUncounted 2 .boolean ({ frames := 1, cells := 0, slots := 0, locals := 21 } : Room) D [(cI, .int)] [.ref hp, .int (nI i)] [(hp, .inr (1, [.ref ow, .ref wo, .int (nI md)])), (ow, .inl (cI, 48, .inl fo)), (wo, .inl (cI, 48, .inl fw))] (lc_bI (lc_isU fo fw i)) [(hp, .inr (1, [.ref ow, .ref wo, .int (nI md)])), (ow, .inl (cI, 48, .inl fo)), (wo, .inl (cI, 48, .inl fw))] := by
  refine zz_MI_of (by decide) (Nat.le_of_ble_eq_true rfl) (zz_narB _) ?_
  intro p e s m args below meth c A ls Q hx hb hml hown hts hK hP hD hS hA hl hret
  have hown : s.vm.findClass R_Heap = some m.cls := hown
  have hl : lv_has ls 2 [(0, .ref hp), (1, .int (nI i))] := hl
  refine lv_aload_n hx hb d_Heap_isUncounted_0 rfl (lv_at hl 0 rfl) ?_
  refine lv_iload_n hx hb d_Heap_isUncounted_1 rfl (lv_at hl 1 rfl) ?_
  refine zz_callI (np := 1) hx hb hml hown hts hK hP hD hS hA (c_Heap_isFirst l D cI hp ow wo fo fw md i (by omega)) (zz_gv kw_3 kw_4 kw_5 kw_6 kc_2) (by decide +kernel) rfl rfl ⟨Nat.le_of_ble_eq_true rfl, Nat.le_of_ble_eq_true rfl⟩ ⟨Nat.zero_le _, Nat.zero_le _⟩ [0] rfl 0 1 rfl rfl rfl [0, 1, 2] [] [0, 1, 2] rfl (by decide) (wr := []) rfl (by decide) (by decide) (ws' := [(hp, .inr (1, [.ref ow, .ref wo, .int (nI md)])), (ow, .inl (cI, 48, .inl fo)), (wo, .inl (cI, 48, .inl fw))]) rfl (by decide) rfl hl.1 rfl (Nat.le_of_ble_eq_true rfl) d_Heap_isUncounted_2 (fun H locs hP hD hS => ?_)
  refine zz_bI (fun h2 => ?_) (fun h2 => ?_)
  · skip
    refine zz_if_eq (tgt := 21) hx hb (by omega) d_Heap_isUncounted_5 (by decide) (fun c5 => ?_) (fun c5 => ?_)
    · skip
      exact absurd c5 (by omega)
    · skip
      refine lv_aload_n hx hb d_Heap_isUncounted_8 rfl (lv_at hl 0 rfl) ?_
      refine va_get (D := D) (ci := 1) (v := .ref wo) (C := R_Heap) (T := F_Heap) (N := 3) hx hb hts i_Heap hown hK hP 0 rfl rfl 1 (by decide) (hts _ kw_1) (fun _ h9 => h9) rfl d_Heap_isUncounted_9 ?_
      refine lv_iload_n hx hb d_Heap_isUncounted_12 rfl (lv_at hl 1 rfl) ?_
      refine zz_iald hx hb hK hP 2 0 (f := fw) rfl rfl (i := i) (by omega) (by omega) d_Heap_isUncounted_13 ?_
      refine lv_if_ne (tgt := 21) hx hb d_Heap_isUncounted_14 (by decide) (fun c14 => ?_) (fun c14 => ?_)
      · skip
        refine lv_iconst (v := nI 0) hx hb d_Heap_isUncounted_21 (by decide +kernel) ?_
        refine zz_top (z := lc_bI (lc_isU fo fw i)) (by simp [lc_isU, lc_bI, *]) ?_
        exact hret _ _ _ _ d_Heap_isUncounted_22 hP hD hS
      · skip
        refine lv_iconst (v := nI 1) hx hb d_Heap_isUncounted_17 (by decide +kernel) ?_
        refine lv_goto (tgt := 22) hx hb d_Heap_isUncounted_18 (by decide) ?_
        refine zz_top (z := lc_bI (lc_isU fo fw i)) (by simp [lc_isU, lc_bI, *]) ?_
        exact hret _ _ _ _ d_Heap_isUncounted_22 hP hD hS
  · skip
    refine zz_if_eq (tgt := 21) hx hb (by omega) d_Heap_isUncounted_5 (by decide) (fun c5 => ?_) (fun c5 => ?_)
    · skip
      refine lv_iconst (v := nI 0) hx hb d_Heap_isUncounted_21 (by decide +kernel) ?_
      refine zz_top (z := lc_bI (lc_isU fo fw i)) (by simp [lc_isU, lc_bI, *]) ?_
      exact hret _ _ _ _ d_Heap_isUncounted_22 hP hD hS
    · skip
      exact absurd c5 (by omega)
set_option maxHeartbeats 4000000 in
set_option maxRecDepth 100000 in
theorem c_Heap_lowestRoom (l : Launch) (D : va_G) (cI : ClassId) (hp : Nat) (ow : Nat) (wo : Nat) (fo : lc_A) (fw : lc_A) (md : Nat) (k : Nat) (hk : 0 < k) (hk2 : k < 48) : zz_MI l y_Heap_lowestRoom b_Heap_lowestRoom 4 .int ({ frames := 0, cells := 0, slots := 0, locals := 0 } : Room) D [(cI, .int)] [.ref hp, .int (nI k)] [(hp, .inr (1, [.ref ow, .ref wo, .int (nI md)])), (ow, .inl (cI, 48, .inl fo)), (wo, .inl (cI, 48, .inl fw))] (lc_oI (lc_room fo k)) [(hp, .inr (1, [.ref ow, .ref wo, .int (nI md)])), (ow, .inl (cI, 48, .inl fo)), (wo, .inl (cI, 48, .inl fw))] := by
  refine zz_MI_of (by decide) (Nat.le_of_ble_eq_true rfl) (vp_nar_int _) ?_
  intro p e s m args below meth c A ls Q hx hb hml hown hts hK hP hD hS hA hl hret
  have hown : s.vm.findClass R_Heap = some m.cls := hown
  have hl : lv_has ls 4 [(0, .ref hp), (1, .int (nI k))] := hl
  refine lv_iconst (v := nI 0) hx hb d_Heap_lowestRoom_0 (by decide +kernel) ?_
  refine lv_istore_n (lv' := [(2, .int (nI 0)), (0, .ref hp), (1, .int (nI k))]) hx hb d_Heap_lowestRoom_1 rfl hl (by decide) rfl (fun ls hl => ?_)
  refine lv_iconst (v := nI 0) hx hb d_Heap_lowestRoom_2 (by decide +kernel) ?_
  refine lv_istore_n (lv' := [(3, .int (nI 0)), (2, .int (nI 0)), (0, .ref hp), (1, .int (nI k))]) hx hb d_Heap_lowestRoom_3 rfl hl (by decide) rfl (fun ls hl => ?_)
  have loop4 : ∀ (fu : Nat) (i : Nat) (run : Nat), 48 - i < fu → (hi : i ≤ 48) → (hr : run ≤ i) → (he : lc_rm fo k (48 - i) i run = lc_room fo k) → ∀ (H : Heap) (locs : List Loc), va_P D classes [(hp, .inr (1, [.ref ow, .ref wo, .int (nI md)])), (ow, .inl (cI, 48, .inl fo)), (wo, .inl (cI, 48, .inl fw))] H → va_D A [(hp, .inr (1, [.ref ow, .ref wo, .int (nI md)])), (ow, .inl (cI, 48, .inl fo)), (wo, .inl (cI, 48, .inl fw))] → va_S A s.heap H locs → ∀ (ls : Array Slot), lv_has ls 4 [(0, .ref hp), (1, .int (nI k)), (2, .int (nI run)), (3, .int (nI i))] → W p l e ({ frames := 0, cells := 0, slots := 0, locals := 0 } : Room) s m args below meth c H locs 0 0 Q (F0 m 4 ls []) := by
    intro fu
    induction fu with
    | zero => intro i run hf; omega
    | succ fu ih4 =>
      intro i run hf hi hr he H locs hP hD hS ls hl
      refine lv_iload_n hx hb d_Heap_lowestRoom_4 rfl (lv_at hl 3 rfl) ?_
      refine lv_bipush (v := nI 48) hx hb d_Heap_lowestRoom_5 (by decide +kernel) ?_
      refine zz_icmp_ge (tgt := 44) hx hb (by omega) (by omega) d_Heap_lowestRoom_7 (by decide) (fun c7 => ?_) (fun c7 => ?_)
      · skip
        refine lv_iconst (v := (-1)) hx hb d_Heap_lowestRoom_44 (by decide +kernel) ?_
        refine zz_top (z := lc_oI (lc_room fo k)) (by first | omega | exact lc_rm_ret (by omega) (by assumption) (by assumption) hr he | exact lc_rm_end (by omega) he) ?_
        exact hret _ _ _ _ d_Heap_lowestRoom_45 hP hD hS
      · skip
        refine lv_aload_n hx hb d_Heap_lowestRoom_10 rfl (lv_at hl 0 rfl) ?_
        refine va_get (D := D) (ci := 1) (v := .ref ow) (C := R_Heap) (T := F_Heap) (N := 3) hx hb hts i_Heap hown hK hP 0 rfl rfl 0 (by decide) (hts _ kw_0) (fun _ h9 => h9) rfl d_Heap_lowestRoom_11 ?_
        refine lv_iload_n hx hb d_Heap_lowestRoom_14 rfl (lv_at hl 3 rfl) ?_
        refine zz_iald hx hb hK hP 1 0 (f := fo) rfl rfl (i := i) (by omega) (by omega) d_Heap_lowestRoom_15 ?_
        refine lv_if_ne (tgt := 25) hx hb d_Heap_lowestRoom_16 (by decide) (fun c16 => ?_) (fun c16 => ?_)
        · skip
          refine lv_iconst (v := nI 0) hx hb d_Heap_lowestRoom_25 (by decide +kernel) ?_
          refine lv_istore_n (lv' := [(2, .int (nI 0)), (0, .ref hp), (1, .int (nI k)), (3, .int (nI i))]) hx hb d_Heap_lowestRoom_26 rfl hl (by decide) rfl (fun ls hl => ?_)
          refine lv_iload_n hx hb d_Heap_lowestRoom_27 rfl (lv_at hl 0 rfl) ?_
          refine lv_iload_n hx hb d_Heap_lowestRoom_28 rfl (lv_at hl 2 rfl) ?_
          refine zz_icmp_ne (tgt := 38) hx hb (by omega) (by omega) d_Heap_lowestRoom_29 (by decide) (fun c29 => ?_) (fun c29 => ?_)
          · skip
            refine lv_iinc (v := nI (i + 1)) (lv' := [(3, .int (nI (i + 1))), (2, .int (nI 0)), (0, .ref hp), (1, .int (nI k))]) hx hb d_Heap_lowestRoom_38 hl (k := 3) rfl (nI_1 _) (by decide) rfl (fun ls hl => ?_)
            refine lv_goto (tgt := 4) hx hb d_Heap_lowestRoom_41 (by decide) ?_
            exact ih4 (i + 1) 0 (by omega) (by omega) (by omega) (by first | exact (lc_rm_s1 (by omega) (by assumption) (by assumption)).trans he | exact (lc_rm_s0 (by omega) (by assumption) (by omega)).trans he) _ _ hP hD hS _ (lv_sub hl [2, 3, 1, 0] rfl)
          · skip
            refine lv_iload_n hx hb d_Heap_lowestRoom_32 rfl (lv_at hl 3 rfl) ?_
            refine lv_iload_n hx hb d_Heap_lowestRoom_33 rfl (lv_at hl 2 rfl) ?_
            refine lv_isub hx hb d_Heap_lowestRoom_34 ?_
            refine lv_iconst (v := nI 1) hx hb d_Heap_lowestRoom_35 (by decide +kernel) ?_
            refine lv_iadd hx hb d_Heap_lowestRoom_36 ?_
            refine zz_top (z := lc_oI (lc_room fo k)) (by first | omega | exact lc_rm_ret (by omega) (by assumption) (by assumption) hr he | exact lc_rm_end (by omega) he) ?_
            exact hret _ _ _ _ d_Heap_lowestRoom_37 hP hD hS
        · skip
          refine lv_iload_n hx hb d_Heap_lowestRoom_19 rfl (lv_at hl 2 rfl) ?_
          refine lv_iconst (v := nI 1) hx hb d_Heap_lowestRoom_20 (by decide +kernel) ?_
          refine zz_iadd hx hb d_Heap_lowestRoom_21 ?_
          refine lv_goto (tgt := 26) hx hb d_Heap_lowestRoom_22 (by decide) ?_
          refine lv_istore_n (lv' := [(2, .int (nI (run + 1))), (0, .ref hp), (1, .int (nI k)), (3, .int (nI i))]) hx hb d_Heap_lowestRoom_26 rfl hl (by decide) rfl (fun ls hl => ?_)
          refine lv_iload_n hx hb d_Heap_lowestRoom_27 rfl (lv_at hl 0 rfl) ?_
          refine lv_iload_n hx hb d_Heap_lowestRoom_28 rfl (lv_at hl 2 rfl) ?_
          refine zz_icmp_ne (tgt := 38) hx hb (by omega) (by omega) d_Heap_lowestRoom_29 (by decide) (fun c29 => ?_) (fun c29 => ?_)
          · skip
            refine lv_iinc (v := nI (i + 1)) (lv' := [(3, .int (nI (i + 1))), (2, .int (nI (run + 1))), (0, .ref hp), (1, .int (nI k))]) hx hb d_Heap_lowestRoom_38 hl (k := 3) rfl (nI_1 _) (by decide) rfl (fun ls hl => ?_)
            refine lv_goto (tgt := 4) hx hb d_Heap_lowestRoom_41 (by decide) ?_
            exact ih4 (i + 1) (run + 1) (by omega) (by omega) (by omega) (by first | exact (lc_rm_s1 (by omega) (by assumption) (by assumption)).trans he | exact (lc_rm_s0 (by omega) (by assumption) (by omega)).trans he) _ _ hP hD hS _ (lv_sub hl [2, 3, 1, 0] rfl)
          · skip
            refine lv_iload_n hx hb d_Heap_lowestRoom_32 rfl (lv_at hl 3 rfl) ?_
            refine lv_iload_n hx hb d_Heap_lowestRoom_33 rfl (lv_at hl 2 rfl) ?_
            refine lv_isub hx hb d_Heap_lowestRoom_34 ?_
            refine lv_iconst (v := nI 1) hx hb d_Heap_lowestRoom_35 (by decide +kernel) ?_
            refine lv_iadd hx hb d_Heap_lowestRoom_36 ?_
            refine zz_top (z := lc_oI (lc_room fo k)) (by first | omega | exact lc_rm_ret (by omega) (by assumption) (by assumption) hr he | exact lc_rm_end (by omega) he) ?_
            exact hret _ _ _ _ d_Heap_lowestRoom_37 hP hD hS
  exact loop4 49 0 0 (by omega) (by omega) (by omega) rfl _ _ hP hD hS _ (lv_sub hl [2, 3, 1, 0] rfl)
set_option maxHeartbeats 4000000 in
set_option maxRecDepth 100000 in
theorem c_Heap_firstCellOf (l : Launch) (D : va_G) (cI : ClassId) (hp : Nat) (ow : Nat) (wo : Nat) (fo : lc_A) (fw : lc_A) (md : Nat) (x : Int32)  : zz_MI l y_Heap_firstCellOf b_Heap_firstCellOf 3 .int ({ frames := 0, cells := 0, slots := 0, locals := 0 } : Room) D [(cI, .int)] [.ref hp, .int x] [(hp, .inr (1, [.ref ow, .ref wo, .int (nI md)])), (ow, .inl (cI, 48, .inl fo)), (wo, .inl (cI, 48, .inl fw))] (lc_oI (lc_first fo x)) [(hp, .inr (1, [.ref ow, .ref wo, .int (nI md)])), (ow, .inl (cI, 48, .inl fo)), (wo, .inl (cI, 48, .inl fw))] := by
  refine zz_MI_of (by decide) (Nat.le_of_ble_eq_true rfl) (vp_nar_int _) ?_
  intro p e s m args below meth c A ls Q hx hb hml hown hts hK hP hD hS hA hl hret
  have hown : s.vm.findClass R_Heap = some m.cls := hown
  have hl : lv_has ls 3 [(0, .ref hp), (1, .int x)] := hl
  refine lv_iload_n hx hb d_Heap_firstCellOf_0 rfl (lv_at hl 1 rfl) ?_
  refine lv_if_ne (tgt := 6) hx hb d_Heap_firstCellOf_1 (by decide) (fun c1 => ?_) (fun c1 => ?_)
  · skip
    refine lv_iconst (v := nI 0) hx hb d_Heap_firstCellOf_6 (by decide +kernel) ?_
    refine lv_istore_n (lv' := [(2, .int (nI 0)), (0, .ref hp), (1, .int x)]) hx hb d_Heap_firstCellOf_7 rfl hl (by decide) rfl (fun ls hl => ?_)
    have loop8 : ∀ (fu : Nat) (i : Nat), 48 - i < fu → (hi : i ≤ 48) → (hn : ∀ j, j < i → fo j ≠ x) → ∀ (H : Heap) (locs : List Loc), va_P D classes [(hp, .inr (1, [.ref ow, .ref wo, .int (nI md)])), (ow, .inl (cI, 48, .inl fo)), (wo, .inl (cI, 48, .inl fw))] H → va_D A [(hp, .inr (1, [.ref ow, .ref wo, .int (nI md)])), (ow, .inl (cI, 48, .inl fo)), (wo, .inl (cI, 48, .inl fw))] → va_S A s.heap H locs → ∀ (ls : Array Slot), lv_has ls 3 [(0, .ref hp), (1, .int x), (2, .int (nI i))] → W p l e ({ frames := 0, cells := 0, slots := 0, locals := 0 } : Room) s m args below meth c H locs 0 0 Q (F0 m 8 ls []) := by
      intro fu
      induction fu with
      | zero => intro i hf; omega
      | succ fu ih8 =>
        intro i hf hi hn H locs hP hD hS ls hl
        refine lv_iload_n hx hb d_Heap_firstCellOf_8 rfl (lv_at hl 2 rfl) ?_
        refine lv_bipush (v := nI 48) hx hb d_Heap_firstCellOf_9 (by decide +kernel) ?_
        refine zz_icmp_ge (tgt := 32) hx hb (by omega) (by omega) d_Heap_firstCellOf_11 (by decide) (fun c11 => ?_) (fun c11 => ?_)
        · skip
          refine lv_iconst (v := (-1)) hx hb d_Heap_firstCellOf_32 (by decide +kernel) ?_
          refine zz_top (z := lc_oI (lc_first fo x)) (by first | exact lc_first_0 (by assumption) | exact lc_first_i (by omega) (by assumption) (by assumption) hn | exact lc_first_n (by omega) (by assumption) hn) ?_
          exact hret _ _ _ _ d_Heap_firstCellOf_33 hP hD hS
        · skip
          refine lv_aload_n hx hb d_Heap_firstCellOf_14 rfl (lv_at hl 0 rfl) ?_
          refine va_get (D := D) (ci := 1) (v := .ref ow) (C := R_Heap) (T := F_Heap) (N := 3) hx hb hts i_Heap hown hK hP 0 rfl rfl 0 (by decide) (hts _ kw_0) (fun _ h9 => h9) rfl d_Heap_firstCellOf_15 ?_
          refine lv_iload_n hx hb d_Heap_firstCellOf_18 rfl (lv_at hl 2 rfl) ?_
          refine zz_iald hx hb hK hP 1 0 (f := fo) rfl rfl (i := i) (by omega) (by omega) d_Heap_firstCellOf_19 ?_
          refine lv_iload_n hx hb d_Heap_firstCellOf_20 rfl (lv_at hl 1 rfl) ?_
          refine lv_icmp_ne (tgt := 26) hx hb d_Heap_firstCellOf_21 (by decide) (fun c21 => ?_) (fun c21 => ?_)
          · skip
            refine lv_iinc (v := nI (i + 1)) (lv' := [(2, .int (nI (i + 1))), (0, .ref hp), (1, .int x)]) hx hb d_Heap_firstCellOf_26 hl (k := 2) rfl (nI_1 _) (by decide) rfl (fun ls hl => ?_)
            refine lv_goto (tgt := 8) hx hb d_Heap_firstCellOf_29 (by decide) ?_
            exact ih8 (i + 1) (by omega) (by omega) (lc_lt1 hn (by assumption)) _ _ hP hD hS _ (lv_sub hl [1, 2, 0] rfl)
          · skip
            refine lv_iload_n hx hb d_Heap_firstCellOf_24 rfl (lv_at hl 2 rfl) ?_
            refine zz_top (z := lc_oI (lc_first fo x)) (by first | exact lc_first_0 (by assumption) | exact lc_first_i (by omega) (by assumption) (by assumption) hn | exact lc_first_n (by omega) (by assumption) hn) ?_
            exact hret _ _ _ _ d_Heap_firstCellOf_25 hP hD hS
    exact loop8 49 0 (by omega) (by omega) (fun j hj => by omega) _ _ hP hD hS _ (lv_sub hl [1, 2, 0] rfl)
  · skip
    refine lv_iconst (v := (-1)) hx hb d_Heap_firstCellOf_4 (by decide +kernel) ?_
    refine zz_top (z := lc_oI (lc_first fo x)) (by first | exact lc_first_0 (by assumption) | exact lc_first_i (by omega) (by assumption) (by assumption) hn | exact lc_first_n (by omega) (by assumption) hn) ?_
    exact hret _ _ _ _ d_Heap_firstCellOf_5 hP hD hS
set_option maxHeartbeats 4000000 in
set_option maxRecDepth 100000 in
theorem c_Heap_slotsAt_n (l : Launch) (D : va_G) (cI : ClassId) (hp : Nat) (ow : Nat) (wo : Nat) (fo : lc_A) (fw : lc_A) (md : Nat)  : zz_MI l y_Heap_slotsAt b_Heap_slotsAt 4 .int ({ frames := 0, cells := 0, slots := 0, locals := 0 } : Room) D [(cI, .int)] [.ref hp, .int (-1)] [(hp, .inr (1, [.ref ow, .ref wo, .int (nI md)])), (ow, .inl (cI, 48, .inl fo)), (wo, .inl (cI, 48, .inl fw))] (nI 0) [(hp, .inr (1, [.ref ow, .ref wo, .int (nI md)])), (ow, .inl (cI, 48, .inl fo)), (wo, .inl (cI, 48, .inl fw))] := by
  refine zz_MI_of (by decide) (Nat.le_of_ble_eq_true rfl) (vp_nar_int _) ?_
  intro p e s m args below meth c A ls Q hx hb hml hown hts hK hP hD hS hA hl hret
  have hown : s.vm.findClass R_Heap = some m.cls := hown
  have hl : lv_has ls 4 [(0, .ref hp), (1, .int (-1))] := hl
  refine lv_iload_n hx hb d_Heap_slotsAt_0 rfl (lv_at hl 1 rfl) ?_
  refine lv_iconst (v := (-1)) hx hb d_Heap_slotsAt_1 (by decide +kernel) ?_
  refine lv_icmp_ne (tgt := 7) hx hb d_Heap_slotsAt_2 (by decide) (fun c2 => ?_) (fun c2 => ?_)
  · skip
    exact absurd rfl c2
  · skip
    refine lv_iconst (v := nI 0) hx hb d_Heap_slotsAt_5 (by decide +kernel) ?_
    exact hret _ _ _ _ d_Heap_slotsAt_6 hP hD hS
set_option maxHeartbeats 4000000 in
set_option maxRecDepth 100000 in
theorem c_Heap_slotsAt_s (l : Launch) (D : va_G) (cI : ClassId) (hp : Nat) (ow : Nat) (wo : Nat) (fo : lc_A) (fw : lc_A) (md : Nat) (a : Nat) (ha : a < 48) : zz_MI l y_Heap_slotsAt b_Heap_slotsAt 4 .int ({ frames := 0, cells := 0, slots := 0, locals := 0 } : Room) D [(cI, .int)] [.ref hp, .int (nI a)] [(hp, .inr (1, [.ref ow, .ref wo, .int (nI md)])), (ow, .inl (cI, 48, .inl fo)), (wo, .inl (cI, 48, .inl fw))] (nI (lc_sa fo a)) [(hp, .inr (1, [.ref ow, .ref wo, .int (nI md)])), (ow, .inl (cI, 48, .inl fo)), (wo, .inl (cI, 48, .inl fw))] := by
  refine zz_MI_of (by decide) (Nat.le_of_ble_eq_true rfl) (vp_nar_int _) ?_
  intro p e s m args below meth c A ls Q hx hb hml hown hts hK hP hD hS hA hl hret
  have hown : s.vm.findClass R_Heap = some m.cls := hown
  have hl : lv_has ls 4 [(0, .ref hp), (1, .int (nI a))] := hl
  refine lv_iload_n hx hb d_Heap_slotsAt_0 rfl (lv_at hl 1 rfl) ?_
  refine lv_iconst (v := (-1)) hx hb d_Heap_slotsAt_1 (by decide +kernel) ?_
  refine lv_icmp_ne (tgt := 7) hx hb d_Heap_slotsAt_2 (by decide) (fun c2 => ?_) (fun c2 => ?_)
  · skip
    refine lv_iconst (v := nI 0) hx hb d_Heap_slotsAt_7 (by decide +kernel) ?_
    refine lv_istore_n (lv' := [(2, .int (nI 0)), (0, .ref hp), (1, .int (nI a))]) hx hb d_Heap_slotsAt_8 rfl hl (by decide) rfl (fun ls hl => ?_)
    refine lv_iload_n hx hb d_Heap_slotsAt_9 rfl (lv_at hl 2 rfl) ?_
    refine lv_iconst (v := nI 1) hx hb d_Heap_slotsAt_10 (by decide +kernel) ?_
    refine zz_iadd hx hb d_Heap_slotsAt_11 ?_
    refine lv_istore_n (lv' := [(3, .int (nI (a + 1))), (2, .int (nI 0)), (0, .ref hp), (1, .int (nI a))]) hx hb d_Heap_slotsAt_12 rfl hl (by decide) rfl (fun ls hl => ?_)
    have loop13 : ∀ (fu : Nat) (j : Nat), 48 - j < fu → (hj : a + 1 + j ≤ 48) → (hn : ∀ k, k < j → fo (a + 1 + k) = fo a) → ∀ (H : Heap) (locs : List Loc), va_P D classes [(hp, .inr (1, [.ref ow, .ref wo, .int (nI md)])), (ow, .inl (cI, 48, .inl fo)), (wo, .inl (cI, 48, .inl fw))] H → va_D A [(hp, .inr (1, [.ref ow, .ref wo, .int (nI md)])), (ow, .inl (cI, 48, .inl fo)), (wo, .inl (cI, 48, .inl fw))] → va_S A s.heap H locs → ∀ (ls : Array Slot), lv_has ls 4 [(0, .ref hp), (1, .int (nI a)), (2, .int (nI j)), (3, .int (nI (a + 1 + j)))] → W p l e ({ frames := 0, cells := 0, slots := 0, locals := 0 } : Room) s m args below meth c H locs 0 0 Q (F0 m 13 ls []) := by
      intro fu
      induction fu with
      | zero => intro j hf; omega
      | succ fu ih13 =>
        intro j hf hj hn H locs hP hD hS ls hl
        refine lv_iload_n hx hb d_Heap_slotsAt_13 rfl (lv_at hl 3 rfl) ?_
        refine lv_bipush (v := nI 48) hx hb d_Heap_slotsAt_14 (by decide +kernel) ?_
        refine zz_icmp_ge (tgt := 43) hx hb (by omega) (by omega) d_Heap_slotsAt_16 (by decide) (fun c16 => ?_) (fun c16 => ?_)
        · skip
          refine lv_iload_n hx hb d_Heap_slotsAt_43 rfl (lv_at hl 2 rfl) ?_
          refine zz_top (z := nI (lc_sa fo a)) (by first | exact lc_sa_end ha hj hn (Or.inl (by omega)) | exact lc_sa_end ha hj hn (Or.inr (by assumption))) ?_
          exact hret _ _ _ _ d_Heap_slotsAt_44 hP hD hS
        · skip
          refine lv_aload_n hx hb d_Heap_slotsAt_19 rfl (lv_at hl 0 rfl) ?_
          refine va_get (D := D) (ci := 1) (v := .ref ow) (C := R_Heap) (T := F_Heap) (N := 3) hx hb hts i_Heap hown hK hP 0 rfl rfl 0 (by decide) (hts _ kw_0) (fun _ h9 => h9) rfl d_Heap_slotsAt_20 ?_
          refine lv_iload_n hx hb d_Heap_slotsAt_23 rfl (lv_at hl 3 rfl) ?_
          refine zz_iald hx hb hK hP 1 0 (f := fo) rfl rfl (i := a + 1 + j) (by omega) (by omega) d_Heap_slotsAt_24 ?_
          refine lv_aload_n hx hb d_Heap_slotsAt_25 rfl (lv_at hl 0 rfl) ?_
          refine va_get (D := D) (ci := 1) (v := .ref ow) (C := R_Heap) (T := F_Heap) (N := 3) hx hb hts i_Heap hown hK hP 0 rfl rfl 0 (by decide) (hts _ kw_0) (fun _ h9 => h9) rfl d_Heap_slotsAt_26 ?_
          refine lv_iload_n hx hb d_Heap_slotsAt_29 rfl (lv_at hl 1 rfl) ?_
          refine zz_iald hx hb hK hP 1 0 (f := fo) rfl rfl (i := a) (by omega) (by omega) d_Heap_slotsAt_30 ?_
          refine lv_icmp_ne (tgt := 43) hx hb d_Heap_slotsAt_31 (by decide) (fun c31 => ?_) (fun c31 => ?_)
          · skip
            refine lv_iload_n hx hb d_Heap_slotsAt_43 rfl (lv_at hl 2 rfl) ?_
            refine zz_top (z := nI (lc_sa fo a)) (by first | exact lc_sa_end ha hj hn (Or.inl (by omega)) | exact lc_sa_end ha hj hn (Or.inr (by assumption))) ?_
            exact hret _ _ _ _ d_Heap_slotsAt_44 hP hD hS
          · skip
            refine lv_iinc (v := nI (j + 1)) (lv' := [(2, .int (nI (j + 1))), (0, .ref hp), (1, .int (nI a)), (3, .int (nI (a + 1 + j)))]) hx hb d_Heap_slotsAt_34 hl (k := 2) rfl (nI_1 _) (by decide) rfl (fun ls hl => ?_)
            refine lv_iinc (v := nI ((a + 1 + j) + 1)) (lv' := [(3, .int (nI ((a + 1 + j) + 1))), (2, .int (nI (j + 1))), (0, .ref hp), (1, .int (nI a))]) hx hb d_Heap_slotsAt_37 hl (k := 3) rfl (nI_1 _) (by decide) rfl (fun ls hl => ?_)
            refine lv_goto (tgt := 13) hx hb d_Heap_slotsAt_40 (by decide) ?_
            have eL1 : (a + 1 + j) + 1 = a + 1 + (j + 1) := by omega
            exact ih13 (j + 1) (by omega) (by omega) (lc_lt1 hn (by assumption)) _ _ hP hD hS _ (zz_hlc (lv_sub (l' := [(0, .ref hp), (1, .int (nI a)), (2, .int (nI (j + 1))), (3, .int (nI ((a + 1 + j) + 1)))]) hl [2, 3, 1, 0] rfl) (zz_c1 rfl (zz_c1 rfl (zz_c1 rfl (zz_c1 (congrArg (fun v => ((3 : Nat), Value.int (nI v))) eL1) rfl)))))
    have eL2 : a + 1 = a + 1 + 0 := by omega
    exact loop13 49 0 (by omega) (by omega) (fun k hk => by omega) _ _ hP hD hS _ (zz_hlc (lv_sub (l' := [(0, .ref hp), (1, .int (nI a)), (2, .int (nI 0)), (3, .int (nI (a + 1)))]) hl [2, 3, 1, 0] rfl) (zz_c1 rfl (zz_c1 rfl (zz_c1 rfl (zz_c1 (congrArg (fun v => ((3 : Nat), Value.int (nI v))) eL2) rfl)))))
  · skip
    exact absurd c2 (zz_nm1 (by omega))
set_option maxHeartbeats 4000000 in
set_option maxRecDepth 100000 in
theorem c_Heap_hasSlot_n (l : Launch) (D : va_G) (cI : ClassId) (hp : Nat) (ow : Nat) (wo : Nat) (fo : lc_A) (fw : lc_A) (md : Nat) (x : Int32)  : zz_MI l y_Heap_hasSlot b_Heap_hasSlot 3 .boolean ({ frames := 1, cells := 0, slots := 0, locals := 23 } : Room) D [(cI, .int)] [.ref hp, .int (-1), .int x] [(hp, .inr (1, [.ref ow, .ref wo, .int (nI md)])), (ow, .inl (cI, 48, .inl fo)), (wo, .inl (cI, 48, .inl fw))] (nI 0) [(hp, .inr (1, [.ref ow, .ref wo, .int (nI md)])), (ow, .inl (cI, 48, .inl fo)), (wo, .inl (cI, 48, .inl fw))] := by
  refine zz_MI_of (by decide) (Nat.le_of_ble_eq_true rfl) (by decide +kernel) ?_
  intro p e s m args below meth c A ls Q hx hb hml hown hts hK hP hD hS hA hl hret
  have hown : s.vm.findClass R_Heap = some m.cls := hown
  have hl : lv_has ls 3 [(0, .ref hp), (1, .int (-1)), (2, .int x)] := hl
  refine lv_iload_n hx hb d_Heap_hasSlot_0 rfl (lv_at hl 2 rfl) ?_
  refine lv_if_lt (tgt := 17) hx hb d_Heap_hasSlot_1 (by decide) (fun c1 => ?_) (fun c1 => ?_)
  · skip
    refine lv_iconst (v := nI 0) hx hb d_Heap_hasSlot_17 (by decide +kernel) ?_
    exact hret _ _ _ _ d_Heap_hasSlot_18 hP hD hS
  · skip
    refine lv_iload_n hx hb d_Heap_hasSlot_4 rfl (lv_at hl 2 rfl) ?_
    refine lv_aload_n hx hb d_Heap_hasSlot_5 rfl (lv_at hl 0 rfl) ?_
    refine lv_iload_n hx hb d_Heap_hasSlot_6 rfl (lv_at hl 1 rfl) ?_
    refine zz_callI (np := 1) hx hb hml hown hts hK hP hD hS hA (c_Heap_slotsAt_n l D cI hp ow wo fo fw md ) (zz_gv kw_8 kw_9 kw_10 kw_6 kc_7) (by decide +kernel) rfl rfl ⟨Nat.le_of_ble_eq_true rfl, Nat.le_of_ble_eq_true rfl⟩ ⟨Nat.zero_le _, Nat.zero_le _⟩ [0] rfl 0 1 rfl rfl rfl [0, 1, 2] [] [0, 1, 2] rfl (by decide) (wr := []) rfl (by decide) (by decide) (ws' := [(hp, .inr (1, [.ref ow, .ref wo, .int (nI md)])), (ow, .inl (cI, 48, .inl fo)), (wo, .inl (cI, 48, .inl fw))]) rfl (by decide) rfl hl.1 rfl (Nat.le_of_ble_eq_true rfl) d_Heap_hasSlot_7 (fun H locs hP hD hS => ?_)
    refine lv_icmp_ge (tgt := 17) hx hb d_Heap_hasSlot_10 (by decide) (fun c10 => ?_) (fun c10 => ?_)
    · skip
      refine lv_iconst (v := nI 0) hx hb d_Heap_hasSlot_17 (by decide +kernel) ?_
      exact hret _ _ _ _ d_Heap_hasSlot_18 hP hD hS
    · skip
      refine lv_iconst (v := nI 1) hx hb d_Heap_hasSlot_13 (by decide +kernel) ?_
      refine lv_goto (tgt := 18) hx hb d_Heap_hasSlot_14 (by decide) ?_
      refine zz_top (z := nI 0) (by first | rfl | exact absurd (Int32.not_lt.mp (by assumption)) (by rw [← nI_0] at *; assumption)) ?_
      exact hret _ _ _ _ d_Heap_hasSlot_18 hP hD hS
set_option maxHeartbeats 4000000 in
set_option maxRecDepth 100000 in
theorem c_Heap_hasSlot_s (l : Launch) (D : va_G) (cI : ClassId) (hp : Nat) (ow : Nat) (wo : Nat) (fo : lc_A) (fw : lc_A) (md : Nat) (a : Nat) (x : Int32) (ha : a < 48) : zz_MI l y_Heap_hasSlot b_Heap_hasSlot 3 .boolean ({ frames := 1, cells := 0, slots := 0, locals := 23 } : Room) D [(cI, .int)] [.ref hp, .int (nI a), .int x] [(hp, .inr (1, [.ref ow, .ref wo, .int (nI md)])), (ow, .inl (cI, 48, .inl fo)), (wo, .inl (cI, 48, .inl fw))] (lc_bI (lc_pl x (lc_sa fo a)).isSome) [(hp, .inr (1, [.ref ow, .ref wo, .int (nI md)])), (ow, .inl (cI, 48, .inl fo)), (wo, .inl (cI, 48, .inl fw))] := by
  refine zz_MI_of (by decide) (Nat.le_of_ble_eq_true rfl) (zz_narB _) ?_
  intro p e s m args below meth c A ls Q hx hb hml hown hts hK hP hD hS hA hl hret
  have hown : s.vm.findClass R_Heap = some m.cls := hown
  have hl : lv_has ls 3 [(0, .ref hp), (1, .int (nI a)), (2, .int x)] := hl
  refine lv_iload_n hx hb d_Heap_hasSlot_0 rfl (lv_at hl 2 rfl) ?_
  refine lv_if_lt (tgt := 17) hx hb d_Heap_hasSlot_1 (by decide) (fun c1 => ?_) (fun c1 => ?_)
  · skip
    refine lv_iconst (v := nI 0) hx hb d_Heap_hasSlot_17 (by decide +kernel) ?_
    refine zz_top (z := lc_bI (lc_pl x (lc_sa fo a)).isSome) (by first | exact lc_has1 (by assumption) (by assumption) | exact lc_has0 (by assumption) | exact lc_has2 (by assumption)) ?_
    exact hret _ _ _ _ d_Heap_hasSlot_18 hP hD hS
  · skip
    refine lv_iload_n hx hb d_Heap_hasSlot_4 rfl (lv_at hl 2 rfl) ?_
    refine lv_aload_n hx hb d_Heap_hasSlot_5 rfl (lv_at hl 0 rfl) ?_
    refine lv_iload_n hx hb d_Heap_hasSlot_6 rfl (lv_at hl 1 rfl) ?_
    refine zz_callI (np := 1) hx hb hml hown hts hK hP hD hS hA (c_Heap_slotsAt_s l D cI hp ow wo fo fw md a (by omega)) (zz_gv kw_8 kw_9 kw_10 kw_6 kc_7) (by decide +kernel) rfl rfl ⟨Nat.le_of_ble_eq_true rfl, Nat.le_of_ble_eq_true rfl⟩ ⟨Nat.zero_le _, Nat.zero_le _⟩ [0] rfl 0 1 rfl rfl rfl [0, 1, 2] [] [0, 1, 2] rfl (by decide) (wr := []) rfl (by decide) (by decide) (ws' := [(hp, .inr (1, [.ref ow, .ref wo, .int (nI md)])), (ow, .inl (cI, 48, .inl fo)), (wo, .inl (cI, 48, .inl fw))]) rfl (by decide) rfl hl.1 rfl (Nat.le_of_ble_eq_true rfl) d_Heap_hasSlot_7 (fun H locs hP hD hS => ?_)
    refine lv_icmp_ge (tgt := 17) hx hb d_Heap_hasSlot_10 (by decide) (fun c10 => ?_) (fun c10 => ?_)
    · skip
      refine lv_iconst (v := nI 0) hx hb d_Heap_hasSlot_17 (by decide +kernel) ?_
      refine zz_top (z := lc_bI (lc_pl x (lc_sa fo a)).isSome) (by first | exact lc_has1 (by assumption) (by assumption) | exact lc_has0 (by assumption) | exact lc_has2 (by assumption)) ?_
      exact hret _ _ _ _ d_Heap_hasSlot_18 hP hD hS
    · skip
      refine lv_iconst (v := nI 1) hx hb d_Heap_hasSlot_13 (by decide +kernel) ?_
      refine lv_goto (tgt := 18) hx hb d_Heap_hasSlot_14 (by decide) ?_
      refine zz_top (z := lc_bI (lc_pl x (lc_sa fo a)).isSome) (by first | exact lc_has1 (by assumption) (by assumption) | exact lc_has0 (by assumption) | exact lc_has2 (by assumption)) ?_
      exact hret _ _ _ _ d_Heap_hasSlot_18 hP hD hS
set_option maxHeartbeats 4000000 in
set_option maxRecDepth 100000 in
theorem c_Heap_objects (l : Launch) (D : va_G) (cI : ClassId) (hp : Nat) (ow : Nat) (wo : Nat) (fo : lc_A) (fw : lc_A) (md : Nat)  : zz_MI l y_Heap_objects b_Heap_objects 3 .int ({ frames := 1, cells := 0, slots := 0, locals := 21 } : Room) D [(cI, .int)] [.ref hp] [(hp, .inr (1, [.ref ow, .ref wo, .int (nI md)])), (ow, .inl (cI, 48, .inl fo)), (wo, .inl (cI, 48, .inl fw))] (nI (lc_ct (lc_isF fo) 48)) [(hp, .inr (1, [.ref ow, .ref wo, .int (nI md)])), (ow, .inl (cI, 48, .inl fo)), (wo, .inl (cI, 48, .inl fw))] := by
  refine zz_MI_of (by decide) (Nat.le_of_ble_eq_true rfl) (vp_nar_int _) ?_
  intro p e s m args below meth c A ls Q hx hb hml hown hts hK hP hD hS hA hl hret
  have hown : s.vm.findClass R_Heap = some m.cls := hown
  have hl : lv_has ls 3 [(0, .ref hp)] := hl
  refine lv_iconst (v := nI 0) hx hb d_Heap_objects_0 (by decide +kernel) ?_
  refine lv_istore_n (lv' := [(1, .int (nI 0)), (0, .ref hp)]) hx hb d_Heap_objects_1 rfl hl (by decide) rfl (fun ls hl => ?_)
  refine lv_iconst (v := nI 0) hx hb d_Heap_objects_2 (by decide +kernel) ?_
  refine lv_istore_n (lv' := [(2, .int (nI 0)), (1, .int (nI 0)), (0, .ref hp)]) hx hb d_Heap_objects_3 rfl hl (by decide) rfl (fun ls hl => ?_)
  have loop4 : ∀ (fu : Nat) (i : Nat), 48 - i < fu → (hi : i ≤ 48) → ∀ (H : Heap) (locs : List Loc), va_P D classes [(hp, .inr (1, [.ref ow, .ref wo, .int (nI md)])), (ow, .inl (cI, 48, .inl fo)), (wo, .inl (cI, 48, .inl fw))] H → va_D A [(hp, .inr (1, [.ref ow, .ref wo, .int (nI md)])), (ow, .inl (cI, 48, .inl fo)), (wo, .inl (cI, 48, .inl fw))] → va_S A s.heap H locs → ∀ (ls : Array Slot), lv_has ls 3 [(0, .ref hp), (1, .int (nI (lc_ct (lc_isF fo) i))), (2, .int (nI i))] → W p l e ({ frames := 1, cells := 0, slots := 0, locals := 21 } : Room) s m args below meth c H locs 0 0 Q (F0 m 4 ls []) := by
    intro fu
    induction fu with
    | zero => intro i hf; omega
    | succ fu ih4 =>
      intro i hf hi H locs hP hD hS ls hl
      refine lv_iload_n hx hb d_Heap_objects_4 rfl (lv_at hl 2 rfl) ?_
      refine lv_bipush (v := nI 48) hx hb d_Heap_objects_5 (by decide +kernel) ?_
      refine zz_icmp_ge (tgt := 32) hx hb (by omega) (by omega) d_Heap_objects_7 (by decide) (fun c7 => ?_) (fun c7 => ?_)
      · skip
        refine lv_iload_n hx hb d_Heap_objects_32 rfl (lv_at hl 1 rfl) ?_
        refine zz_top (z := nI (lc_ct (lc_isF fo) 48)) (by rw [show i = 48 by omega]) ?_
        exact hret _ _ _ _ d_Heap_objects_33 hP hD hS
      · skip
        refine lv_iload_n hx hb d_Heap_objects_10 rfl (lv_at hl 1 rfl) ?_
        refine lv_aload_n hx hb d_Heap_objects_11 rfl (lv_at hl 0 rfl) ?_
        refine lv_iload_n hx hb d_Heap_objects_12 rfl (lv_at hl 2 rfl) ?_
        refine zz_callI (np := 1) hx hb hml hown hts hK hP hD hS hA (c_Heap_isFirst l D cI hp ow wo fo fw md i (by omega)) (zz_gv kw_3 kw_4 kw_5 kw_6 kc_2) (by decide +kernel) rfl rfl ⟨Nat.le_of_ble_eq_true rfl, Nat.le_of_ble_eq_true rfl⟩ ⟨Nat.zero_le _, Nat.zero_le _⟩ [0] rfl 0 1 rfl rfl rfl [0, 1, 2] [] [0, 1, 2] rfl (by decide) (wr := []) rfl (by decide) (by decide) (ws' := [(hp, .inr (1, [.ref ow, .ref wo, .int (nI md)])), (ow, .inl (cI, 48, .inl fo)), (wo, .inl (cI, 48, .inl fw))]) rfl (by decide) rfl hl.1 rfl (Nat.le_of_ble_eq_true rfl) d_Heap_objects_13 (fun H locs hP hD hS => ?_)
        refine zz_bI (fun h13 => ?_) (fun h13 => ?_)
        · skip
          refine zz_if_eq (tgt := 23) hx hb (by omega) d_Heap_objects_16 (by decide) (fun c16 => ?_) (fun c16 => ?_)
          · skip
            exact absurd c16 (by omega)
          · skip
            refine lv_iconst (v := nI 1) hx hb d_Heap_objects_19 (by decide +kernel) ?_
            refine lv_goto (tgt := 24) hx hb d_Heap_objects_20 (by decide) ?_
            refine zz_iadd hx hb d_Heap_objects_24 ?_
            refine lv_istore_n (lv' := [(1, .int (nI ((lc_ct (lc_isF fo) i) + 1))), (0, .ref hp), (2, .int (nI i))]) hx hb d_Heap_objects_25 rfl hl (by decide) rfl (fun ls hl => ?_)
            refine lv_iinc (v := nI (i + 1)) (lv' := [(2, .int (nI (i + 1))), (1, .int (nI ((lc_ct (lc_isF fo) i) + 1))), (0, .ref hp)]) hx hb d_Heap_objects_26 hl (k := 2) rfl (nI_1 _) (by decide) rfl (fun ls hl => ?_)
            refine lv_goto (tgt := 4) hx hb d_Heap_objects_29 (by decide) ?_
            have eL1 : (lc_ct (lc_isF fo) i) + 1 = lc_ct (lc_isF fo) (i + 1) := by simp [lc_ct, *]
            exact ih4 (i + 1) (by omega) (by omega) _ _ hP hD hS _ (zz_hlc (lv_sub (l' := [(0, .ref hp), (1, .int (nI ((lc_ct (lc_isF fo) i) + 1))), (2, .int (nI (i + 1)))]) hl [2, 1, 0] rfl) (zz_c1 rfl (zz_c1 (congrArg (fun v => ((1 : Nat), Value.int (nI v))) eL1) (zz_c1 rfl rfl))))
        · skip
          refine zz_if_eq (tgt := 23) hx hb (by omega) d_Heap_objects_16 (by decide) (fun c16 => ?_) (fun c16 => ?_)
          · skip
            refine lv_iconst (v := nI 0) hx hb d_Heap_objects_23 (by decide +kernel) ?_
            refine zz_iadd hx hb d_Heap_objects_24 ?_
            refine lv_istore_n (lv' := [(1, .int (nI ((lc_ct (lc_isF fo) i) + 0))), (0, .ref hp), (2, .int (nI i))]) hx hb d_Heap_objects_25 rfl hl (by decide) rfl (fun ls hl => ?_)
            refine lv_iinc (v := nI (i + 1)) (lv' := [(2, .int (nI (i + 1))), (1, .int (nI ((lc_ct (lc_isF fo) i) + 0))), (0, .ref hp)]) hx hb d_Heap_objects_26 hl (k := 2) rfl (nI_1 _) (by decide) rfl (fun ls hl => ?_)
            refine lv_goto (tgt := 4) hx hb d_Heap_objects_29 (by decide) ?_
            have eL2 : (lc_ct (lc_isF fo) i) + 0 = lc_ct (lc_isF fo) (i + 1) := by simp [lc_ct, *]
            exact ih4 (i + 1) (by omega) (by omega) _ _ hP hD hS _ (zz_hlc (lv_sub (l' := [(0, .ref hp), (1, .int (nI ((lc_ct (lc_isF fo) i) + 0))), (2, .int (nI (i + 1)))]) hl [2, 1, 0] rfl) (zz_c1 rfl (zz_c1 (congrArg (fun v => ((1 : Nat), Value.int (nI v))) eL2) (zz_c1 rfl rfl))))
          · skip
            exact absurd c16 (by omega)
  have eL3 : 0 = lc_ct (lc_isF fo) 0 := by simp [lc_ct, *]
  exact loop4 49 0 (by omega) (by omega) _ _ hP hD hS _ (zz_hlc (lv_sub (l' := [(0, .ref hp), (1, .int (nI 0)), (2, .int (nI 0))]) hl [2, 1, 0] rfl) (zz_c1 rfl (zz_c1 (congrArg (fun v => ((1 : Nat), Value.int (nI v))) eL3) (zz_c1 rfl rfl))))
set_option maxHeartbeats 4000000 in
set_option maxRecDepth 100000 in
theorem c_Heap_uncountedObjects (l : Launch) (D : va_G) (cI : ClassId) (hp : Nat) (ow : Nat) (wo : Nat) (fo : lc_A) (fw : lc_A) (md : Nat)  : zz_MI l y_Heap_uncountedObjects b_Heap_uncountedObjects 3 .int ({ frames := 2, cells := 0, slots := 0, locals := 42 } : Room) D [(cI, .int)] [.ref hp] [(hp, .inr (1, [.ref ow, .ref wo, .int (nI md)])), (ow, .inl (cI, 48, .inl fo)), (wo, .inl (cI, 48, .inl fw))] (nI (lc_ct (lc_isU fo fw) 48)) [(hp, .inr (1, [.ref ow, .ref wo, .int (nI md)])), (ow, .inl (cI, 48, .inl fo)), (wo, .inl (cI, 48, .inl fw))] := by
  refine zz_MI_of (by decide) (Nat.le_of_ble_eq_true rfl) (vp_nar_int _) ?_
  intro p e s m args below meth c A ls Q hx hb hml hown hts hK hP hD hS hA hl hret
  have hown : s.vm.findClass R_Heap = some m.cls := hown
  have hl : lv_has ls 3 [(0, .ref hp)] := hl
  refine lv_iconst (v := nI 0) hx hb d_Heap_uncountedObjects_0 (by decide +kernel) ?_
  refine lv_istore_n (lv' := [(1, .int (nI 0)), (0, .ref hp)]) hx hb d_Heap_uncountedObjects_1 rfl hl (by decide) rfl (fun ls hl => ?_)
  refine lv_iconst (v := nI 0) hx hb d_Heap_uncountedObjects_2 (by decide +kernel) ?_
  refine lv_istore_n (lv' := [(2, .int (nI 0)), (1, .int (nI 0)), (0, .ref hp)]) hx hb d_Heap_uncountedObjects_3 rfl hl (by decide) rfl (fun ls hl => ?_)
  have loop4 : ∀ (fu : Nat) (i : Nat), 48 - i < fu → (hi : i ≤ 48) → ∀ (H : Heap) (locs : List Loc), va_P D classes [(hp, .inr (1, [.ref ow, .ref wo, .int (nI md)])), (ow, .inl (cI, 48, .inl fo)), (wo, .inl (cI, 48, .inl fw))] H → va_D A [(hp, .inr (1, [.ref ow, .ref wo, .int (nI md)])), (ow, .inl (cI, 48, .inl fo)), (wo, .inl (cI, 48, .inl fw))] → va_S A s.heap H locs → ∀ (ls : Array Slot), lv_has ls 3 [(0, .ref hp), (1, .int (nI (lc_ct (lc_isU fo fw) i))), (2, .int (nI i))] → W p l e ({ frames := 2, cells := 0, slots := 0, locals := 42 } : Room) s m args below meth c H locs 0 0 Q (F0 m 4 ls []) := by
    intro fu
    induction fu with
    | zero => intro i hf; omega
    | succ fu ih4 =>
      intro i hf hi H locs hP hD hS ls hl
      refine lv_iload_n hx hb d_Heap_uncountedObjects_4 rfl (lv_at hl 2 rfl) ?_
      refine lv_bipush (v := nI 48) hx hb d_Heap_uncountedObjects_5 (by decide +kernel) ?_
      refine zz_icmp_ge (tgt := 32) hx hb (by omega) (by omega) d_Heap_uncountedObjects_7 (by decide) (fun c7 => ?_) (fun c7 => ?_)
      · skip
        refine lv_iload_n hx hb d_Heap_uncountedObjects_32 rfl (lv_at hl 1 rfl) ?_
        refine zz_top (z := nI (lc_ct (lc_isU fo fw) 48)) (by rw [show i = 48 by omega]) ?_
        exact hret _ _ _ _ d_Heap_uncountedObjects_33 hP hD hS
      · skip
        refine lv_iload_n hx hb d_Heap_uncountedObjects_10 rfl (lv_at hl 1 rfl) ?_
        refine lv_aload_n hx hb d_Heap_uncountedObjects_11 rfl (lv_at hl 0 rfl) ?_
        refine lv_iload_n hx hb d_Heap_uncountedObjects_12 rfl (lv_at hl 2 rfl) ?_
        refine zz_callI (np := 1) hx hb hml hown hts hK hP hD hS hA (c_Heap_isUncounted l D cI hp ow wo fo fw md i (by omega)) (zz_gv kw_12 kw_13 kw_14 kw_6 kc_11) (by decide +kernel) rfl rfl ⟨Nat.le_of_ble_eq_true rfl, Nat.le_of_ble_eq_true rfl⟩ ⟨Nat.zero_le _, Nat.zero_le _⟩ [0] rfl 0 1 rfl rfl rfl [0, 1, 2] [] [0, 1, 2] rfl (by decide) (wr := []) rfl (by decide) (by decide) (ws' := [(hp, .inr (1, [.ref ow, .ref wo, .int (nI md)])), (ow, .inl (cI, 48, .inl fo)), (wo, .inl (cI, 48, .inl fw))]) rfl (by decide) rfl hl.1 rfl (Nat.le_of_ble_eq_true rfl) d_Heap_uncountedObjects_13 (fun H locs hP hD hS => ?_)
        refine zz_bI (fun h13 => ?_) (fun h13 => ?_)
        · skip
          refine zz_if_eq (tgt := 23) hx hb (by omega) d_Heap_uncountedObjects_16 (by decide) (fun c16 => ?_) (fun c16 => ?_)
          · skip
            exact absurd c16 (by omega)
          · skip
            refine lv_iconst (v := nI 1) hx hb d_Heap_uncountedObjects_19 (by decide +kernel) ?_
            refine lv_goto (tgt := 24) hx hb d_Heap_uncountedObjects_20 (by decide) ?_
            refine zz_iadd hx hb d_Heap_uncountedObjects_24 ?_
            refine lv_istore_n (lv' := [(1, .int (nI ((lc_ct (lc_isU fo fw) i) + 1))), (0, .ref hp), (2, .int (nI i))]) hx hb d_Heap_uncountedObjects_25 rfl hl (by decide) rfl (fun ls hl => ?_)
            refine lv_iinc (v := nI (i + 1)) (lv' := [(2, .int (nI (i + 1))), (1, .int (nI ((lc_ct (lc_isU fo fw) i) + 1))), (0, .ref hp)]) hx hb d_Heap_uncountedObjects_26 hl (k := 2) rfl (nI_1 _) (by decide) rfl (fun ls hl => ?_)
            refine lv_goto (tgt := 4) hx hb d_Heap_uncountedObjects_29 (by decide) ?_
            have eL1 : (lc_ct (lc_isU fo fw) i) + 1 = lc_ct (lc_isU fo fw) (i + 1) := by simp [lc_ct, *]
            exact ih4 (i + 1) (by omega) (by omega) _ _ hP hD hS _ (zz_hlc (lv_sub (l' := [(0, .ref hp), (1, .int (nI ((lc_ct (lc_isU fo fw) i) + 1))), (2, .int (nI (i + 1)))]) hl [2, 1, 0] rfl) (zz_c1 rfl (zz_c1 (congrArg (fun v => ((1 : Nat), Value.int (nI v))) eL1) (zz_c1 rfl rfl))))
        · skip
          refine zz_if_eq (tgt := 23) hx hb (by omega) d_Heap_uncountedObjects_16 (by decide) (fun c16 => ?_) (fun c16 => ?_)
          · skip
            refine lv_iconst (v := nI 0) hx hb d_Heap_uncountedObjects_23 (by decide +kernel) ?_
            refine zz_iadd hx hb d_Heap_uncountedObjects_24 ?_
            refine lv_istore_n (lv' := [(1, .int (nI ((lc_ct (lc_isU fo fw) i) + 0))), (0, .ref hp), (2, .int (nI i))]) hx hb d_Heap_uncountedObjects_25 rfl hl (by decide) rfl (fun ls hl => ?_)
            refine lv_iinc (v := nI (i + 1)) (lv' := [(2, .int (nI (i + 1))), (1, .int (nI ((lc_ct (lc_isU fo fw) i) + 0))), (0, .ref hp)]) hx hb d_Heap_uncountedObjects_26 hl (k := 2) rfl (nI_1 _) (by decide) rfl (fun ls hl => ?_)
            refine lv_goto (tgt := 4) hx hb d_Heap_uncountedObjects_29 (by decide) ?_
            have eL2 : (lc_ct (lc_isU fo fw) i) + 0 = lc_ct (lc_isU fo fw) (i + 1) := by simp [lc_ct, *]
            exact ih4 (i + 1) (by omega) (by omega) _ _ hP hD hS _ (zz_hlc (lv_sub (l' := [(0, .ref hp), (1, .int (nI ((lc_ct (lc_isU fo fw) i) + 0))), (2, .int (nI (i + 1)))]) hl [2, 1, 0] rfl) (zz_c1 rfl (zz_c1 (congrArg (fun v => ((1 : Nat), Value.int (nI v))) eL2) (zz_c1 rfl rfl))))
          · skip
            exact absurd c16 (by omega)
  have eL3 : 0 = lc_ct (lc_isU fo fw) 0 := by simp [lc_ct, *]
  exact loop4 49 0 (by omega) (by omega) _ _ hP hD hS _ (zz_hlc (lv_sub (l' := [(0, .ref hp), (1, .int (nI 0)), (2, .int (nI 0))]) hl [2, 1, 0] rfl) (zz_c1 rfl (zz_c1 (congrArg (fun v => ((1 : Nat), Value.int (nI v))) eL3) (zz_c1 rfl rfl))))
set_option maxHeartbeats 4000000 in
set_option maxRecDepth 100000 in
theorem c_Heap_freeCells (l : Launch) (D : va_G) (cI : ClassId) (hp : Nat) (ow : Nat) (wo : Nat) (fo : lc_A) (fw : lc_A) (md : Nat)  : zz_MI l y_Heap_freeCells b_Heap_freeCells 3 .int ({ frames := 0, cells := 0, slots := 0, locals := 0 } : Room) D [(cI, .int)] [.ref hp] [(hp, .inr (1, [.ref ow, .ref wo, .int (nI md)])), (ow, .inl (cI, 48, .inl fo)), (wo, .inl (cI, 48, .inl fw))] (nI (lc_ct (fun u => decide (fo u = 0)) 48)) [(hp, .inr (1, [.ref ow, .ref wo, .int (nI md)])), (ow, .inl (cI, 48, .inl fo)), (wo, .inl (cI, 48, .inl fw))] := by
  refine zz_MI_of (by decide) (Nat.le_of_ble_eq_true rfl) (vp_nar_int _) ?_
  intro p e s m args below meth c A ls Q hx hb hml hown hts hK hP hD hS hA hl hret
  have hown : s.vm.findClass R_Heap = some m.cls := hown
  have hl : lv_has ls 3 [(0, .ref hp)] := hl
  refine lv_iconst (v := nI 0) hx hb d_Heap_freeCells_0 (by decide +kernel) ?_
  refine lv_istore_n (lv' := [(1, .int (nI 0)), (0, .ref hp)]) hx hb d_Heap_freeCells_1 rfl hl (by decide) rfl (fun ls hl => ?_)
  refine lv_iconst (v := nI 0) hx hb d_Heap_freeCells_2 (by decide +kernel) ?_
  refine lv_istore_n (lv' := [(2, .int (nI 0)), (1, .int (nI 0)), (0, .ref hp)]) hx hb d_Heap_freeCells_3 rfl hl (by decide) rfl (fun ls hl => ?_)
  have loop4 : ∀ (fu : Nat) (i : Nat), 48 - i < fu → (hi : i ≤ 48) → ∀ (H : Heap) (locs : List Loc), va_P D classes [(hp, .inr (1, [.ref ow, .ref wo, .int (nI md)])), (ow, .inl (cI, 48, .inl fo)), (wo, .inl (cI, 48, .inl fw))] H → va_D A [(hp, .inr (1, [.ref ow, .ref wo, .int (nI md)])), (ow, .inl (cI, 48, .inl fo)), (wo, .inl (cI, 48, .inl fw))] → va_S A s.heap H locs → ∀ (ls : Array Slot), lv_has ls 3 [(0, .ref hp), (1, .int (nI (lc_ct (fun u => decide (fo u = 0)) i))), (2, .int (nI i))] → W p l e ({ frames := 0, cells := 0, slots := 0, locals := 0 } : Room) s m args below meth c H locs 0 0 Q (F0 m 4 ls []) := by
    intro fu
    induction fu with
    | zero => intro i hf; omega
    | succ fu ih4 =>
      intro i hf hi H locs hP hD hS ls hl
      refine lv_iload_n hx hb d_Heap_freeCells_4 rfl (lv_at hl 2 rfl) ?_
      refine lv_bipush (v := nI 48) hx hb d_Heap_freeCells_5 (by decide +kernel) ?_
      refine zz_icmp_ge (tgt := 33) hx hb (by omega) (by omega) d_Heap_freeCells_7 (by decide) (fun c7 => ?_) (fun c7 => ?_)
      · skip
        refine lv_iload_n hx hb d_Heap_freeCells_33 rfl (lv_at hl 1 rfl) ?_
        refine zz_top (z := nI (lc_ct (fun u => decide (fo u = 0)) 48)) (by rw [show i = 48 by omega]) ?_
        exact hret _ _ _ _ d_Heap_freeCells_34 hP hD hS
      · skip
        refine lv_iload_n hx hb d_Heap_freeCells_10 rfl (lv_at hl 1 rfl) ?_
        refine lv_aload_n hx hb d_Heap_freeCells_11 rfl (lv_at hl 0 rfl) ?_
        refine va_get (D := D) (ci := 1) (v := .ref ow) (C := R_Heap) (T := F_Heap) (N := 3) hx hb hts i_Heap hown hK hP 0 rfl rfl 0 (by decide) (hts _ kw_0) (fun _ h9 => h9) rfl d_Heap_freeCells_12 ?_
        refine lv_iload_n hx hb d_Heap_freeCells_15 rfl (lv_at hl 2 rfl) ?_
        refine zz_iald hx hb hK hP 1 0 (f := fo) rfl rfl (i := i) (by omega) (by omega) d_Heap_freeCells_16 ?_
        refine lv_if_ne (tgt := 24) hx hb d_Heap_freeCells_17 (by decide) (fun c17 => ?_) (fun c17 => ?_)
        · skip
          refine lv_iconst (v := nI 0) hx hb d_Heap_freeCells_24 (by decide +kernel) ?_
          refine zz_iadd hx hb d_Heap_freeCells_25 ?_
          refine lv_istore_n (lv' := [(1, .int (nI ((lc_ct (fun u => decide (fo u = 0)) i) + 0))), (0, .ref hp), (2, .int (nI i))]) hx hb d_Heap_freeCells_26 rfl hl (by decide) rfl (fun ls hl => ?_)
          refine lv_iinc (v := nI (i + 1)) (lv' := [(2, .int (nI (i + 1))), (1, .int (nI ((lc_ct (fun u => decide (fo u = 0)) i) + 0))), (0, .ref hp)]) hx hb d_Heap_freeCells_27 hl (k := 2) rfl (nI_1 _) (by decide) rfl (fun ls hl => ?_)
          refine lv_goto (tgt := 4) hx hb d_Heap_freeCells_30 (by decide) ?_
          have eL1 : (lc_ct (fun u => decide (fo u = 0)) i) + 0 = lc_ct (fun u => decide (fo u = 0)) (i + 1) := by simp [lc_ct, *]
          exact ih4 (i + 1) (by omega) (by omega) _ _ hP hD hS _ (zz_hlc (lv_sub (l' := [(0, .ref hp), (1, .int (nI ((lc_ct (fun u => decide (fo u = 0)) i) + 0))), (2, .int (nI (i + 1)))]) hl [2, 1, 0] rfl) (zz_c1 rfl (zz_c1 (congrArg (fun v => ((1 : Nat), Value.int (nI v))) eL1) (zz_c1 rfl rfl))))
        · skip
          refine lv_iconst (v := nI 1) hx hb d_Heap_freeCells_20 (by decide +kernel) ?_
          refine lv_goto (tgt := 25) hx hb d_Heap_freeCells_21 (by decide) ?_
          refine zz_iadd hx hb d_Heap_freeCells_25 ?_
          refine lv_istore_n (lv' := [(1, .int (nI ((lc_ct (fun u => decide (fo u = 0)) i) + 1))), (0, .ref hp), (2, .int (nI i))]) hx hb d_Heap_freeCells_26 rfl hl (by decide) rfl (fun ls hl => ?_)
          refine lv_iinc (v := nI (i + 1)) (lv' := [(2, .int (nI (i + 1))), (1, .int (nI ((lc_ct (fun u => decide (fo u = 0)) i) + 1))), (0, .ref hp)]) hx hb d_Heap_freeCells_27 hl (k := 2) rfl (nI_1 _) (by decide) rfl (fun ls hl => ?_)
          refine lv_goto (tgt := 4) hx hb d_Heap_freeCells_30 (by decide) ?_
          have eL2 : (lc_ct (fun u => decide (fo u = 0)) i) + 1 = lc_ct (fun u => decide (fo u = 0)) (i + 1) := by simp [lc_ct, *]
          exact ih4 (i + 1) (by omega) (by omega) _ _ hP hD hS _ (zz_hlc (lv_sub (l' := [(0, .ref hp), (1, .int (nI ((lc_ct (fun u => decide (fo u = 0)) i) + 1))), (2, .int (nI (i + 1)))]) hl [2, 1, 0] rfl) (zz_c1 rfl (zz_c1 (congrArg (fun v => ((1 : Nat), Value.int (nI v))) eL2) (zz_c1 rfl rfl))))
  have eL3 : 0 = lc_ct (fun u => decide (fo u = 0)) 0 := by simp [lc_ct, *]
  exact loop4 49 0 (by omega) (by omega) _ _ hP hD hS _ (zz_hlc (lv_sub (l' := [(0, .ref hp), (1, .int (nI 0)), (2, .int (nI 0))]) hl [2, 1, 0] rfl) (zz_c1 rfl (zz_c1 (congrArg (fun v => ((1 : Nat), Value.int (nI v))) eL3) (zz_c1 rfl rfl))))
set_option maxHeartbeats 4000000 in
set_option maxRecDepth 100000 in
theorem c_Heap_addToCount (l : Launch) (D : va_G) (cI : ClassId) (hp : Nat) (ow : Nat) (wo : Nat) (fo : lc_A) (fw : lc_A) (md : Nat) (x : Int32) (d : Int32)  : zz_MV l y_Heap_addToCount b_Heap_addToCount 4 ({ frames := 1, cells := 0, slots := 0, locals := 22 } : Room) D [(cI, .int)] [.ref hp, .int x, .int d] [(hp, .inr (1, [.ref ow, .ref wo, .int (nI md)])), (ow, .inl (cI, 48, .inl fo)), (wo, .inl (cI, 48, .inl fw))] [(hp, .inr (1, [.ref ow, .ref wo, .int (nI md)])), (ow, .inl (cI, 48, .inl fo)), (wo, .inl (cI, 48, .inl (lc_add fo fw x d)))] := by
  refine zz_MV_of (by decide) (Nat.le_of_ble_eq_true rfl) ?_
  intro p e s m args below meth c A ls Q hx hb hml hown hts hK hP hD hS hA hl hret
  have hown : s.vm.findClass R_Heap = some m.cls := hown
  have hl : lv_has ls 4 [(0, .ref hp), (1, .int x), (2, .int d)] := hl
  refine lv_aload_n hx hb d_Heap_addToCount_0 rfl (lv_at hl 0 rfl) ?_
  refine lv_iload_n hx hb d_Heap_addToCount_1 rfl (lv_at hl 1 rfl) ?_
  refine zz_callI (np := 1) hx hb hml hown hts hK hP hD hS hA (c_Heap_firstCellOf l D cI hp ow wo fo fw md x ) (zz_gv kw_16 kw_17 kw_18 kw_6 kc_15) (by decide +kernel) rfl rfl ⟨Nat.le_of_ble_eq_true rfl, Nat.le_of_ble_eq_true rfl⟩ ⟨Nat.zero_le _, Nat.zero_le _⟩ [0] rfl 0 1 rfl rfl rfl [0, 1, 2] [] [0, 1, 2] rfl (by decide) (wr := []) rfl (by decide) (by decide) (ws' := [(hp, .inr (1, [.ref ow, .ref wo, .int (nI md)])), (ow, .inl (cI, 48, .inl fo)), (wo, .inl (cI, 48, .inl fw))]) rfl (by decide) rfl hl.1 rfl (Nat.le_of_ble_eq_true rfl) d_Heap_addToCount_2 (fun H locs hP hD hS => ?_)
  refine zz_oI (fun h2 => ?_) (fun k2 h2 => ?_)
  · skip
    refine lv_istore_n (lv' := [(3, .int (-1)), (0, .ref hp), (1, .int x), (2, .int d)]) hx hb d_Heap_addToCount_5 rfl hl (by decide) rfl (fun ls hl => ?_)
    refine lv_iload_n hx hb d_Heap_addToCount_6 rfl (lv_at hl 0 rfl) ?_
    refine lv_iconst (v := (-1)) hx hb d_Heap_addToCount_7 (by decide +kernel) ?_
    refine lv_icmp_eq (tgt := 21) hx hb d_Heap_addToCount_8 (by decide) (fun c8 => ?_) (fun c8 => ?_)
    · skip
      have eW : ([(hp, .inr (1, [.ref ow, .ref wo, .int (nI md)])), (ow, .inl (cI, 48, .inl fo)), (wo, .inl (cI, 48, .inl fw))] : va_W) = [(hp, .inr (1, [.ref ow, .ref wo, .int (nI md)])), (ow, .inl (cI, 48, .inl fo)), (wo, .inl (cI, 48, .inl (lc_add fo fw x d)))] := by simp only [lc_add, *]
      exact hret _ _ _ _ d_Heap_addToCount_21 (zz_toP eW hP) (zz_toD eW hD) hS
    · skip
      exact absurd rfl c8
  · skip
    have hk := (lc_first_lt h2).1
    refine lv_istore_n (lv' := [(3, .int (nI k2)), (0, .ref hp), (1, .int x), (2, .int d)]) hx hb d_Heap_addToCount_5 rfl hl (by decide) rfl (fun ls hl => ?_)
    refine lv_iload_n hx hb d_Heap_addToCount_6 rfl (lv_at hl 0 rfl) ?_
    refine lv_iconst (v := (-1)) hx hb d_Heap_addToCount_7 (by decide +kernel) ?_
    refine lv_icmp_eq (tgt := 21) hx hb d_Heap_addToCount_8 (by decide) (fun c8 => ?_) (fun c8 => ?_)
    · skip
      exact absurd c8 (zz_nm1 (by omega))
    · skip
      refine lv_aload_n hx hb d_Heap_addToCount_11 rfl (lv_at hl 1 rfl) ?_
      refine va_get (D := D) (ci := 1) (v := .ref wo) (C := R_Heap) (T := F_Heap) (N := 3) hx hb hts i_Heap hown hK hP 0 rfl rfl 1 (by decide) (hts _ kw_1) (fun _ h9 => h9) rfl d_Heap_addToCount_12 ?_
      refine lv_iload_n hx hb d_Heap_addToCount_15 rfl (lv_at hl 0 rfl) ?_
      refine lv_dup2_11 hx hb d_Heap_addToCount_16 rfl rfl ?_
      refine zz_iald hx hb hK hP 2 0 (f := fw) rfl rfl (i := k2) (by omega) (by omega) d_Heap_addToCount_17 ?_
      refine lv_iload_n hx hb d_Heap_addToCount_18 rfl (lv_at hl 3 rfl) ?_
      refine lv_iadd hx hb d_Heap_addToCount_19 ?_
      refine zz_iast hx hb hK hP hD hS 2 0 (f := fw) rfl rfl (i := k2) (by omega) (by omega) d_Heap_addToCount_20 (g := upd fw k2 ((fw k2) + d)) rfl (ws' := [(hp, .inr (1, [.ref ow, .ref wo, .int (nI md)])), (ow, .inl (cI, 48, .inl fo)), (wo, .inl (cI, 48, .inl (upd fw k2 ((fw k2) + d))))]) rfl (fun H locs hP hD hS => ?_)
      have eW : ([(hp, .inr (1, [.ref ow, .ref wo, .int (nI md)])), (ow, .inl (cI, 48, .inl fo)), (wo, .inl (cI, 48, .inl (upd fw k2 ((fw k2) + d))))] : va_W) = [(hp, .inr (1, [.ref ow, .ref wo, .int (nI md)])), (ow, .inl (cI, 48, .inl fo)), (wo, .inl (cI, 48, .inl (lc_add fo fw x d)))] := by simp only [lc_add, *]
      exact hret _ _ _ _ d_Heap_addToCount_21 (zz_toP eW hP) (zz_toD eW hD) hS
set_option maxHeartbeats 4000000 in
set_option maxRecDepth 100000 in
theorem c_Heap_layNew (l : Launch) (D : va_G) (cI : ClassId) (hp : Nat) (ow : Nat) (wo : Nat) (fo : lc_A) (fw : lc_A) (md : Nat) (a : Nat) (n : Nat) (hn : a + n < 48) : zz_MI l y_Heap_layNew b_Heap_layNew 4 .int ({ frames := 0, cells := 0, slots := 0, locals := 0 } : Room) D [(cI, .int)] [.ref hp, .int (nI a), .int (nI n)] [(hp, .inr (1, [.ref ow, .ref wo, .int (nI md)])), (ow, .inl (cI, 48, .inl fo)), (wo, .inl (cI, 48, .inl fw))] (nI (md + 1)) [(hp, .inr (1, [.ref ow, .ref wo, .int (nI (md + 1))])), (ow, .inl (cI, 48, .inl (lc_fill fo a (n + 1) (nI (md + 1))))), (wo, .inl (cI, 48, .inl (lc_fill fw a (n + 1) 0)))] := by
  refine zz_MI_of (by decide) (Nat.le_of_ble_eq_true rfl) (vp_nar_int _) ?_
  intro p e s m args below meth c A ls Q hx hb hml hown hts hK hP hD hS hA hl hret
  have hown : s.vm.findClass R_Heap = some m.cls := hown
  have hl : lv_has ls 4 [(0, .ref hp), (1, .int (nI a)), (2, .int (nI n))] := hl
  refine lv_aload_n hx hb d_Heap_layNew_0 rfl (lv_at hl 0 rfl) ?_
  refine lv_dup hx hb d_Heap_layNew_1 rfl ?_
  refine va_get (D := D) (ci := 1) (v := .int (nI md)) (C := R_Heap) (T := F_Heap) (N := 3) hx hb hts i_Heap hown hK hP 0 rfl rfl 2 (by decide) (hts _ kw_19) (fun _ h9 => h9) rfl d_Heap_layNew_2 ?_
  refine lv_iconst (v := nI 1) hx hb d_Heap_layNew_5 (by decide +kernel) ?_
  refine zz_iadd hx hb d_Heap_layNew_6 ?_
  refine va_put (D := D) (ci := 1) (v := .int (nI (md + 1))) (ty := .int) (C := R_Heap) (T := F_Heap) (N := 3) hx hb hts i_Heap t_Heap t_Heap_ok n_Heap hown hK hP hD hS 0 rfl rfl 2 (by decide) (hts _ kw_19) (fun _ h9 => h9) rfl (by decide +kernel) rfl rfl (Nat.le_of_ble_eq_true rfl) d_Heap_layNew_7 (fun H locs hP hD hS => ?_)
  have hP : va_P D classes [(hp, .inr (1, [.ref ow, .ref wo, .int (nI (md + 1))])), (ow, .inl (cI, 48, .inl fo)), (wo, .inl (cI, 48, .inl fw))] H := hP
  have hD : va_D A [(hp, .inr (1, [.ref ow, .ref wo, .int (nI (md + 1))])), (ow, .inl (cI, 48, .inl fo)), (wo, .inl (cI, 48, .inl fw))] := hD
  refine lv_iload_n hx hb d_Heap_layNew_10 rfl (lv_at hl 1 rfl) ?_
  refine lv_istore_n (lv' := [(3, .int (nI a)), (0, .ref hp), (1, .int (nI a)), (2, .int (nI n))]) hx hb d_Heap_layNew_11 rfl hl (by decide) rfl (fun ls hl => ?_)
  have loop12 : ∀ (fu : Nat) (j : Nat), 48 - j < fu → (hj : j ≤ n + 1) → ∀ (H : Heap) (locs : List Loc), va_P D classes [(hp, .inr (1, [.ref ow, .ref wo, .int (nI (md + 1))])), (ow, .inl (cI, 48, .inl (lc_fill fo a j (nI (md + 1))))), (wo, .inl (cI, 48, .inl (lc_fill fw a j 0)))] H → va_D A [(hp, .inr (1, [.ref ow, .ref wo, .int (nI (md + 1))])), (ow, .inl (cI, 48, .inl (lc_fill fo a j (nI (md + 1))))), (wo, .inl (cI, 48, .inl (lc_fill fw a j 0)))] → va_S A s.heap H locs → ∀ (ls : Array Slot), lv_has ls 4 [(0, .ref hp), (1, .int (nI a)), (2, .int (nI n)), (3, .int (nI (a + j)))] → W p l e ({ frames := 0, cells := 0, slots := 0, locals := 0 } : Room) s m args below meth c H locs 0 0 Q (F0 m 12 ls []) := by
    intro fu
    induction fu with
    | zero => intro j hf; omega
    | succ fu ih12 =>
      intro j hf hj H locs hP hD hS ls hl
      refine lv_iload_n hx hb d_Heap_layNew_12 rfl (lv_at hl 3 rfl) ?_
      refine lv_iload_n hx hb d_Heap_layNew_13 rfl (lv_at hl 1 rfl) ?_
      refine lv_iload_n hx hb d_Heap_layNew_14 rfl (lv_at hl 2 rfl) ?_
      refine zz_iadd hx hb d_Heap_layNew_15 ?_
      refine zz_icmp_gt (tgt := 42) hx hb (by omega) (by omega) d_Heap_layNew_16 (by decide) (fun c16 => ?_) (fun c16 => ?_)
      · skip
        refine lv_aload_n hx hb d_Heap_layNew_42 rfl (lv_at hl 0 rfl) ?_
        refine va_get (D := D) (ci := 1) (v := .int (nI (md + 1))) (C := R_Heap) (T := F_Heap) (N := 3) hx hb hts i_Heap hown hK hP 0 rfl rfl 2 (by decide) (hts _ kw_19) (fun _ h9 => h9) rfl d_Heap_layNew_43 ?_
        have eW : ([(hp, .inr (1, [.ref ow, .ref wo, .int (nI (md + 1))])), (ow, .inl (cI, 48, .inl (lc_fill fo a j (nI (md + 1))))), (wo, .inl (cI, 48, .inl (lc_fill fw a j 0)))] : va_W) = [(hp, .inr (1, [.ref ow, .ref wo, .int (nI (md + 1))])), (ow, .inl (cI, 48, .inl (lc_fill fo a (n + 1) (nI (md + 1))))), (wo, .inl (cI, 48, .inl (lc_fill fw a (n + 1) 0)))] := by rw [show j = n + 1 by omega]
        exact hret _ _ _ _ d_Heap_layNew_46 (zz_toP eW hP) (zz_toD eW hD) hS
      · skip
        refine lv_aload_n hx hb d_Heap_layNew_19 rfl (lv_at hl 0 rfl) ?_
        refine va_get (D := D) (ci := 1) (v := .ref ow) (C := R_Heap) (T := F_Heap) (N := 3) hx hb hts i_Heap hown hK hP 0 rfl rfl 0 (by decide) (hts _ kw_0) (fun _ h9 => h9) rfl d_Heap_layNew_20 ?_
        refine lv_iload_n hx hb d_Heap_layNew_23 rfl (lv_at hl 3 rfl) ?_
        refine lv_aload_n hx hb d_Heap_layNew_24 rfl (lv_at hl 0 rfl) ?_
        refine va_get (D := D) (ci := 1) (v := .int (nI (md + 1))) (C := R_Heap) (T := F_Heap) (N := 3) hx hb hts i_Heap hown hK hP 0 rfl rfl 2 (by decide) (hts _ kw_19) (fun _ h9 => h9) rfl d_Heap_layNew_25 ?_
        refine zz_iast hx hb hK hP hD hS 1 0 (f := lc_fill fo a j (nI (md + 1))) rfl rfl (i := a + j) (by omega) (by omega) d_Heap_layNew_28 (g := lc_fill fo a (j + 1) (nI (md + 1))) (lc_fill_s _ _ _ _) (ws' := [(hp, .inr (1, [.ref ow, .ref wo, .int (nI (md + 1))])), (ow, .inl (cI, 48, .inl (lc_fill fo a (j + 1) (nI (md + 1))))), (wo, .inl (cI, 48, .inl (lc_fill fw a j 0)))]) rfl (fun H locs hP hD hS => ?_)
        refine lv_aload_n hx hb d_Heap_layNew_29 rfl (lv_at hl 0 rfl) ?_
        refine va_get (D := D) (ci := 1) (v := .ref wo) (C := R_Heap) (T := F_Heap) (N := 3) hx hb hts i_Heap hown hK hP 0 rfl rfl 1 (by decide) (hts _ kw_1) (fun _ h9 => h9) rfl d_Heap_layNew_30 ?_
        refine lv_iload_n hx hb d_Heap_layNew_33 rfl (lv_at hl 3 rfl) ?_
        refine lv_iconst (v := nI 0) hx hb d_Heap_layNew_34 (by decide +kernel) ?_
        refine zz_iast hx hb hK hP hD hS 2 0 (f := lc_fill fw a j 0) rfl rfl (i := a + j) (by omega) (by omega) d_Heap_layNew_35 (g := lc_fill fw a (j + 1) 0) (by rw [nI_0]; exact lc_fill_s _ _ _ _) (ws' := [(hp, .inr (1, [.ref ow, .ref wo, .int (nI (md + 1))])), (ow, .inl (cI, 48, .inl (lc_fill fo a (j + 1) (nI (md + 1))))), (wo, .inl (cI, 48, .inl (lc_fill fw a (j + 1) 0)))]) rfl (fun H locs hP hD hS => ?_)
        refine lv_iinc (v := nI ((a + j) + 1)) (lv' := [(3, .int (nI ((a + j) + 1))), (0, .ref hp), (1, .int (nI a)), (2, .int (nI n))]) hx hb d_Heap_layNew_36 hl (k := 3) rfl (nI_1 _) (by decide) rfl (fun ls hl => ?_)
        refine lv_goto (tgt := 12) hx hb d_Heap_layNew_39 (by decide) ?_
        have eL1 : (a + j) + 1 = a + (j + 1) := by omega
        exact ih12 (j + 1) (by omega) (by omega) _ _ hP hD hS _ (zz_hlc (lv_sub (l' := [(0, .ref hp), (1, .int (nI a)), (2, .int (nI n)), (3, .int (nI ((a + j) + 1)))]) hl [1, 2, 3, 0] rfl) (zz_c1 rfl (zz_c1 rfl (zz_c1 rfl (zz_c1 (congrArg (fun v => ((3 : Nat), Value.int (nI v))) eL1) rfl)))))
  have eL2 : a = a + 0 := by omega
  have eW3 : ([(hp, .inr (1, [.ref ow, .ref wo, .int (nI (md + 1))])), (ow, .inl (cI, 48, .inl fo)), (wo, .inl (cI, 48, .inl fw))] : va_W) = [(hp, .inr (1, [.ref ow, .ref wo, .int (nI (md + 1))])), (ow, .inl (cI, 48, .inl (lc_fill fo a 0 (nI (md + 1))))), (wo, .inl (cI, 48, .inl (lc_fill fw a 0 0)))] := by simp only [lc_fill_0]
  have hP := zz_toP eW3 hP
  have hD := zz_toD eW3 hD
  exact loop12 49 0 (by omega) (by omega) _ _ hP hD hS _ (zz_hlc (lv_sub (l' := [(0, .ref hp), (1, .int (nI a)), (2, .int (nI n)), (3, .int (nI a))]) hl [1, 2, 3, 0] rfl) (zz_c1 rfl (zz_c1 rfl (zz_c1 rfl (zz_c1 (congrArg (fun v => ((3 : Nat), Value.int (nI v))) eL2) rfl)))))
set_option maxHeartbeats 4000000 in
set_option maxRecDepth 100000 in
theorem c_Heap_giveBack (l : Launch) (D : va_G) (cI : ClassId) (hp : Nat) (ow : Nat) (wo : Nat) (fo : lc_A) (fw : lc_A) (md : Nat) (a : Nat) (ha : a < 48) : zz_MV l y_Heap_giveBack b_Heap_giveBack 4 ({ frames := 2, cells := 0, slots := 0, locals := 45 } : Room) D [(cI, .int)] [.ref hp, .int (nI a)] [(hp, .inr (1, [.ref ow, .ref wo, .int (nI md)])), (ow, .inl (cI, 48, .inl fo)), (wo, .inl (cI, 48, .inl fw))] [(hp, .inr (1, [.ref ow, .ref wo, .int (nI md)])), (ow, .inl (cI, 48, .inl (lc_fill fo a (lc_sa fo a + 1) 0))), (wo, .inl (cI, 48, .inl (lc_gb fo fw a (lc_sa fo a))))] := by
  refine zz_MV_of (by decide) (Nat.le_of_ble_eq_true rfl) ?_
  intro p e s m args below meth c A ls Q hx hb hml hown hts hK hP hD hS hA hl hret
  have hown : s.vm.findClass R_Heap = some m.cls := hown
  have hl : lv_has ls 4 [(0, .ref hp), (1, .int (nI a))] := hl
  have hsa := lc_sa_le fo a
  refine lv_aload_n hx hb d_Heap_giveBack_0 rfl (lv_at hl 0 rfl) ?_
  refine lv_iload_n hx hb d_Heap_giveBack_1 rfl (lv_at hl 1 rfl) ?_
  refine zz_callI (np := 1) hx hb hml hown hts hK hP hD hS hA (c_Heap_slotsAt_s l D cI hp ow wo fo fw md a (by omega)) (zz_gv kw_8 kw_9 kw_10 kw_6 kc_7) (by decide +kernel) rfl rfl ⟨Nat.le_of_ble_eq_true rfl, Nat.le_of_ble_eq_true rfl⟩ ⟨Nat.zero_le _, Nat.zero_le _⟩ [0] rfl 0 1 rfl rfl rfl [0, 1, 2] [] [0, 1, 2] rfl (by decide) (wr := []) rfl (by decide) (by decide) (ws' := [(hp, .inr (1, [.ref ow, .ref wo, .int (nI md)])), (ow, .inl (cI, 48, .inl fo)), (wo, .inl (cI, 48, .inl fw))]) rfl (by decide) rfl hl.1 rfl (Nat.le_of_ble_eq_true rfl) d_Heap_giveBack_2 (fun H locs hP hD hS => ?_)
  refine lv_istore_n (lv' := [(2, .int (nI (lc_sa fo a))), (0, .ref hp), (1, .int (nI a))]) hx hb d_Heap_giveBack_5 rfl hl (by decide) rfl (fun ls hl => ?_)
  refine lv_iconst (v := nI 0) hx hb d_Heap_giveBack_6 (by decide +kernel) ?_
  refine lv_istore_n (lv' := [(3, .int (nI 0)), (2, .int (nI (lc_sa fo a))), (0, .ref hp), (1, .int (nI a))]) hx hb d_Heap_giveBack_7 rfl hl (by decide) rfl (fun ls hl => ?_)
  have loop8 : ∀ (fu : Nat) (j : Nat), 48 - j < fu → (hj : j ≤ lc_sa fo a) → ∀ (H : Heap) (locs : List Loc), va_P D classes [(hp, .inr (1, [.ref ow, .ref wo, .int (nI md)])), (ow, .inl (cI, 48, .inl fo)), (wo, .inl (cI, 48, .inl (lc_gb fo fw a j)))] H → va_D A [(hp, .inr (1, [.ref ow, .ref wo, .int (nI md)])), (ow, .inl (cI, 48, .inl fo)), (wo, .inl (cI, 48, .inl (lc_gb fo fw a j)))] → va_S A s.heap H locs → ∀ (ls : Array Slot), lv_has ls 4 [(0, .ref hp), (1, .int (nI a)), (2, .int (nI (lc_sa fo a))), (3, .int (nI j))] → W p l e ({ frames := 2, cells := 0, slots := 0, locals := 45 } : Room) s m args below meth c H locs 0 0 Q (F0 m 8 ls []) := by
    intro fu
    induction fu with
    | zero => intro j hf; omega
    | succ fu ih8 =>
      intro j hf hj H locs hP hD hS ls hl
      refine lv_iload_n hx hb d_Heap_giveBack_8 rfl (lv_at hl 3 rfl) ?_
      refine lv_iload_n hx hb d_Heap_giveBack_9 rfl (lv_at hl 2 rfl) ?_
      refine zz_icmp_ge (tgt := 30) hx hb (by omega) (by omega) d_Heap_giveBack_10 (by decide) (fun c10 => ?_) (fun c10 => ?_)
      · skip
        refine lv_iload_n hx hb d_Heap_giveBack_30 rfl (lv_at hl 1 rfl) ?_
        refine lv_istore_n (lv' := [(3, .int (nI a)), (0, .ref hp), (1, .int (nI a)), (2, .int (nI (lc_sa fo a)))]) hx hb d_Heap_giveBack_31 rfl hl (by decide) rfl (fun ls hl => ?_)
        have loop32 : ∀ (fu : Nat) (i : Nat), 48 - i < fu → (hi : i ≤ lc_sa fo a + 1) → ∀ (H : Heap) (locs : List Loc), va_P D classes [(hp, .inr (1, [.ref ow, .ref wo, .int (nI md)])), (ow, .inl (cI, 48, .inl (lc_fill fo a i 0))), (wo, .inl (cI, 48, .inl (lc_gb fo fw a (lc_sa fo a))))] H → va_D A [(hp, .inr (1, [.ref ow, .ref wo, .int (nI md)])), (ow, .inl (cI, 48, .inl (lc_fill fo a i 0))), (wo, .inl (cI, 48, .inl (lc_gb fo fw a (lc_sa fo a))))] → va_S A s.heap H locs → ∀ (ls : Array Slot), lv_has ls 4 [(0, .ref hp), (1, .int (nI a)), (2, .int (nI (lc_sa fo a))), (3, .int (nI (a + i)))] → W p l e ({ frames := 2, cells := 0, slots := 0, locals := 45 } : Room) s m args below meth c H locs 0 0 Q (F0 m 32 ls []) := by
          intro fu
          induction fu with
          | zero => intro i hf; omega
          | succ fu ih32 =>
            intro i hf hi H locs hP hD hS ls hl
            refine lv_iload_n hx hb d_Heap_giveBack_32 rfl (lv_at hl 3 rfl) ?_
            refine lv_iload_n hx hb d_Heap_giveBack_33 rfl (lv_at hl 1 rfl) ?_
            refine lv_iload_n hx hb d_Heap_giveBack_34 rfl (lv_at hl 2 rfl) ?_
            refine zz_iadd hx hb d_Heap_giveBack_35 ?_
            refine zz_icmp_gt (tgt := 52) hx hb (by omega) (by omega) d_Heap_giveBack_36 (by decide) (fun c36 => ?_) (fun c36 => ?_)
            · skip
              have eW : ([(hp, .inr (1, [.ref ow, .ref wo, .int (nI md)])), (ow, .inl (cI, 48, .inl (lc_fill fo a i 0))), (wo, .inl (cI, 48, .inl (lc_gb fo fw a (lc_sa fo a))))] : va_W) = [(hp, .inr (1, [.ref ow, .ref wo, .int (nI md)])), (ow, .inl (cI, 48, .inl (lc_fill fo a (lc_sa fo a + 1) 0))), (wo, .inl (cI, 48, .inl (lc_gb fo fw a (lc_sa fo a))))] := by rw [show i = lc_sa fo a + 1 by omega]
              exact hret _ _ _ _ d_Heap_giveBack_52 (zz_toP eW hP) (zz_toD eW hD) hS
            · skip
              refine lv_aload_n hx hb d_Heap_giveBack_39 rfl (lv_at hl 0 rfl) ?_
              refine va_get (D := D) (ci := 1) (v := .ref ow) (C := R_Heap) (T := F_Heap) (N := 3) hx hb hts i_Heap hown hK hP 0 rfl rfl 0 (by decide) (hts _ kw_0) (fun _ h9 => h9) rfl d_Heap_giveBack_40 ?_
              refine lv_iload_n hx hb d_Heap_giveBack_43 rfl (lv_at hl 3 rfl) ?_
              refine lv_iconst (v := nI 0) hx hb d_Heap_giveBack_44 (by decide +kernel) ?_
              refine zz_iast hx hb hK hP hD hS 1 0 (f := lc_fill fo a i 0) rfl rfl (i := a + i) (by omega) (by omega) d_Heap_giveBack_45 (g := lc_fill fo a (i + 1) 0) (by rw [nI_0]; exact lc_fill_s _ _ _ _) (ws' := [(hp, .inr (1, [.ref ow, .ref wo, .int (nI md)])), (ow, .inl (cI, 48, .inl (lc_fill fo a (i + 1) 0))), (wo, .inl (cI, 48, .inl (lc_gb fo fw a (lc_sa fo a))))]) rfl (fun H locs hP hD hS => ?_)
              refine lv_iinc (v := nI ((a + i) + 1)) (lv' := [(3, .int (nI ((a + i) + 1))), (0, .ref hp), (1, .int (nI a)), (2, .int (nI (lc_sa fo a)))]) hx hb d_Heap_giveBack_46 hl (k := 3) rfl (nI_1 _) (by decide) rfl (fun ls hl => ?_)
              refine lv_goto (tgt := 32) hx hb d_Heap_giveBack_49 (by decide) ?_
              have eL1 : (a + i) + 1 = a + (i + 1) := by omega
              exact ih32 (i + 1) (by omega) (by omega) _ _ hP hD hS _ (zz_hlc (lv_sub (l' := [(0, .ref hp), (1, .int (nI a)), (2, .int (nI (lc_sa fo a))), (3, .int (nI ((a + i) + 1)))]) hl [1, 2, 3, 0] rfl) (zz_c1 rfl (zz_c1 rfl (zz_c1 rfl (zz_c1 (congrArg (fun v => ((3 : Nat), Value.int (nI v))) eL1) rfl)))))
        have eL2 : a = a + 0 := by omega
        have eW3 : ([(hp, .inr (1, [.ref ow, .ref wo, .int (nI md)])), (ow, .inl (cI, 48, .inl fo)), (wo, .inl (cI, 48, .inl (lc_gb fo fw a j)))] : va_W) = [(hp, .inr (1, [.ref ow, .ref wo, .int (nI md)])), (ow, .inl (cI, 48, .inl (lc_fill fo a 0 0))), (wo, .inl (cI, 48, .inl (lc_gb fo fw a (lc_sa fo a))))] := by rw [lc_fill_0, show j = lc_sa fo a by omega]
        have hP := zz_toP eW3 hP
        have hD := zz_toD eW3 hD
        exact loop32 49 0 (by omega) (by omega) _ _ hP hD hS _ (zz_hlc (lv_sub (l' := [(0, .ref hp), (1, .int (nI a)), (2, .int (nI (lc_sa fo a))), (3, .int (nI a))]) hl [1, 2, 3, 0] rfl) (zz_c1 rfl (zz_c1 rfl (zz_c1 rfl (zz_c1 (congrArg (fun v => ((3 : Nat), Value.int (nI v))) eL2) rfl)))))
      · skip
        refine lv_aload_n hx hb d_Heap_giveBack_13 rfl (lv_at hl 0 rfl) ?_
        refine lv_aload_n hx hb d_Heap_giveBack_14 rfl (lv_at hl 0 rfl) ?_
        refine lv_iload_n hx hb d_Heap_giveBack_15 rfl (lv_at hl 1 rfl) ?_
        refine lv_iload_n hx hb d_Heap_giveBack_16 rfl (lv_at hl 3 rfl) ?_
        refine zz_callI (np := 2) hx hb hml hown hts hK hP hD hS hA (c_Heap_inSlot l D cI hp ow wo fo (lc_gb fo fw a j) md a j (by omega)) (zz_gv kw_21 kw_22 kw_23 kw_6 kc_20) (by decide +kernel) rfl rfl ⟨Nat.le_of_ble_eq_true rfl, Nat.le_of_ble_eq_true rfl⟩ ⟨Nat.zero_le _, Nat.zero_le _⟩ [0] rfl 0 1 rfl rfl rfl [0, 1, 2] [] [0, 1, 2] rfl (by decide) (wr := []) rfl (by decide) (by decide) (ws' := [(hp, .inr (1, [.ref ow, .ref wo, .int (nI md)])), (ow, .inl (cI, 48, .inl fo)), (wo, .inl (cI, 48, .inl (lc_gb fo fw a j)))]) rfl (by decide) rfl hl.1 rfl (Nat.le_of_ble_eq_true rfl) d_Heap_giveBack_17 (fun H locs hP hD hS => ?_)
        refine lv_iconst (v := (-1)) hx hb d_Heap_giveBack_20 (by decide +kernel) ?_
        refine zz_callV (np := 2) hx hb hml hown hts hK hP hD hS hA (c_Heap_addToCount l D cI hp ow wo fo (lc_gb fo fw a j) md ((lc_gb fo fw a j) (a + 1 + j)) (-1) ) (zz_gv kw_25 kw_26 kw_27 kw_6 kc_24) (by decide +kernel) rfl rfl ⟨Nat.le_of_ble_eq_true rfl, Nat.le_of_ble_eq_true rfl⟩ ⟨Nat.zero_le _, Nat.zero_le _⟩ [0] rfl 0 1 rfl rfl rfl [0, 1, 2] [] [0, 1, 2] rfl (by decide) (wr := []) rfl (by decide) (by decide) (ws' := [(hp, .inr (1, [.ref ow, .ref wo, .int (nI md)])), (ow, .inl (cI, 48, .inl fo)), (wo, .inl (cI, 48, .inl (lc_add fo (lc_gb fo fw a j) ((lc_gb fo fw a j) (a + 1 + j)) (-1))))]) rfl (by decide) rfl hl.1 rfl (Nat.le_of_ble_eq_true rfl) d_Heap_giveBack_21 (fun H locs hP hD hS => ?_)
        refine lv_iinc (v := nI (j + 1)) (lv' := [(3, .int (nI (j + 1))), (0, .ref hp), (1, .int (nI a)), (2, .int (nI (lc_sa fo a)))]) hx hb d_Heap_giveBack_24 hl (k := 3) rfl (nI_1 _) (by decide) rfl (fun ls hl => ?_)
        refine lv_goto (tgt := 8) hx hb d_Heap_giveBack_27 (by decide) ?_
        have eW4 : ([(hp, .inr (1, [.ref ow, .ref wo, .int (nI md)])), (ow, .inl (cI, 48, .inl fo)), (wo, .inl (cI, 48, .inl (lc_add fo (lc_gb fo fw a j) ((lc_gb fo fw a j) (a + 1 + j)) (-1))))] : va_W) = [(hp, .inr (1, [.ref ow, .ref wo, .int (nI md)])), (ow, .inl (cI, 48, .inl fo)), (wo, .inl (cI, 48, .inl (lc_gb fo fw a (j + 1))))] := by rfl
        have hP := zz_toP eW4 hP
        have hD := zz_toD eW4 hD
        exact ih8 (j + 1) (by omega) (by omega) _ _ hP hD hS _ (lv_sub hl [1, 2, 3, 0] rfl)
  have eW5 : ([(hp, .inr (1, [.ref ow, .ref wo, .int (nI md)])), (ow, .inl (cI, 48, .inl fo)), (wo, .inl (cI, 48, .inl fw))] : va_W) = [(hp, .inr (1, [.ref ow, .ref wo, .int (nI md)])), (ow, .inl (cI, 48, .inl fo)), (wo, .inl (cI, 48, .inl (lc_gb fo fw a 0)))] := by rfl
  have hP := zz_toP eW5 hP
  have hD := zz_toD eW5 hD
  exact loop8 49 0 (by omega) (by omega) _ _ hP hD hS _ (lv_sub hl [2, 3, 1, 0] rfl)
end
section
set_option maxHeartbeats 4000000 in
set_option maxRecDepth 100000 in
theorem c_Places_size (l : Launch) (D : va_G) (cI : ClassId) (pl : Nat) (po : Nat) (fp : lc_A) (ht : Nat)  : zz_MI l y_Places_size b_Places_size 1 .int ({ frames := 0, cells := 0, slots := 0, locals := 0 } : Room) D [(cI, .int)] [.ref pl] [(pl, .inr (2, [.ref po, .int (nI ht)])), (po, .inl (cI, 8, .inl fp))] (nI ht) [(pl, .inr (2, [.ref po, .int (nI ht)])), (po, .inl (cI, 8, .inl fp))] := by
  refine zz_MI_of (by decide) (Nat.le_of_ble_eq_true rfl) (vp_nar_int _) ?_
  intro p e s m args below meth c A ls Q hx hb hml hown hts hK hP hD hS hA hl hret
  have hown : s.vm.findClass R_Places = some m.cls := hown
  have hl : lv_has ls 1 [(0, .ref pl)] := hl
  refine lv_aload_n hx hb d_Places_size_0 rfl (lv_at hl 0 rfl) ?_
  refine va_get (D := D) (ci := 2) (v := .int (nI ht)) (C := R_Places) (T := F_Places) (N := 2) hx hb hts i_Places hown hK hP 0 rfl rfl 1 (by decide) (hts _ kw_28) (fun _ h9 => h9) rfl d_Places_size_1 ?_
  exact hret _ _ _ _ d_Places_size_4 hP hD hS
set_option maxHeartbeats 4000000 in
set_option maxRecDepth 100000 in
theorem c_Places_areFull (l : Launch) (D : va_G) (cI : ClassId) (pl : Nat) (po : Nat) (fp : lc_A) (ht : Nat) (hh : ht ≤ 8) : zz_MI l y_Places_areFull b_Places_areFull 1 .boolean ({ frames := 0, cells := 0, slots := 0, locals := 0 } : Room) D [(cI, .int)] [.ref pl] [(pl, .inr (2, [.ref po, .int (nI ht)])), (po, .inl (cI, 8, .inl fp))] (lc_bI (decide (ht = 8))) [(pl, .inr (2, [.ref po, .int (nI ht)])), (po, .inl (cI, 8, .inl fp))] := by
  refine zz_MI_of (by decide) (Nat.le_of_ble_eq_true rfl) (zz_narB _) ?_
  intro p e s m args below meth c A ls Q hx hb hml hown hts hK hP hD hS hA hl hret
  have hown : s.vm.findClass R_Places = some m.cls := hown
  have hl : lv_has ls 1 [(0, .ref pl)] := hl
  refine lv_aload_n hx hb d_Places_areFull_0 rfl (lv_at hl 0 rfl) ?_
  refine va_get (D := D) (ci := 2) (v := .int (nI ht)) (C := R_Places) (T := F_Places) (N := 2) hx hb hts i_Places hown hK hP 0 rfl rfl 1 (by decide) (hts _ kw_28) (fun _ h9 => h9) rfl d_Places_areFull_1 ?_
  refine lv_bipush (v := nI 8) hx hb d_Places_areFull_4 (by decide +kernel) ?_
  refine zz_icmp_ne (tgt := 13) hx hb (by omega) (by omega) d_Places_areFull_6 (by decide) (fun c6 => ?_) (fun c6 => ?_)
  · skip
    refine lv_iconst (v := nI 0) hx hb d_Places_areFull_13 (by decide +kernel) ?_
    refine zz_top (z := lc_bI (decide (ht = 8))) (by simp [lc_bI, *]) ?_
    exact hret _ _ _ _ d_Places_areFull_14 hP hD hS
  · skip
    refine lv_iconst (v := nI 1) hx hb d_Places_areFull_9 (by decide +kernel) ?_
    refine lv_goto (tgt := 14) hx hb d_Places_areFull_10 (by decide) ?_
    refine zz_top (z := lc_bI (decide (ht = 8))) (by simp [lc_bI, *]) ?_
    exact hret _ _ _ _ d_Places_areFull_14 hP hD hS
set_option maxHeartbeats 4000000 in
set_option maxRecDepth 100000 in
theorem c_Places_has (l : Launch) (D : va_G) (cI : ClassId) (pl : Nat) (po : Nat) (fp : lc_A) (ht : Nat) (x : Int32)  : zz_MI l y_Places_has b_Places_has 2 .boolean ({ frames := 0, cells := 0, slots := 0, locals := 0 } : Room) D [(cI, .int)] [.ref pl, .int x] [(pl, .inr (2, [.ref po, .int (nI ht)])), (po, .inl (cI, 8, .inl fp))] (lc_bI (lc_pl x ht).isSome) [(pl, .inr (2, [.ref po, .int (nI ht)])), (po, .inl (cI, 8, .inl fp))] := by
  refine zz_MI_of (by decide) (Nat.le_of_ble_eq_true rfl) (zz_narB _) ?_
  intro p e s m args below meth c A ls Q hx hb hml hown hts hK hP hD hS hA hl hret
  have hown : s.vm.findClass R_Places = some m.cls := hown
  have hl : lv_has ls 2 [(0, .ref pl), (1, .int x)] := hl
  refine lv_iload_n hx hb d_Places_has_0 rfl (lv_at hl 1 rfl) ?_
  refine lv_if_lt (tgt := 16) hx hb d_Places_has_1 (by decide) (fun c1 => ?_) (fun c1 => ?_)
  · skip
    refine lv_iconst (v := nI 0) hx hb d_Places_has_16 (by decide +kernel) ?_
    refine zz_top (z := lc_bI (lc_pl x ht).isSome) (by first | exact lc_has1 (by assumption) (by assumption) | exact lc_has0 (by assumption) | exact lc_has2 (by assumption)) ?_
    exact hret _ _ _ _ d_Places_has_17 hP hD hS
  · skip
    refine lv_iload_n hx hb d_Places_has_4 rfl (lv_at hl 1 rfl) ?_
    refine lv_aload_n hx hb d_Places_has_5 rfl (lv_at hl 0 rfl) ?_
    refine va_get (D := D) (ci := 2) (v := .int (nI ht)) (C := R_Places) (T := F_Places) (N := 2) hx hb hts i_Places hown hK hP 0 rfl rfl 1 (by decide) (hts _ kw_28) (fun _ h9 => h9) rfl d_Places_has_6 ?_
    refine lv_icmp_ge (tgt := 16) hx hb d_Places_has_9 (by decide) (fun c9 => ?_) (fun c9 => ?_)
    · skip
      refine lv_iconst (v := nI 0) hx hb d_Places_has_16 (by decide +kernel) ?_
      refine zz_top (z := lc_bI (lc_pl x ht).isSome) (by first | exact lc_has1 (by assumption) (by assumption) | exact lc_has0 (by assumption) | exact lc_has2 (by assumption)) ?_
      exact hret _ _ _ _ d_Places_has_17 hP hD hS
    · skip
      refine lv_iconst (v := nI 1) hx hb d_Places_has_12 (by decide +kernel) ?_
      refine lv_goto (tgt := 17) hx hb d_Places_has_13 (by decide) ?_
      refine zz_top (z := lc_bI (lc_pl x ht).isSome) (by first | exact lc_has1 (by assumption) (by assumption) | exact lc_has0 (by assumption) | exact lc_has2 (by assumption)) ?_
      exact hret _ _ _ _ d_Places_has_17 hP hD hS
set_option maxHeartbeats 4000000 in
set_option maxRecDepth 100000 in
theorem c_Places_at (l : Launch) (D : va_G) (cI : ClassId) (pl : Nat) (po : Nat) (fp : lc_A) (ht : Nat) (j : Nat) (hj : j < 8) : zz_MI l y_Places_at b_Places_at 2 .int ({ frames := 0, cells := 0, slots := 0, locals := 0 } : Room) D [(cI, .int)] [.ref pl, .int (nI j)] [(pl, .inr (2, [.ref po, .int (nI ht)])), (po, .inl (cI, 8, .inl fp))] (fp j) [(pl, .inr (2, [.ref po, .int (nI ht)])), (po, .inl (cI, 8, .inl fp))] := by
  refine zz_MI_of (by decide) (Nat.le_of_ble_eq_true rfl) (vp_nar_int _) ?_
  intro p e s m args below meth c A ls Q hx hb hml hown hts hK hP hD hS hA hl hret
  have hown : s.vm.findClass R_Places = some m.cls := hown
  have hl : lv_has ls 2 [(0, .ref pl), (1, .int (nI j))] := hl
  refine lv_aload_n hx hb d_Places_at_0 rfl (lv_at hl 0 rfl) ?_
  refine va_get (D := D) (ci := 2) (v := .ref po) (C := R_Places) (T := F_Places) (N := 2) hx hb hts i_Places hown hK hP 0 rfl rfl 0 (by decide) (hts _ kw_29) (fun _ h9 => h9) rfl d_Places_at_1 ?_
  refine lv_iload_n hx hb d_Places_at_4 rfl (lv_at hl 1 rfl) ?_
  refine zz_iald hx hb hK hP 1 0 (f := fp) rfl rfl (i := j) (by omega) (by omega) d_Places_at_5 ?_
  exact hret _ _ _ _ d_Places_at_6 hP hD hS
set_option maxHeartbeats 4000000 in
set_option maxRecDepth 100000 in
theorem c_Places_push (l : Launch) (D : va_G) (cI : ClassId) (pl : Nat) (po : Nat) (fp : lc_A) (ht : Nat) (x : Int32) (hh : ht < 8) : zz_MI l y_Places_push b_Places_push 2 .int ({ frames := 0, cells := 0, slots := 0, locals := 0 } : Room) D [(cI, .int)] [.ref pl, .int x] [(pl, .inr (2, [.ref po, .int (nI ht)])), (po, .inl (cI, 8, .inl fp))] x [(pl, .inr (2, [.ref po, .int (nI (ht + 1))])), (po, .inl (cI, 8, .inl (upd fp ht x)))] := by
  refine zz_MI_of (by decide) (Nat.le_of_ble_eq_true rfl) (vp_nar_int _) ?_
  intro p e s m args below meth c A ls Q hx hb hml hown hts hK hP hD hS hA hl hret
  have hown : s.vm.findClass R_Places = some m.cls := hown
  have hl : lv_has ls 2 [(0, .ref pl), (1, .int x)] := hl
  refine lv_aload_n hx hb d_Places_push_0 rfl (lv_at hl 0 rfl) ?_
  refine va_get (D := D) (ci := 2) (v := .ref po) (C := R_Places) (T := F_Places) (N := 2) hx hb hts i_Places hown hK hP 0 rfl rfl 0 (by decide) (hts _ kw_29) (fun _ h9 => h9) rfl d_Places_push_1 ?_
  refine lv_aload_n hx hb d_Places_push_4 rfl (lv_at hl 0 rfl) ?_
  refine va_get (D := D) (ci := 2) (v := .int (nI ht)) (C := R_Places) (T := F_Places) (N := 2) hx hb hts i_Places hown hK hP 0 rfl rfl 1 (by decide) (hts _ kw_28) (fun _ h9 => h9) rfl d_Places_push_5 ?_
  refine lv_iload_n hx hb d_Places_push_8 rfl (lv_at hl 1 rfl) ?_
  refine zz_iast hx hb hK hP hD hS 1 0 (f := fp) rfl rfl (i := ht) (by omega) (by omega) d_Places_push_9 (g := upd fp ht x) rfl (ws' := [(pl, .inr (2, [.ref po, .int (nI ht)])), (po, .inl (cI, 8, .inl (upd fp ht x)))]) rfl (fun H locs hP hD hS => ?_)
  refine lv_aload_n hx hb d_Places_push_10 rfl (lv_at hl 0 rfl) ?_
  refine lv_dup hx hb d_Places_push_11 rfl ?_
  refine va_get (D := D) (ci := 2) (v := .int (nI ht)) (C := R_Places) (T := F_Places) (N := 2) hx hb hts i_Places hown hK hP 0 rfl rfl 1 (by decide) (hts _ kw_28) (fun _ h9 => h9) rfl d_Places_push_12 ?_
  refine lv_iconst (v := nI 1) hx hb d_Places_push_15 (by decide +kernel) ?_
  refine zz_iadd hx hb d_Places_push_16 ?_
  refine va_put (D := D) (ci := 2) (v := .int (nI (ht + 1))) (ty := .int) (C := R_Places) (T := F_Places) (N := 2) hx hb hts i_Places t_Places t_Places_ok n_Places hown hK hP hD hS 0 rfl rfl 1 (by decide) (hts _ kw_28) (fun _ h9 => h9) rfl (by decide +kernel) rfl rfl (Nat.le_of_ble_eq_true rfl) d_Places_push_17 (fun H locs hP hD hS => ?_)
  have hP : va_P D classes [(pl, .inr (2, [.ref po, .int (nI (ht + 1))])), (po, .inl (cI, 8, .inl (upd fp ht x)))] H := hP
  have hD : va_D A [(pl, .inr (2, [.ref po, .int (nI (ht + 1))])), (po, .inl (cI, 8, .inl (upd fp ht x)))] := hD
  refine lv_iload_n hx hb d_Places_push_20 rfl (lv_at hl 1 rfl) ?_
  exact hret _ _ _ _ d_Places_push_21 hP hD hS
set_option maxHeartbeats 4000000 in
set_option maxRecDepth 100000 in
theorem c_Places_pop (l : Launch) (D : va_G) (cI : ClassId) (pl : Nat) (po : Nat) (fp : lc_A) (ht : Nat) (hh : 0 < ht) (hh8 : ht ≤ 8) : zz_MI l y_Places_pop b_Places_pop 1 .int ({ frames := 0, cells := 0, slots := 0, locals := 0 } : Room) D [(cI, .int)] [.ref pl] [(pl, .inr (2, [.ref po, .int (nI ht)])), (po, .inl (cI, 8, .inl fp))] (fp (ht - 1)) [(pl, .inr (2, [.ref po, .int (nI (ht - 1))])), (po, .inl (cI, 8, .inl fp))] := by
  refine zz_MI_of (by decide) (Nat.le_of_ble_eq_true rfl) (vp_nar_int _) ?_
  intro p e s m args below meth c A ls Q hx hb hml hown hts hK hP hD hS hA hl hret
  have hown : s.vm.findClass R_Places = some m.cls := hown
  have hl : lv_has ls 1 [(0, .ref pl)] := hl
  refine lv_aload_n hx hb d_Places_pop_0 rfl (lv_at hl 0 rfl) ?_
  refine lv_dup hx hb d_Places_pop_1 rfl ?_
  refine va_get (D := D) (ci := 2) (v := .int (nI ht)) (C := R_Places) (T := F_Places) (N := 2) hx hb hts i_Places hown hK hP 0 rfl rfl 1 (by decide) (hts _ kw_28) (fun _ h9 => h9) rfl d_Places_pop_2 ?_
  refine lv_iconst (v := nI 1) hx hb d_Places_pop_5 (by decide +kernel) ?_
  refine zz_isub hx hb (by omega) d_Places_pop_6 ?_
  refine va_put (D := D) (ci := 2) (v := .int (nI (ht - 1))) (ty := .int) (C := R_Places) (T := F_Places) (N := 2) hx hb hts i_Places t_Places t_Places_ok n_Places hown hK hP hD hS 0 rfl rfl 1 (by decide) (hts _ kw_28) (fun _ h9 => h9) rfl (by decide +kernel) rfl rfl (Nat.le_of_ble_eq_true rfl) d_Places_pop_7 (fun H locs hP hD hS => ?_)
  have hP : va_P D classes [(pl, .inr (2, [.ref po, .int (nI (ht - 1))])), (po, .inl (cI, 8, .inl fp))] H := hP
  have hD : va_D A [(pl, .inr (2, [.ref po, .int (nI (ht - 1))])), (po, .inl (cI, 8, .inl fp))] := hD
  refine lv_aload_n hx hb d_Places_pop_10 rfl (lv_at hl 0 rfl) ?_
  refine va_get (D := D) (ci := 2) (v := .ref po) (C := R_Places) (T := F_Places) (N := 2) hx hb hts i_Places hown hK hP 0 rfl rfl 0 (by decide) (hts _ kw_29) (fun _ h9 => h9) rfl d_Places_pop_11 ?_
  refine lv_aload_n hx hb d_Places_pop_14 rfl (lv_at hl 0 rfl) ?_
  refine va_get (D := D) (ci := 2) (v := .int (nI (ht - 1))) (C := R_Places) (T := F_Places) (N := 2) hx hb hts i_Places hown hK hP 0 rfl rfl 1 (by decide) (hts _ kw_28) (fun _ h9 => h9) rfl d_Places_pop_15 ?_
  refine zz_iald hx hb hK hP 1 0 (f := fp) rfl rfl (i := ht - 1) (by omega) (by omega) d_Places_pop_18 ?_
  exact hret _ _ _ _ d_Places_pop_19 hP hD hS
set_option maxHeartbeats 4000000 in
set_option maxRecDepth 100000 in
theorem c_Places_hold (l : Launch) (D : va_G) (cI : ClassId) (pl : Nat) (po : Nat) (fp : lc_A) (ht : Nat) (x : Int32) (hh : ht ≤ 8) : zz_MI l y_Places_hold b_Places_hold 3 .boolean ({ frames := 0, cells := 0, slots := 0, locals := 0 } : Room) D [(cI, .int)] [.ref pl, .int x] [(pl, .inr (2, [.ref po, .int (nI ht)])), (po, .inl (cI, 8, .inl fp))] (lc_bI (lc_on fp ht x)) [(pl, .inr (2, [.ref po, .int (nI ht)])), (po, .inl (cI, 8, .inl fp))] := by
  refine zz_MI_of (by decide) (Nat.le_of_ble_eq_true rfl) (zz_narB _) ?_
  intro p e s m args below meth c A ls Q hx hb hml hown hts hK hP hD hS hA hl hret
  have hown : s.vm.findClass R_Places = some m.cls := hown
  have hl : lv_has ls 3 [(0, .ref pl), (1, .int x)] := hl
  refine lv_iconst (v := nI 0) hx hb d_Places_hold_0 (by decide +kernel) ?_
  refine lv_istore_n (lv' := [(2, .int (nI 0)), (0, .ref pl), (1, .int x)]) hx hb d_Places_hold_1 rfl hl (by decide) rfl (fun ls hl => ?_)
  have loop2 : ∀ (fu : Nat) (i : Nat), 8 - i < fu → (hi : i ≤ ht) → (hn : ∀ j, j < i → fp j ≠ x) → ∀ (H : Heap) (locs : List Loc), va_P D classes [(pl, .inr (2, [.ref po, .int (nI ht)])), (po, .inl (cI, 8, .inl fp))] H → va_D A [(pl, .inr (2, [.ref po, .int (nI ht)])), (po, .inl (cI, 8, .inl fp))] → va_S A s.heap H locs → ∀ (ls : Array Slot), lv_has ls 3 [(0, .ref pl), (1, .int x), (2, .int (nI i))] → W p l e ({ frames := 0, cells := 0, slots := 0, locals := 0 } : Room) s m args below meth c H locs 0 0 Q (F0 m 2 ls []) := by
    intro fu
    induction fu with
    | zero => intro i hf; omega
    | succ fu ih2 =>
      intro i hf hi hn H locs hP hD hS ls hl
      refine lv_iload_n hx hb d_Places_hold_2 rfl (lv_at hl 2 rfl) ?_
      refine lv_aload_n hx hb d_Places_hold_3 rfl (lv_at hl 0 rfl) ?_
      refine va_get (D := D) (ci := 2) (v := .int (nI ht)) (C := R_Places) (T := F_Places) (N := 2) hx hb hts i_Places hown hK hP 0 rfl rfl 1 (by decide) (hts _ kw_28) (fun _ h9 => h9) rfl d_Places_hold_4 ?_
      refine zz_icmp_ge (tgt := 28) hx hb (by omega) (by omega) d_Places_hold_7 (by decide) (fun c7 => ?_) (fun c7 => ?_)
      · skip
        refine lv_iconst (v := nI 0) hx hb d_Places_hold_28 (by decide +kernel) ?_
        refine zz_top (z := lc_bI (lc_on fp ht x)) (by first | exact lc_on_t (by omega) (by assumption) | exact lc_on_f (by omega) hn) ?_
        exact hret _ _ _ _ d_Places_hold_29 hP hD hS
      · skip
        refine lv_aload_n hx hb d_Places_hold_10 rfl (lv_at hl 0 rfl) ?_
        refine va_get (D := D) (ci := 2) (v := .ref po) (C := R_Places) (T := F_Places) (N := 2) hx hb hts i_Places hown hK hP 0 rfl rfl 0 (by decide) (hts _ kw_29) (fun _ h9 => h9) rfl d_Places_hold_11 ?_
        refine lv_iload_n hx hb d_Places_hold_14 rfl (lv_at hl 2 rfl) ?_
        refine zz_iald hx hb hK hP 1 0 (f := fp) rfl rfl (i := i) (by omega) (by omega) d_Places_hold_15 ?_
        refine lv_iload_n hx hb d_Places_hold_16 rfl (lv_at hl 1 rfl) ?_
        refine lv_icmp_ne (tgt := 22) hx hb d_Places_hold_17 (by decide) (fun c17 => ?_) (fun c17 => ?_)
        · skip
          refine lv_iinc (v := nI (i + 1)) (lv' := [(2, .int (nI (i + 1))), (0, .ref pl), (1, .int x)]) hx hb d_Places_hold_22 hl (k := 2) rfl (nI_1 _) (by decide) rfl (fun ls hl => ?_)
          refine lv_goto (tgt := 2) hx hb d_Places_hold_25 (by decide) ?_
          exact ih2 (i + 1) (by omega) (by omega) (lc_lt1 hn (by assumption)) _ _ hP hD hS _ (lv_sub hl [1, 2, 0] rfl)
        · skip
          refine lv_iconst (v := nI 1) hx hb d_Places_hold_20 (by decide +kernel) ?_
          refine zz_top (z := lc_bI (lc_on fp ht x)) (by first | exact lc_on_t (by omega) (by assumption) | exact lc_on_f (by omega) hn) ?_
          exact hret _ _ _ _ d_Places_hold_21 hP hD hS
  exact loop2 9 0 (by omega) (by omega) (fun j hj => by omega) _ _ hP hD hS _ (lv_sub hl [1, 2, 0] rfl)
end
section
set_option maxHeartbeats 4000000 in
set_option maxRecDepth 100000 in
theorem c_Entries_size (l : Launch) (D : va_G) (cI : ClassId) (cG : ClassId) (en : Nat) (eo : Nat) (sb : Nat) (rr : Nat → Nat) (fe : lc_A) (M : Nat → lc_A) (len : Nat)  : zz_MI l y_Entries_size b_Entries_size 1 .int ({ frames := 0, cells := 0, slots := 0, locals := 0 } : Room) D [(cI, .int), (cG, .array .int)] [.ref en] [(en, .inr (3, [.ref eo, .ref sb, .int (nI len)])), (eo, .inl (cI, 5, .inl fe)), (sb, .inl (cG, 5, .inr (.inr (.inr (.inr (fun uu => some (rr uu))))))), (rr 0, .inl (cI, 4, .inl (M 0))), (rr 1, .inl (cI, 4, .inl (M 1))), (rr 2, .inl (cI, 4, .inl (M 2))), (rr 3, .inl (cI, 4, .inl (M 3))), (rr 4, .inl (cI, 4, .inl (M 4)))] (nI len) [(en, .inr (3, [.ref eo, .ref sb, .int (nI len)])), (eo, .inl (cI, 5, .inl fe)), (sb, .inl (cG, 5, .inr (.inr (.inr (.inr (fun uu => some (rr uu))))))), (rr 0, .inl (cI, 4, .inl (M 0))), (rr 1, .inl (cI, 4, .inl (M 1))), (rr 2, .inl (cI, 4, .inl (M 2))), (rr 3, .inl (cI, 4, .inl (M 3))), (rr 4, .inl (cI, 4, .inl (M 4)))] := by
  refine zz_MI_of (by decide) (Nat.le_of_ble_eq_true rfl) (vp_nar_int _) ?_
  intro p e s m args below meth c A ls Q hx hb hml hown hts hK hP hD hS hA hl hret
  have hown : s.vm.findClass R_Entries = some m.cls := hown
  have hl : lv_has ls 1 [(0, .ref en)] := hl
  refine lv_aload_n hx hb d_Entries_size_0 rfl (lv_at hl 0 rfl) ?_
  refine va_get (D := D) (ci := 3) (v := .int (nI len)) (C := R_Entries) (T := F_Entries) (N := 3) hx hb hts i_Entries hown hK hP 0 rfl rfl 2 (by decide) (hts _ kw_30) (fun _ h9 => h9) rfl d_Entries_size_1 ?_
  exact hret _ _ _ _ d_Entries_size_4 hP hD hS
set_option maxHeartbeats 4000000 in
set_option maxRecDepth 100000 in
theorem c_Entries_areFull (l : Launch) (D : va_G) (cI : ClassId) (cG : ClassId) (en : Nat) (eo : Nat) (sb : Nat) (rr : Nat → Nat) (fe : lc_A) (M : Nat → lc_A) (len : Nat) (hh : len ≤ 5) : zz_MI l y_Entries_areFull b_Entries_areFull 1 .boolean ({ frames := 0, cells := 0, slots := 0, locals := 0 } : Room) D [(cI, .int), (cG, .array .int)] [.ref en] [(en, .inr (3, [.ref eo, .ref sb, .int (nI len)])), (eo, .inl (cI, 5, .inl fe)), (sb, .inl (cG, 5, .inr (.inr (.inr (.inr (fun uu => some (rr uu))))))), (rr 0, .inl (cI, 4, .inl (M 0))), (rr 1, .inl (cI, 4, .inl (M 1))), (rr 2, .inl (cI, 4, .inl (M 2))), (rr 3, .inl (cI, 4, .inl (M 3))), (rr 4, .inl (cI, 4, .inl (M 4)))] (lc_bI (decide (len = 5))) [(en, .inr (3, [.ref eo, .ref sb, .int (nI len)])), (eo, .inl (cI, 5, .inl fe)), (sb, .inl (cG, 5, .inr (.inr (.inr (.inr (fun uu => some (rr uu))))))), (rr 0, .inl (cI, 4, .inl (M 0))), (rr 1, .inl (cI, 4, .inl (M 1))), (rr 2, .inl (cI, 4, .inl (M 2))), (rr 3, .inl (cI, 4, .inl (M 3))), (rr 4, .inl (cI, 4, .inl (M 4)))] := by
  refine zz_MI_of (by decide) (Nat.le_of_ble_eq_true rfl) (zz_narB _) ?_
  intro p e s m args below meth c A ls Q hx hb hml hown hts hK hP hD hS hA hl hret
  have hown : s.vm.findClass R_Entries = some m.cls := hown
  have hl : lv_has ls 1 [(0, .ref en)] := hl
  refine lv_aload_n hx hb d_Entries_areFull_0 rfl (lv_at hl 0 rfl) ?_
  refine va_get (D := D) (ci := 3) (v := .int (nI len)) (C := R_Entries) (T := F_Entries) (N := 3) hx hb hts i_Entries hown hK hP 0 rfl rfl 2 (by decide) (hts _ kw_30) (fun _ h9 => h9) rfl d_Entries_areFull_1 ?_
  refine lv_iconst (v := nI 5) hx hb d_Entries_areFull_4 (by decide +kernel) ?_
  refine zz_icmp_ne (tgt := 12) hx hb (by omega) (by omega) d_Entries_areFull_5 (by decide) (fun c5 => ?_) (fun c5 => ?_)
  · skip
    refine lv_iconst (v := nI 0) hx hb d_Entries_areFull_12 (by decide +kernel) ?_
    refine zz_top (z := lc_bI (decide (len = 5))) (by simp [lc_bI, *]) ?_
    exact hret _ _ _ _ d_Entries_areFull_13 hP hD hS
  · skip
    refine lv_iconst (v := nI 1) hx hb d_Entries_areFull_8 (by decide +kernel) ?_
    refine lv_goto (tgt := 13) hx hb d_Entries_areFull_9 (by decide) ?_
    refine zz_top (z := lc_bI (decide (len = 5))) (by simp [lc_bI, *]) ?_
    exact hret _ _ _ _ d_Entries_areFull_13 hP hD hS
set_option maxHeartbeats 4000000 in
set_option maxRecDepth 100000 in
theorem c_Entries_has (l : Launch) (D : va_G) (cI : ClassId) (cG : ClassId) (en : Nat) (eo : Nat) (sb : Nat) (rr : Nat → Nat) (fe : lc_A) (M : Nat → lc_A) (len : Nat) (x : Int32)  : zz_MI l y_Entries_has b_Entries_has 2 .boolean ({ frames := 0, cells := 0, slots := 0, locals := 0 } : Room) D [(cI, .int), (cG, .array .int)] [.ref en, .int x] [(en, .inr (3, [.ref eo, .ref sb, .int (nI len)])), (eo, .inl (cI, 5, .inl fe)), (sb, .inl (cG, 5, .inr (.inr (.inr (.inr (fun uu => some (rr uu))))))), (rr 0, .inl (cI, 4, .inl (M 0))), (rr 1, .inl (cI, 4, .inl (M 1))), (rr 2, .inl (cI, 4, .inl (M 2))), (rr 3, .inl (cI, 4, .inl (M 3))), (rr 4, .inl (cI, 4, .inl (M 4)))] (lc_bI (lc_pl x len).isSome) [(en, .inr (3, [.ref eo, .ref sb, .int (nI len)])), (eo, .inl (cI, 5, .inl fe)), (sb, .inl (cG, 5, .inr (.inr (.inr (.inr (fun uu => some (rr uu))))))), (rr 0, .inl (cI, 4, .inl (M 0))), (rr 1, .inl (cI, 4, .inl (M 1))), (rr 2, .inl (cI, 4, .inl (M 2))), (rr 3, .inl (cI, 4, .inl (M 3))), (rr 4, .inl (cI, 4, .inl (M 4)))] := by
  refine zz_MI_of (by decide) (Nat.le_of_ble_eq_true rfl) (zz_narB _) ?_
  intro p e s m args below meth c A ls Q hx hb hml hown hts hK hP hD hS hA hl hret
  have hown : s.vm.findClass R_Entries = some m.cls := hown
  have hl : lv_has ls 2 [(0, .ref en), (1, .int x)] := hl
  refine lv_iload_n hx hb d_Entries_has_0 rfl (lv_at hl 1 rfl) ?_
  refine lv_if_lt (tgt := 16) hx hb d_Entries_has_1 (by decide) (fun c1 => ?_) (fun c1 => ?_)
  · skip
    refine lv_iconst (v := nI 0) hx hb d_Entries_has_16 (by decide +kernel) ?_
    refine zz_top (z := lc_bI (lc_pl x len).isSome) (by first | exact lc_has1 (by assumption) (by assumption) | exact lc_has0 (by assumption) | exact lc_has2 (by assumption)) ?_
    exact hret _ _ _ _ d_Entries_has_17 hP hD hS
  · skip
    refine lv_iload_n hx hb d_Entries_has_4 rfl (lv_at hl 1 rfl) ?_
    refine lv_aload_n hx hb d_Entries_has_5 rfl (lv_at hl 0 rfl) ?_
    refine va_get (D := D) (ci := 3) (v := .int (nI len)) (C := R_Entries) (T := F_Entries) (N := 3) hx hb hts i_Entries hown hK hP 0 rfl rfl 2 (by decide) (hts _ kw_30) (fun _ h9 => h9) rfl d_Entries_has_6 ?_
    refine lv_icmp_ge (tgt := 16) hx hb d_Entries_has_9 (by decide) (fun c9 => ?_) (fun c9 => ?_)
    · skip
      refine lv_iconst (v := nI 0) hx hb d_Entries_has_16 (by decide +kernel) ?_
      refine zz_top (z := lc_bI (lc_pl x len).isSome) (by first | exact lc_has1 (by assumption) (by assumption) | exact lc_has0 (by assumption) | exact lc_has2 (by assumption)) ?_
      exact hret _ _ _ _ d_Entries_has_17 hP hD hS
    · skip
      refine lv_iconst (v := nI 1) hx hb d_Entries_has_12 (by decide +kernel) ?_
      refine lv_goto (tgt := 17) hx hb d_Entries_has_13 (by decide) ?_
      refine zz_top (z := lc_bI (lc_pl x len).isSome) (by first | exact lc_has1 (by assumption) (by assumption) | exact lc_has0 (by assumption) | exact lc_has2 (by assumption)) ?_
      exact hret _ _ _ _ d_Entries_has_17 hP hD hS
set_option maxHeartbeats 4000000 in
set_option maxRecDepth 100000 in
theorem c_Entries_tellOf (l : Launch) (D : va_G) (cI : ClassId) (cG : ClassId) (en : Nat) (eo : Nat) (sb : Nat) (rr : Nat → Nat) (fe : lc_A) (M : Nat → lc_A) (len : Nat) (x : Int32) (hh : len ≤ 5) : zz_MI l y_Entries_tellOf b_Entries_tellOf 3 .boolean ({ frames := 0, cells := 0, slots := 0, locals := 0 } : Room) D [(cI, .int), (cG, .array .int)] [.ref en, .int x] [(en, .inr (3, [.ref eo, .ref sb, .int (nI len)])), (eo, .inl (cI, 5, .inl fe)), (sb, .inl (cG, 5, .inr (.inr (.inr (.inr (fun uu => some (rr uu))))))), (rr 0, .inl (cI, 4, .inl (M 0))), (rr 1, .inl (cI, 4, .inl (M 1))), (rr 2, .inl (cI, 4, .inl (M 2))), (rr 3, .inl (cI, 4, .inl (M 3))), (rr 4, .inl (cI, 4, .inl (M 4)))] (lc_bI (lc_on fe len x)) [(en, .inr (3, [.ref eo, .ref sb, .int (nI len)])), (eo, .inl (cI, 5, .inl fe)), (sb, .inl (cG, 5, .inr (.inr (.inr (.inr (fun uu => some (rr uu))))))), (rr 0, .inl (cI, 4, .inl (M 0))), (rr 1, .inl (cI, 4, .inl (M 1))), (rr 2, .inl (cI, 4, .inl (M 2))), (rr 3, .inl (cI, 4, .inl (M 3))), (rr 4, .inl (cI, 4, .inl (M 4)))] := by
  refine zz_MI_of (by decide) (Nat.le_of_ble_eq_true rfl) (zz_narB _) ?_
  intro p e s m args below meth c A ls Q hx hb hml hown hts hK hP hD hS hA hl hret
  have hown : s.vm.findClass R_Entries = some m.cls := hown
  have hl : lv_has ls 3 [(0, .ref en), (1, .int x)] := hl
  refine lv_iconst (v := nI 0) hx hb d_Entries_tellOf_0 (by decide +kernel) ?_
  refine lv_istore_n (lv' := [(2, .int (nI 0)), (0, .ref en), (1, .int x)]) hx hb d_Entries_tellOf_1 rfl hl (by decide) rfl (fun ls hl => ?_)
  have loop2 : ∀ (fu : Nat) (i : Nat), 8 - i < fu → (hi : i ≤ len) → (hn : ∀ j, j < i → fe j ≠ x) → ∀ (H : Heap) (locs : List Loc), va_P D classes [(en, .inr (3, [.ref eo, .ref sb, .int (nI len)])), (eo, .inl (cI, 5, .inl fe)), (sb, .inl (cG, 5, .inr (.inr (.inr (.inr (fun uu => some (rr uu))))))), (rr 0, .inl (cI, 4, .inl (M 0))), (rr 1, .inl (cI, 4, .inl (M 1))), (rr 2, .inl (cI, 4, .inl (M 2))), (rr 3, .inl (cI, 4, .inl (M 3))), (rr 4, .inl (cI, 4, .inl (M 4)))] H → va_D A [(en, .inr (3, [.ref eo, .ref sb, .int (nI len)])), (eo, .inl (cI, 5, .inl fe)), (sb, .inl (cG, 5, .inr (.inr (.inr (.inr (fun uu => some (rr uu))))))), (rr 0, .inl (cI, 4, .inl (M 0))), (rr 1, .inl (cI, 4, .inl (M 1))), (rr 2, .inl (cI, 4, .inl (M 2))), (rr 3, .inl (cI, 4, .inl (M 3))), (rr 4, .inl (cI, 4, .inl (M 4)))] → va_S A s.heap H locs → ∀ (ls : Array Slot), lv_has ls 3 [(0, .ref en), (1, .int x), (2, .int (nI i))] → W p l e ({ frames := 0, cells := 0, slots := 0, locals := 0 } : Room) s m args below meth c H locs 0 0 Q (F0 m 2 ls []) := by
    intro fu
    induction fu with
    | zero => intro i hf; omega
    | succ fu ih2 =>
      intro i hf hi hn H locs hP hD hS ls hl
      refine lv_iload_n hx hb d_Entries_tellOf_2 rfl (lv_at hl 2 rfl) ?_
      refine lv_aload_n hx hb d_Entries_tellOf_3 rfl (lv_at hl 0 rfl) ?_
      refine va_get (D := D) (ci := 3) (v := .int (nI len)) (C := R_Entries) (T := F_Entries) (N := 3) hx hb hts i_Entries hown hK hP 0 rfl rfl 2 (by decide) (hts _ kw_30) (fun _ h9 => h9) rfl d_Entries_tellOf_4 ?_
      refine zz_icmp_ge (tgt := 28) hx hb (by omega) (by omega) d_Entries_tellOf_7 (by decide) (fun c7 => ?_) (fun c7 => ?_)
      · skip
        refine lv_iconst (v := nI 0) hx hb d_Entries_tellOf_28 (by decide +kernel) ?_
        refine zz_top (z := lc_bI (lc_on fe len x)) (by first | exact lc_on_t (by omega) (by assumption) | exact lc_on_f (by omega) hn) ?_
        exact hret _ _ _ _ d_Entries_tellOf_29 hP hD hS
      · skip
        refine lv_aload_n hx hb d_Entries_tellOf_10 rfl (lv_at hl 0 rfl) ?_
        refine va_get (D := D) (ci := 3) (v := .ref eo) (C := R_Entries) (T := F_Entries) (N := 3) hx hb hts i_Entries hown hK hP 0 rfl rfl 0 (by decide) (hts _ kw_31) (fun _ h9 => h9) rfl d_Entries_tellOf_11 ?_
        refine lv_iload_n hx hb d_Entries_tellOf_14 rfl (lv_at hl 2 rfl) ?_
        refine zz_iald hx hb hK hP 1 0 (f := fe) rfl rfl (i := i) (by omega) (by omega) d_Entries_tellOf_15 ?_
        refine lv_iload_n hx hb d_Entries_tellOf_16 rfl (lv_at hl 1 rfl) ?_
        refine lv_icmp_ne (tgt := 22) hx hb d_Entries_tellOf_17 (by decide) (fun c17 => ?_) (fun c17 => ?_)
        · skip
          refine lv_iinc (v := nI (i + 1)) (lv' := [(2, .int (nI (i + 1))), (0, .ref en), (1, .int x)]) hx hb d_Entries_tellOf_22 hl (k := 2) rfl (nI_1 _) (by decide) rfl (fun ls hl => ?_)
          refine lv_goto (tgt := 2) hx hb d_Entries_tellOf_25 (by decide) ?_
          exact ih2 (i + 1) (by omega) (by omega) (lc_lt1 hn (by assumption)) _ _ hP hD hS _ (lv_sub hl [1, 2, 0] rfl)
        · skip
          refine lv_iconst (v := nI 1) hx hb d_Entries_tellOf_20 (by decide +kernel) ?_
          refine zz_top (z := lc_bI (lc_on fe len x)) (by first | exact lc_on_t (by omega) (by assumption) | exact lc_on_f (by omega) hn) ?_
          exact hret _ _ _ _ d_Entries_tellOf_21 hP hD hS
  exact loop2 9 0 (by omega) (by omega) (fun j hj => by omega) _ _ hP hD hS _ (lv_sub hl [1, 2, 0] rfl)
set_option maxHeartbeats 4000000 in
set_option maxRecDepth 100000 in
theorem c_Entries_objectOf (l : Launch) (D : va_G) (cI : ClassId) (cG : ClassId) (en : Nat) (eo : Nat) (sb : Nat) (rr : Nat → Nat) (fe : lc_A) (M : Nat → lc_A) (len : Nat) (k : Nat) (hk : k < 5) : zz_MI l y_Entries_objectOf b_Entries_objectOf 2 .int ({ frames := 0, cells := 0, slots := 0, locals := 0 } : Room) D [(cI, .int), (cG, .array .int)] [.ref en, .int (nI k)] [(en, .inr (3, [.ref eo, .ref sb, .int (nI len)])), (eo, .inl (cI, 5, .inl fe)), (sb, .inl (cG, 5, .inr (.inr (.inr (.inr (fun uu => some (rr uu))))))), (rr 0, .inl (cI, 4, .inl (M 0))), (rr 1, .inl (cI, 4, .inl (M 1))), (rr 2, .inl (cI, 4, .inl (M 2))), (rr 3, .inl (cI, 4, .inl (M 3))), (rr 4, .inl (cI, 4, .inl (M 4)))] (fe k) [(en, .inr (3, [.ref eo, .ref sb, .int (nI len)])), (eo, .inl (cI, 5, .inl fe)), (sb, .inl (cG, 5, .inr (.inr (.inr (.inr (fun uu => some (rr uu))))))), (rr 0, .inl (cI, 4, .inl (M 0))), (rr 1, .inl (cI, 4, .inl (M 1))), (rr 2, .inl (cI, 4, .inl (M 2))), (rr 3, .inl (cI, 4, .inl (M 3))), (rr 4, .inl (cI, 4, .inl (M 4)))] := by
  refine zz_MI_of (by decide) (Nat.le_of_ble_eq_true rfl) (vp_nar_int _) ?_
  intro p e s m args below meth c A ls Q hx hb hml hown hts hK hP hD hS hA hl hret
  have hown : s.vm.findClass R_Entries = some m.cls := hown
  have hl : lv_has ls 2 [(0, .ref en), (1, .int (nI k))] := hl
  refine lv_aload_n hx hb d_Entries_objectOf_0 rfl (lv_at hl 0 rfl) ?_
  refine va_get (D := D) (ci := 3) (v := .ref eo) (C := R_Entries) (T := F_Entries) (N := 3) hx hb hts i_Entries hown hK hP 0 rfl rfl 0 (by decide) (hts _ kw_31) (fun _ h9 => h9) rfl d_Entries_objectOf_1 ?_
  refine lv_iload_n hx hb d_Entries_objectOf_4 rfl (lv_at hl 1 rfl) ?_
  refine zz_iald hx hb hK hP 1 0 (f := fe) rfl rfl (i := k) (by omega) (by omega) d_Entries_objectOf_5 ?_
  exact hret _ _ _ _ d_Entries_objectOf_6 hP hD hS
set_option maxHeartbeats 4000000 in
set_option maxRecDepth 100000 in
theorem c_Entries_before (l : Launch) (D : va_G) (cI : ClassId) (cG : ClassId) (en : Nat) (eo : Nat) (sb : Nat) (rr : Nat → Nat) (fe : lc_A) (M : Nat → lc_A) (len : Nat) (k : Nat) (j : Nat) (hk : k < 5) (hj : j < 4) : zz_MI l y_Entries_before b_Entries_before 3 .int ({ frames := 0, cells := 0, slots := 0, locals := 0 } : Room) D [(cI, .int), (cG, .array .int)] [.ref en, .int (nI k), .int (nI j)] [(en, .inr (3, [.ref eo, .ref sb, .int (nI len)])), (eo, .inl (cI, 5, .inl fe)), (sb, .inl (cG, 5, .inr (.inr (.inr (.inr (fun uu => some (rr uu))))))), (rr 0, .inl (cI, 4, .inl (M 0))), (rr 1, .inl (cI, 4, .inl (M 1))), (rr 2, .inl (cI, 4, .inl (M 2))), (rr 3, .inl (cI, 4, .inl (M 3))), (rr 4, .inl (cI, 4, .inl (M 4)))] (M k j) [(en, .inr (3, [.ref eo, .ref sb, .int (nI len)])), (eo, .inl (cI, 5, .inl fe)), (sb, .inl (cG, 5, .inr (.inr (.inr (.inr (fun uu => some (rr uu))))))), (rr 0, .inl (cI, 4, .inl (M 0))), (rr 1, .inl (cI, 4, .inl (M 1))), (rr 2, .inl (cI, 4, .inl (M 2))), (rr 3, .inl (cI, 4, .inl (M 3))), (rr 4, .inl (cI, 4, .inl (M 4)))] := by
  refine zz_MI_of (by decide) (Nat.le_of_ble_eq_true rfl) (vp_nar_int _) ?_
  intro p e s m args below meth c A ls Q hx hb hml hown hts hK hP hD hS hA hl hret
  have hown : s.vm.findClass R_Entries = some m.cls := hown
  have hl : lv_has ls 3 [(0, .ref en), (1, .int (nI k)), (2, .int (nI j))] := hl
  refine lv_aload_n hx hb d_Entries_before_0 rfl (lv_at hl 0 rfl) ?_
  refine va_get (D := D) (ci := 3) (v := .ref sb) (C := R_Entries) (T := F_Entries) (N := 3) hx hb hts i_Entries hown hK hP 0 rfl rfl 1 (by decide) (hts _ kw_32) (fun _ h9 => h9) rfl d_Entries_before_1 ?_
  refine lv_iload_n hx hb d_Entries_before_4 rfl (lv_at hl 1 rfl) ?_
  refine zz_aald hx hb hK hP 2 1 (f := (fun uu => some (rr uu))) rfl rfl (i := k) (by omega) (by omega) rfl d_Entries_before_5 ?_
  refine lv_iload_n hx hb d_Entries_before_6 rfl (lv_at hl 2 rfl) ?_
  refine zz_iald hx hb hK hP (3 + k) 0 (f := M k) (zz_rowget (by omega)) rfl (i := j) (by omega) (by omega) d_Entries_before_7 ?_
  exact hret _ _ _ _ d_Entries_before_8 hP hD hS
set_option maxHeartbeats 4000000 in
set_option maxRecDepth 100000 in
theorem c_Entries_setBefore (l : Launch) (D : va_G) (cI : ClassId) (cG : ClassId) (en : Nat) (eo : Nat) (sb : Nat) (rr : Nat → Nat) (fe : lc_A) (M : Nat → lc_A) (len : Nat) (k : Nat) (j : Nat) (x : Int32) (hk : k < 5) (hj : j < 4) : zz_MV l y_Entries_setBefore b_Entries_setBefore 4 ({ frames := 0, cells := 0, slots := 0, locals := 0 } : Room) D [(cI, .int), (cG, .array .int)] [.ref en, .int (nI k), .int (nI j), .int x] [(en, .inr (3, [.ref eo, .ref sb, .int (nI len)])), (eo, .inl (cI, 5, .inl fe)), (sb, .inl (cG, 5, .inr (.inr (.inr (.inr (fun uu => some (rr uu))))))), (rr 0, .inl (cI, 4, .inl (M 0))), (rr 1, .inl (cI, 4, .inl (M 1))), (rr 2, .inl (cI, 4, .inl (M 2))), (rr 3, .inl (cI, 4, .inl (M 3))), (rr 4, .inl (cI, 4, .inl (M 4)))] [(en, .inr (3, [.ref eo, .ref sb, .int (nI len)])), (eo, .inl (cI, 5, .inl fe)), (sb, .inl (cG, 5, .inr (.inr (.inr (.inr (fun uu => some (rr uu))))))), (rr 0, .inl (cI, 4, .inl ((va_up M k (upd (M k) j x)) 0))), (rr 1, .inl (cI, 4, .inl ((va_up M k (upd (M k) j x)) 1))), (rr 2, .inl (cI, 4, .inl ((va_up M k (upd (M k) j x)) 2))), (rr 3, .inl (cI, 4, .inl ((va_up M k (upd (M k) j x)) 3))), (rr 4, .inl (cI, 4, .inl ((va_up M k (upd (M k) j x)) 4)))] := by
  refine zz_MV_of (by decide) (Nat.le_of_ble_eq_true rfl) ?_
  intro p e s m args below meth c A ls Q hx hb hml hown hts hK hP hD hS hA hl hret
  have hown : s.vm.findClass R_Entries = some m.cls := hown
  have hl : lv_has ls 4 [(0, .ref en), (1, .int (nI k)), (2, .int (nI j)), (3, .int x)] := hl
  refine lv_aload_n hx hb d_Entries_setBefore_0 rfl (lv_at hl 0 rfl) ?_
  refine va_get (D := D) (ci := 3) (v := .ref sb) (C := R_Entries) (T := F_Entries) (N := 3) hx hb hts i_Entries hown hK hP 0 rfl rfl 1 (by decide) (hts _ kw_32) (fun _ h9 => h9) rfl d_Entries_setBefore_1 ?_
  refine lv_iload_n hx hb d_Entries_setBefore_4 rfl (lv_at hl 1 rfl) ?_
  refine zz_aald hx hb hK hP 2 1 (f := (fun uu => some (rr uu))) rfl rfl (i := k) (by omega) (by omega) rfl d_Entries_setBefore_5 ?_
  refine lv_iload_n hx hb d_Entries_setBefore_6 rfl (lv_at hl 2 rfl) ?_
  refine lv_iload_n hx hb d_Entries_setBefore_7 rfl (lv_at hl 3 rfl) ?_
  refine zz_iast hx hb hK hP hD hS (3 + k) 0 (f := M k) (zz_rowget (by omega)) rfl (i := j) (by omega) (by omega) d_Entries_setBefore_8 (g := upd (M k) j x) rfl (ws' := [(en, .inr (3, [.ref eo, .ref sb, .int (nI len)])), (eo, .inl (cI, 5, .inl fe)), (sb, .inl (cG, 5, .inr (.inr (.inr (.inr (fun uu => some (rr uu))))))), (rr 0, .inl (cI, 4, .inl ((va_up M k (upd (M k) j x)) 0))), (rr 1, .inl (cI, 4, .inl ((va_up M k (upd (M k) j x)) 1))), (rr 2, .inl (cI, 4, .inl ((va_up M k (upd (M k) j x)) 2))), (rr 3, .inl (cI, 4, .inl ((va_up M k (upd (M k) j x)) 3))), (rr 4, .inl (cI, 4, .inl ((va_up M k (upd (M k) j x)) 4)))]) (zz_rowset (by omega)) (fun H locs hP hD hS => ?_)
  exact hret _ _ _ _ d_Entries_setBefore_9 hP hD hS
set_option maxHeartbeats 4000000 in
set_option maxRecDepth 100000 in
theorem c_Entries_open (l : Launch) (D : va_G) (cI : ClassId) (cG : ClassId) (en : Nat) (eo : Nat) (sb : Nat) (rr : Nat → Nat) (fe : lc_A) (M : Nat → lc_A) (len : Nat) (x : Int32) (hh : len < 5) : zz_MI l y_Entries_open b_Entries_open 3 .int ({ frames := 0, cells := 0, slots := 0, locals := 0 } : Room) D [(cI, .int), (cG, .array .int)] [.ref en, .int x] [(en, .inr (3, [.ref eo, .ref sb, .int (nI len)])), (eo, .inl (cI, 5, .inl fe)), (sb, .inl (cG, 5, .inr (.inr (.inr (.inr (fun uu => some (rr uu))))))), (rr 0, .inl (cI, 4, .inl (M 0))), (rr 1, .inl (cI, 4, .inl (M 1))), (rr 2, .inl (cI, 4, .inl (M 2))), (rr 3, .inl (cI, 4, .inl (M 3))), (rr 4, .inl (cI, 4, .inl (M 4)))] (nI len) [(en, .inr (3, [.ref eo, .ref sb, .int (nI (len + 1))])), (eo, .inl (cI, 5, .inl (upd fe len x))), (sb, .inl (cG, 5, .inr (.inr (.inr (.inr (fun uu => some (rr uu))))))), (rr 0, .inl (cI, 4, .inl (M 0))), (rr 1, .inl (cI, 4, .inl (M 1))), (rr 2, .inl (cI, 4, .inl (M 2))), (rr 3, .inl (cI, 4, .inl (M 3))), (rr 4, .inl (cI, 4, .inl (M 4)))] := by
  refine zz_MI_of (by decide) (Nat.le_of_ble_eq_true rfl) (vp_nar_int _) ?_
  intro p e s m args below meth c A ls Q hx hb hml hown hts hK hP hD hS hA hl hret
  have hown : s.vm.findClass R_Entries = some m.cls := hown
  have hl : lv_has ls 3 [(0, .ref en), (1, .int x)] := hl
  refine lv_aload_n hx hb d_Entries_open_0 rfl (lv_at hl 0 rfl) ?_
  refine va_get (D := D) (ci := 3) (v := .int (nI len)) (C := R_Entries) (T := F_Entries) (N := 3) hx hb hts i_Entries hown hK hP 0 rfl rfl 2 (by decide) (hts _ kw_30) (fun _ h9 => h9) rfl d_Entries_open_1 ?_
  refine lv_istore_n (lv' := [(2, .int (nI len)), (0, .ref en), (1, .int x)]) hx hb d_Entries_open_4 rfl hl (by decide) rfl (fun ls hl => ?_)
  refine lv_aload_n hx hb d_Entries_open_5 rfl (lv_at hl 1 rfl) ?_
  refine va_get (D := D) (ci := 3) (v := .ref eo) (C := R_Entries) (T := F_Entries) (N := 3) hx hb hts i_Entries hown hK hP 0 rfl rfl 0 (by decide) (hts _ kw_31) (fun _ h9 => h9) rfl d_Entries_open_6 ?_
  refine lv_iload_n hx hb d_Entries_open_9 rfl (lv_at hl 0 rfl) ?_
  refine lv_iload_n hx hb d_Entries_open_10 rfl (lv_at hl 2 rfl) ?_
  refine zz_iast hx hb hK hP hD hS 1 0 (f := fe) rfl rfl (i := len) (by omega) (by omega) d_Entries_open_11 (g := upd fe len x) rfl (ws' := [(en, .inr (3, [.ref eo, .ref sb, .int (nI len)])), (eo, .inl (cI, 5, .inl (upd fe len x))), (sb, .inl (cG, 5, .inr (.inr (.inr (.inr (fun uu => some (rr uu))))))), (rr 0, .inl (cI, 4, .inl (M 0))), (rr 1, .inl (cI, 4, .inl (M 1))), (rr 2, .inl (cI, 4, .inl (M 2))), (rr 3, .inl (cI, 4, .inl (M 3))), (rr 4, .inl (cI, 4, .inl (M 4)))]) rfl (fun H locs hP hD hS => ?_)
  refine lv_aload_n hx hb d_Entries_open_12 rfl (lv_at hl 1 rfl) ?_
  refine lv_dup hx hb d_Entries_open_13 rfl ?_
  refine va_get (D := D) (ci := 3) (v := .int (nI len)) (C := R_Entries) (T := F_Entries) (N := 3) hx hb hts i_Entries hown hK hP 0 rfl rfl 2 (by decide) (hts _ kw_30) (fun _ h9 => h9) rfl d_Entries_open_14 ?_
  refine lv_iconst (v := nI 1) hx hb d_Entries_open_17 (by decide +kernel) ?_
  refine zz_iadd hx hb d_Entries_open_18 ?_
  refine va_put (D := D) (ci := 3) (v := .int (nI (len + 1))) (ty := .int) (C := R_Entries) (T := F_Entries) (N := 3) hx hb hts i_Entries t_Entries t_Entries_ok n_Entries hown hK hP hD hS 0 rfl rfl 2 (by decide) (hts _ kw_30) (fun _ h9 => h9) rfl (by decide +kernel) rfl rfl (Nat.le_of_ble_eq_true rfl) d_Entries_open_19 (fun H locs hP hD hS => ?_)
  have hP : va_P D classes [(en, .inr (3, [.ref eo, .ref sb, .int (nI (len + 1))])), (eo, .inl (cI, 5, .inl (upd fe len x))), (sb, .inl (cG, 5, .inr (.inr (.inr (.inr (fun uu => some (rr uu))))))), (rr 0, .inl (cI, 4, .inl (M 0))), (rr 1, .inl (cI, 4, .inl (M 1))), (rr 2, .inl (cI, 4, .inl (M 2))), (rr 3, .inl (cI, 4, .inl (M 3))), (rr 4, .inl (cI, 4, .inl (M 4)))] H := hP
  have hD : va_D A [(en, .inr (3, [.ref eo, .ref sb, .int (nI (len + 1))])), (eo, .inl (cI, 5, .inl (upd fe len x))), (sb, .inl (cG, 5, .inr (.inr (.inr (.inr (fun uu => some (rr uu))))))), (rr 0, .inl (cI, 4, .inl (M 0))), (rr 1, .inl (cI, 4, .inl (M 1))), (rr 2, .inl (cI, 4, .inl (M 2))), (rr 3, .inl (cI, 4, .inl (M 3))), (rr 4, .inl (cI, 4, .inl (M 4)))] := hD
  refine lv_iload_n hx hb d_Entries_open_22 rfl (lv_at hl 0 rfl) ?_
  exact hret _ _ _ _ d_Entries_open_23 hP hD hS
set_option maxHeartbeats 4000000 in
set_option maxRecDepth 100000 in
theorem c_Entries_clear (l : Launch) (D : va_G) (cI : ClassId) (cG : ClassId) (en : Nat) (eo : Nat) (sb : Nat) (rr : Nat → Nat) (fe : lc_A) (M : Nat → lc_A) (len : Nat)  : zz_MV l y_Entries_clear b_Entries_clear 1 ({ frames := 0, cells := 0, slots := 0, locals := 0 } : Room) D [(cI, .int), (cG, .array .int)] [.ref en] [(en, .inr (3, [.ref eo, .ref sb, .int (nI len)])), (eo, .inl (cI, 5, .inl fe)), (sb, .inl (cG, 5, .inr (.inr (.inr (.inr (fun uu => some (rr uu))))))), (rr 0, .inl (cI, 4, .inl (M 0))), (rr 1, .inl (cI, 4, .inl (M 1))), (rr 2, .inl (cI, 4, .inl (M 2))), (rr 3, .inl (cI, 4, .inl (M 3))), (rr 4, .inl (cI, 4, .inl (M 4)))] [(en, .inr (3, [.ref eo, .ref sb, .int (nI 0)])), (eo, .inl (cI, 5, .inl fe)), (sb, .inl (cG, 5, .inr (.inr (.inr (.inr (fun uu => some (rr uu))))))), (rr 0, .inl (cI, 4, .inl (M 0))), (rr 1, .inl (cI, 4, .inl (M 1))), (rr 2, .inl (cI, 4, .inl (M 2))), (rr 3, .inl (cI, 4, .inl (M 3))), (rr 4, .inl (cI, 4, .inl (M 4)))] := by
  refine zz_MV_of (by decide) (Nat.le_of_ble_eq_true rfl) ?_
  intro p e s m args below meth c A ls Q hx hb hml hown hts hK hP hD hS hA hl hret
  have hown : s.vm.findClass R_Entries = some m.cls := hown
  have hl : lv_has ls 1 [(0, .ref en)] := hl
  refine lv_aload_n hx hb d_Entries_clear_0 rfl (lv_at hl 0 rfl) ?_
  refine lv_iconst (v := nI 0) hx hb d_Entries_clear_1 (by decide +kernel) ?_
  refine va_put (D := D) (ci := 3) (v := .int (nI 0)) (ty := .int) (C := R_Entries) (T := F_Entries) (N := 3) hx hb hts i_Entries t_Entries t_Entries_ok n_Entries hown hK hP hD hS 0 rfl rfl 2 (by decide) (hts _ kw_30) (fun _ h9 => h9) rfl (by decide +kernel) rfl rfl (Nat.le_of_ble_eq_true rfl) d_Entries_clear_2 (fun H locs hP hD hS => ?_)
  have hP : va_P D classes [(en, .inr (3, [.ref eo, .ref sb, .int (nI 0)])), (eo, .inl (cI, 5, .inl fe)), (sb, .inl (cG, 5, .inr (.inr (.inr (.inr (fun uu => some (rr uu))))))), (rr 0, .inl (cI, 4, .inl (M 0))), (rr 1, .inl (cI, 4, .inl (M 1))), (rr 2, .inl (cI, 4, .inl (M 2))), (rr 3, .inl (cI, 4, .inl (M 3))), (rr 4, .inl (cI, 4, .inl (M 4)))] H := hP
  have hD : va_D A [(en, .inr (3, [.ref eo, .ref sb, .int (nI 0)])), (eo, .inl (cI, 5, .inl fe)), (sb, .inl (cG, 5, .inr (.inr (.inr (.inr (fun uu => some (rr uu))))))), (rr 0, .inl (cI, 4, .inl (M 0))), (rr 1, .inl (cI, 4, .inl (M 1))), (rr 2, .inl (cI, 4, .inl (M 2))), (rr 3, .inl (cI, 4, .inl (M 3))), (rr 4, .inl (cI, 4, .inl (M 4)))] := hD
  exact hret _ _ _ _ d_Entries_clear_5 hP hD hS
end
section
set_option maxHeartbeats 4000000 in
set_option maxRecDepth 100000 in
theorem c_X_firstCellAt (l : Launch) (D : va_G) (cI : ClassId) (cG : ClassId) (h0 : Nat) (hp : Nat) (ow : Nat) (wo : Nat) (pl : Nat) (po : Nat) (en : Nat) (eo : Nat) (sb : Nat) (rr : Nat → Nat) (fo : lc_A) (fw : lc_A) (md : Nat) (fp : lc_A) (ht : Nat) (fe : lc_A) (M : Nat → lc_A) (len : Nat) (rk : Int32) (x : Int32) (hht : ht ≤ 8) : zz_MI l y_X_firstCellAt b_X_firstCellAt 2 .int ({ frames := 1, cells := 0, slots := 0, locals := 22 } : Room) D [(cI, .int), (cG, .array .int)] [.ref h0, .int x] [(h0, .inr (0, [.ref hp, .ref pl, .ref en, .int rk])), (hp, .inr (1, [.ref ow, .ref wo, .int (nI md)])), (ow, .inl (cI, 48, .inl fo)), (wo, .inl (cI, 48, .inl fw)), (pl, .inr (2, [.ref po, .int (nI ht)])), (po, .inl (cI, 8, .inl fp)), (en, .inr (3, [.ref eo, .ref sb, .int (nI len)])), (eo, .inl (cI, 5, .inl fe)), (sb, .inl (cG, 5, .inr (.inr (.inr (.inr (fun uu => some (rr uu))))))), (rr 0, .inl (cI, 4, .inl (M 0))), (rr 1, .inl (cI, 4, .inl (M 1))), (rr 2, .inl (cI, 4, .inl (M 2))), (rr 3, .inl (cI, 4, .inl (M 3))), (rr 4, .inl (cI, 4, .inl (M 4)))] (lc_oI (lc_fca fo fp ht x)) [(h0, .inr (0, [.ref hp, .ref pl, .ref en, .int rk])), (hp, .inr (1, [.ref ow, .ref wo, .int (nI md)])), (ow, .inl (cI, 48, .inl fo)), (wo, .inl (cI, 48, .inl fw)), (pl, .inr (2, [.ref po, .int (nI ht)])), (po, .inl (cI, 8, .inl fp)), (en, .inr (3, [.ref eo, .ref sb, .int (nI len)])), (eo, .inl (cI, 5, .inl fe)), (sb, .inl (cG, 5, .inr (.inr (.inr (.inr (fun uu => some (rr uu))))))), (rr 0, .inl (cI, 4, .inl (M 0))), (rr 1, .inl (cI, 4, .inl (M 1))), (rr 2, .inl (cI, 4, .inl (M 2))), (rr 3, .inl (cI, 4, .inl (M 3))), (rr 4, .inl (cI, 4, .inl (M 4)))] := by
  refine zz_MI_of (by decide) (Nat.le_of_ble_eq_true rfl) (vp_nar_int _) ?_
  intro p e s m args below meth c A ls Q hx hb hml hown hts hK hP hD hS hA hl hret
  have hown : s.vm.findClass R_X = some m.cls := hown
  have hl : lv_has ls 2 [(0, .ref h0), (1, .int x)] := hl
  refine lv_aload_n hx hb d_X_firstCellAt_0 rfl (lv_at hl 0 rfl) ?_
  refine va_get (D := D) (ci := 0) (v := .ref pl) (C := R_X) (T := F_X) (N := 4) hx hb hts i_X hown hK hP 0 rfl rfl 1 (by decide) (hts _ kw_33) (fun _ h9 => h9) rfl d_X_firstCellAt_1 ?_
  refine lv_iload_n hx hb d_X_firstCellAt_4 rfl (lv_at hl 1 rfl) ?_
  refine zz_callI (np := 1) hx hb hml hown hts hK hP hD hS hA (c_Places_has l D cI pl po fp ht x ) (zz_gv kw_35 kw_36 kw_37 kw_38 kc_34) (by decide +kernel) rfl rfl ⟨Nat.le_of_ble_eq_true rfl, Nat.le_of_ble_eq_true rfl⟩ ⟨Nat.zero_le _, Nat.zero_le _⟩ [0] rfl 4 2 rfl rfl rfl [4, 5] [0, 1, 2, 3, 6, 7, 8, 9, 10, 11, 12, 13] [0, 1, 2, 3, 12, 13, 4, 5, 6, 7, 8, 9, 10, 11] rfl (by decide) (wr := [(h0, .inr (0, [.ref hp, .ref pl, .ref en, .int rk])), (hp, .inr (1, [.ref ow, .ref wo, .int (nI md)])), (ow, .inl (cI, 48, .inl fo)), (wo, .inl (cI, 48, .inl fw)), (en, .inr (3, [.ref eo, .ref sb, .int (nI len)])), (eo, .inl (cI, 5, .inl fe)), (sb, .inl (cG, 5, .inr (.inr (.inr (.inr (fun uu => some (rr uu))))))), (rr 0, .inl (cI, 4, .inl (M 0))), (rr 1, .inl (cI, 4, .inl (M 1))), (rr 2, .inl (cI, 4, .inl (M 2))), (rr 3, .inl (cI, 4, .inl (M 3))), (rr 4, .inl (cI, 4, .inl (M 4)))]) rfl (by decide) (by decide) (ws' := [(h0, .inr (0, [.ref hp, .ref pl, .ref en, .int rk])), (hp, .inr (1, [.ref ow, .ref wo, .int (nI md)])), (ow, .inl (cI, 48, .inl fo)), (wo, .inl (cI, 48, .inl fw)), (pl, .inr (2, [.ref po, .int (nI ht)])), (po, .inl (cI, 8, .inl fp)), (en, .inr (3, [.ref eo, .ref sb, .int (nI len)])), (eo, .inl (cI, 5, .inl fe)), (sb, .inl (cG, 5, .inr (.inr (.inr (.inr (fun uu => some (rr uu))))))), (rr 0, .inl (cI, 4, .inl (M 0))), (rr 1, .inl (cI, 4, .inl (M 1))), (rr 2, .inl (cI, 4, .inl (M 2))), (rr 3, .inl (cI, 4, .inl (M 3))), (rr 4, .inl (cI, 4, .inl (M 4)))]) rfl (by decide) rfl hl.1 rfl (Nat.le_of_ble_eq_true rfl) d_X_firstCellAt_5 (fun H locs hP hD hS => ?_)
  refine zz_pl (x := x) (n := ht) (by omega) (fun h5 => ?_) (fun j5 hj5 ex5 h5 => ?_)
  · skip
    refine zz_if_eq (tgt := 29) hx hb (by omega) d_X_firstCellAt_8 (by decide) (fun c8 => ?_) (fun c8 => ?_)
    · skip
      refine lv_iconst (v := (-1)) hx hb d_X_firstCellAt_29 (by decide +kernel) ?_
      refine zz_top (z := lc_oI (lc_fca fo fp ht x)) (by simp only [lc_fca, lc_oI, *]) ?_
      exact hret _ _ _ _ d_X_firstCellAt_30 hP hD hS
    · skip
      exact absurd c8 (by omega)
  · skip
    subst ex5
    refine zz_if_eq (tgt := 29) hx hb (by omega) d_X_firstCellAt_8 (by decide) (fun c8 => ?_) (fun c8 => ?_)
    · skip
      exact absurd c8 (by omega)
    · skip
      refine lv_aload_n hx hb d_X_firstCellAt_11 rfl (lv_at hl 0 rfl) ?_
      refine va_get (D := D) (ci := 0) (v := .ref hp) (C := R_X) (T := F_X) (N := 4) hx hb hts i_X hown hK hP 0 rfl rfl 0 (by decide) (hts _ kw_39) (fun _ h9 => h9) rfl d_X_firstCellAt_12 ?_
      refine lv_aload_n hx hb d_X_firstCellAt_15 rfl (lv_at hl 0 rfl) ?_
      refine va_get (D := D) (ci := 0) (v := .ref pl) (C := R_X) (T := F_X) (N := 4) hx hb hts i_X hown hK hP 0 rfl rfl 1 (by decide) (hts _ kw_33) (fun _ h9 => h9) rfl d_X_firstCellAt_16 ?_
      refine lv_iload_n hx hb d_X_firstCellAt_19 rfl (lv_at hl 1 rfl) ?_
      refine zz_callI (np := 1) hx hb hml hown hts hK hP hD hS hA (c_Places_at l D cI pl po fp ht j5 (by omega)) (zz_gv kw_41 kw_42 kw_43 kw_38 kc_40) (by decide +kernel) rfl rfl ⟨Nat.le_of_ble_eq_true rfl, Nat.le_of_ble_eq_true rfl⟩ ⟨Nat.zero_le _, Nat.zero_le _⟩ [0] rfl 4 2 rfl rfl rfl [4, 5] [0, 1, 2, 3, 6, 7, 8, 9, 10, 11, 12, 13] [0, 1, 2, 3, 12, 13, 4, 5, 6, 7, 8, 9, 10, 11] rfl (by decide) (wr := [(h0, .inr (0, [.ref hp, .ref pl, .ref en, .int rk])), (hp, .inr (1, [.ref ow, .ref wo, .int (nI md)])), (ow, .inl (cI, 48, .inl fo)), (wo, .inl (cI, 48, .inl fw)), (en, .inr (3, [.ref eo, .ref sb, .int (nI len)])), (eo, .inl (cI, 5, .inl fe)), (sb, .inl (cG, 5, .inr (.inr (.inr (.inr (fun uu => some (rr uu))))))), (rr 0, .inl (cI, 4, .inl (M 0))), (rr 1, .inl (cI, 4, .inl (M 1))), (rr 2, .inl (cI, 4, .inl (M 2))), (rr 3, .inl (cI, 4, .inl (M 3))), (rr 4, .inl (cI, 4, .inl (M 4)))]) rfl (by decide) (by decide) (ws' := [(h0, .inr (0, [.ref hp, .ref pl, .ref en, .int rk])), (hp, .inr (1, [.ref ow, .ref wo, .int (nI md)])), (ow, .inl (cI, 48, .inl fo)), (wo, .inl (cI, 48, .inl fw)), (pl, .inr (2, [.ref po, .int (nI ht)])), (po, .inl (cI, 8, .inl fp)), (en, .inr (3, [.ref eo, .ref sb, .int (nI len)])), (eo, .inl (cI, 5, .inl fe)), (sb, .inl (cG, 5, .inr (.inr (.inr (.inr (fun uu => some (rr uu))))))), (rr 0, .inl (cI, 4, .inl (M 0))), (rr 1, .inl (cI, 4, .inl (M 1))), (rr 2, .inl (cI, 4, .inl (M 2))), (rr 3, .inl (cI, 4, .inl (M 3))), (rr 4, .inl (cI, 4, .inl (M 4)))]) rfl (by decide) rfl hl.1 rfl (Nat.le_of_ble_eq_true rfl) d_X_firstCellAt_20 (fun H locs hP hD hS => ?_)
      refine zz_callI (np := 1) hx hb hml hown hts hK hP hD hS hA (c_Heap_firstCellOf l D cI hp ow wo fo fw md (fp j5) ) (zz_gv kw_44 kw_17 kw_18 kw_6 kc_15) (by decide +kernel) rfl rfl ⟨Nat.le_of_ble_eq_true rfl, Nat.le_of_ble_eq_true rfl⟩ ⟨Nat.zero_le _, Nat.zero_le _⟩ [0] rfl 1 1 rfl rfl rfl [1, 2, 3] [0, 4, 5, 6, 7, 8, 9, 10, 11, 12, 13] [0, 11, 12, 13, 1, 2, 3, 4, 5, 6, 7, 8, 9, 10] rfl (by decide) (wr := [(h0, .inr (0, [.ref hp, .ref pl, .ref en, .int rk])), (pl, .inr (2, [.ref po, .int (nI ht)])), (po, .inl (cI, 8, .inl fp)), (en, .inr (3, [.ref eo, .ref sb, .int (nI len)])), (eo, .inl (cI, 5, .inl fe)), (sb, .inl (cG, 5, .inr (.inr (.inr (.inr (fun uu => some (rr uu))))))), (rr 0, .inl (cI, 4, .inl (M 0))), (rr 1, .inl (cI, 4, .inl (M 1))), (rr 2, .inl (cI, 4, .inl (M 2))), (rr 3, .inl (cI, 4, .inl (M 3))), (rr 4, .inl (cI, 4, .inl (M 4)))]) rfl (by decide) (by decide) (ws' := [(h0, .inr (0, [.ref hp, .ref pl, .ref en, .int rk])), (hp, .inr (1, [.ref ow, .ref wo, .int (nI md)])), (ow, .inl (cI, 48, .inl fo)), (wo, .inl (cI, 48, .inl fw)), (pl, .inr (2, [.ref po, .int (nI ht)])), (po, .inl (cI, 8, .inl fp)), (en, .inr (3, [.ref eo, .ref sb, .int (nI len)])), (eo, .inl (cI, 5, .inl fe)), (sb, .inl (cG, 5, .inr (.inr (.inr (.inr (fun uu => some (rr uu))))))), (rr 0, .inl (cI, 4, .inl (M 0))), (rr 1, .inl (cI, 4, .inl (M 1))), (rr 2, .inl (cI, 4, .inl (M 2))), (rr 3, .inl (cI, 4, .inl (M 3))), (rr 4, .inl (cI, 4, .inl (M 4)))]) rfl (by decide) rfl hl.1 rfl (Nat.le_of_ble_eq_true rfl) d_X_firstCellAt_23 (fun H locs hP hD hS => ?_)
      refine zz_oI (fun h23 => ?_) (fun k23 h23 => ?_)
      · skip
        refine lv_goto (tgt := 30) hx hb d_X_firstCellAt_26 (by decide) ?_
        refine zz_top (z := lc_oI (lc_fca fo fp ht (nI j5))) (by simp only [lc_fca, lc_oI, *]) ?_
        exact hret _ _ _ _ d_X_firstCellAt_30 hP hD hS
      · skip
        refine lv_goto (tgt := 30) hx hb d_X_firstCellAt_26 (by decide) ?_
        refine zz_top (z := lc_oI (lc_fca fo fp ht (nI j5))) (by simp only [lc_fca, lc_oI, *]) ?_
        exact hret _ _ _ _ d_X_firstCellAt_30 hP hD hS
set_option maxHeartbeats 4000000 in
set_option maxRecDepth 100000 in
theorem c_X_firstUnheld (l : Launch) (D : va_G) (cI : ClassId) (cG : ClassId) (h0 : Nat) (hp : Nat) (ow : Nat) (wo : Nat) (pl : Nat) (po : Nat) (en : Nat) (eo : Nat) (sb : Nat) (rr : Nat → Nat) (fo : lc_A) (fw : lc_A) (md : Nat) (fp : lc_A) (ht : Nat) (fe : lc_A) (M : Nat → lc_A) (len : Nat) (rk : Int32) (hht : ht ≤ 8) : zz_MI l y_X_firstUnheld b_X_firstUnheld 2 .int ({ frames := 2, cells := 0, slots := 0, locals := 42 } : Room) D [(cI, .int), (cG, .array .int)] [.ref h0] [(h0, .inr (0, [.ref hp, .ref pl, .ref en, .int rk])), (hp, .inr (1, [.ref ow, .ref wo, .int (nI md)])), (ow, .inl (cI, 48, .inl fo)), (wo, .inl (cI, 48, .inl fw)), (pl, .inr (2, [.ref po, .int (nI ht)])), (po, .inl (cI, 8, .inl fp)), (en, .inr (3, [.ref eo, .ref sb, .int (nI len)])), (eo, .inl (cI, 5, .inl fe)), (sb, .inl (cG, 5, .inr (.inr (.inr (.inr (fun uu => some (rr uu))))))), (rr 0, .inl (cI, 4, .inl (M 0))), (rr 1, .inl (cI, 4, .inl (M 1))), (rr 2, .inl (cI, 4, .inl (M 2))), (rr 3, .inl (cI, 4, .inl (M 3))), (rr 4, .inl (cI, 4, .inl (M 4)))] (lc_oI (lc_un fo fw fp ht)) [(h0, .inr (0, [.ref hp, .ref pl, .ref en, .int rk])), (hp, .inr (1, [.ref ow, .ref wo, .int (nI md)])), (ow, .inl (cI, 48, .inl fo)), (wo, .inl (cI, 48, .inl fw)), (pl, .inr (2, [.ref po, .int (nI ht)])), (po, .inl (cI, 8, .inl fp)), (en, .inr (3, [.ref eo, .ref sb, .int (nI len)])), (eo, .inl (cI, 5, .inl fe)), (sb, .inl (cG, 5, .inr (.inr (.inr (.inr (fun uu => some (rr uu))))))), (rr 0, .inl (cI, 4, .inl (M 0))), (rr 1, .inl (cI, 4, .inl (M 1))), (rr 2, .inl (cI, 4, .inl (M 2))), (rr 3, .inl (cI, 4, .inl (M 3))), (rr 4, .inl (cI, 4, .inl (M 4)))] := by
  refine zz_MI_of (by decide) (Nat.le_of_ble_eq_true rfl) (vp_nar_int _) ?_
  intro p e s m args below meth c A ls Q hx hb hml hown hts hK hP hD hS hA hl hret
  have hown : s.vm.findClass R_X = some m.cls := hown
  have hl : lv_has ls 2 [(0, .ref h0)] := hl
  refine lv_iconst (v := nI 0) hx hb d_X_firstUnheld_0 (by decide +kernel) ?_
  refine lv_istore_n (lv' := [(1, .int (nI 0)), (0, .ref h0)]) hx hb d_X_firstUnheld_1 rfl hl (by decide) rfl (fun ls hl => ?_)
  have loop2 : ∀ (fu : Nat) (i : Nat), 48 - i < fu → (hi : i ≤ 48) → (hn : ∀ j, j < i → (lc_isU fo fw j && !lc_on fp ht (fo j)) = false) → ∀ (H : Heap) (locs : List Loc), va_P D classes [(h0, .inr (0, [.ref hp, .ref pl, .ref en, .int rk])), (hp, .inr (1, [.ref ow, .ref wo, .int (nI md)])), (ow, .inl (cI, 48, .inl fo)), (wo, .inl (cI, 48, .inl fw)), (pl, .inr (2, [.ref po, .int (nI ht)])), (po, .inl (cI, 8, .inl fp)), (en, .inr (3, [.ref eo, .ref sb, .int (nI len)])), (eo, .inl (cI, 5, .inl fe)), (sb, .inl (cG, 5, .inr (.inr (.inr (.inr (fun uu => some (rr uu))))))), (rr 0, .inl (cI, 4, .inl (M 0))), (rr 1, .inl (cI, 4, .inl (M 1))), (rr 2, .inl (cI, 4, .inl (M 2))), (rr 3, .inl (cI, 4, .inl (M 3))), (rr 4, .inl (cI, 4, .inl (M 4)))] H → va_D A [(h0, .inr (0, [.ref hp, .ref pl, .ref en, .int rk])), (hp, .inr (1, [.ref ow, .ref wo, .int (nI md)])), (ow, .inl (cI, 48, .inl fo)), (wo, .inl (cI, 48, .inl fw)), (pl, .inr (2, [.ref po, .int (nI ht)])), (po, .inl (cI, 8, .inl fp)), (en, .inr (3, [.ref eo, .ref sb, .int (nI len)])), (eo, .inl (cI, 5, .inl fe)), (sb, .inl (cG, 5, .inr (.inr (.inr (.inr (fun uu => some (rr uu))))))), (rr 0, .inl (cI, 4, .inl (M 0))), (rr 1, .inl (cI, 4, .inl (M 1))), (rr 2, .inl (cI, 4, .inl (M 2))), (rr 3, .inl (cI, 4, .inl (M 3))), (rr 4, .inl (cI, 4, .inl (M 4)))] → va_S A s.heap H locs → ∀ (ls : Array Slot), lv_has ls 2 [(0, .ref h0), (1, .int (nI i))] → W p l e ({ frames := 2, cells := 0, slots := 0, locals := 42 } : Room) s m args below meth c H locs 0 0 Q (F0 m 2 ls []) := by
    intro fu
    induction fu with
    | zero => intro i hf; omega
    | succ fu ih2 =>
      intro i hf hi hn H locs hP hD hS ls hl
      refine lv_iload_n hx hb d_X_firstUnheld_2 rfl (lv_at hl 1 rfl) ?_
      refine lv_bipush (v := nI 48) hx hb d_X_firstUnheld_3 (by decide +kernel) ?_
      refine zz_icmp_ge (tgt := 45) hx hb (by omega) (by omega) d_X_firstUnheld_5 (by decide) (fun c5 => ?_) (fun c5 => ?_)
      · skip
        refine lv_iconst (v := (-1)) hx hb d_X_firstUnheld_45 (by decide +kernel) ?_
        refine zz_top (z := lc_oI (lc_un fo fw fp ht)) (by first | exact lc_un_i (by omega) (by simp [*]) hn | exact lc_un_n (by omega) hn) ?_
        exact hret _ _ _ _ d_X_firstUnheld_46 hP hD hS
      · skip
        refine lv_aload_n hx hb d_X_firstUnheld_8 rfl (lv_at hl 0 rfl) ?_
        refine va_get (D := D) (ci := 0) (v := .ref hp) (C := R_X) (T := F_X) (N := 4) hx hb hts i_X hown hK hP 0 rfl rfl 0 (by decide) (hts _ kw_39) (fun _ h9 => h9) rfl d_X_firstUnheld_9 ?_
        refine lv_iload_n hx hb d_X_firstUnheld_12 rfl (lv_at hl 1 rfl) ?_
        refine zz_callI (np := 1) hx hb hml hown hts hK hP hD hS hA (c_Heap_isUncounted l D cI hp ow wo fo fw md i (by omega)) (zz_gv kw_45 kw_13 kw_14 kw_6 kc_11) (by decide +kernel) rfl rfl ⟨Nat.le_of_ble_eq_true rfl, Nat.le_of_ble_eq_true rfl⟩ ⟨Nat.zero_le _, Nat.zero_le _⟩ [0] rfl 1 1 rfl rfl rfl [1, 2, 3] [0, 4, 5, 6, 7, 8, 9, 10, 11, 12, 13] [0, 11, 12, 13, 1, 2, 3, 4, 5, 6, 7, 8, 9, 10] rfl (by decide) (wr := [(h0, .inr (0, [.ref hp, .ref pl, .ref en, .int rk])), (pl, .inr (2, [.ref po, .int (nI ht)])), (po, .inl (cI, 8, .inl fp)), (en, .inr (3, [.ref eo, .ref sb, .int (nI len)])), (eo, .inl (cI, 5, .inl fe)), (sb, .inl (cG, 5, .inr (.inr (.inr (.inr (fun uu => some (rr uu))))))), (rr 0, .inl (cI, 4, .inl (M 0))), (rr 1, .inl (cI, 4, .inl (M 1))), (rr 2, .inl (cI, 4, .inl (M 2))), (rr 3, .inl (cI, 4, .inl (M 3))), (rr 4, .inl (cI, 4, .inl (M 4)))]) rfl (by decide) (by decide) (ws' := [(h0, .inr (0, [.ref hp, .ref pl, .ref en, .int rk])), (hp, .inr (1, [.ref ow, .ref wo, .int (nI md)])), (ow, .inl (cI, 48, .inl fo)), (wo, .inl (cI, 48, .inl fw)), (pl, .inr (2, [.ref po, .int (nI ht)])), (po, .inl (cI, 8, .inl fp)), (en, .inr (3, [.ref eo, .ref sb, .int (nI len)])), (eo, .inl (cI, 5, .inl fe)), (sb, .inl (cG, 5, .inr (.inr (.inr (.inr (fun uu => some (rr uu))))))), (rr 0, .inl (cI, 4, .inl (M 0))), (rr 1, .inl (cI, 4, .inl (M 1))), (rr 2, .inl (cI, 4, .inl (M 2))), (rr 3, .inl (cI, 4, .inl (M 3))), (rr 4, .inl (cI, 4, .inl (M 4)))]) rfl (by decide) rfl hl.1 rfl (Nat.le_of_ble_eq_true rfl) d_X_firstUnheld_13 (fun H locs hP hD hS => ?_)
        refine zz_bI (fun h13 => ?_) (fun h13 => ?_)
        · skip
          refine zz_if_eq (tgt := 39) hx hb (by omega) d_X_firstUnheld_16 (by decide) (fun c16 => ?_) (fun c16 => ?_)
          · skip
            exact absurd c16 (by omega)
          · skip
            refine lv_aload_n hx hb d_X_firstUnheld_19 rfl (lv_at hl 0 rfl) ?_
            refine va_get (D := D) (ci := 0) (v := .ref pl) (C := R_X) (T := F_X) (N := 4) hx hb hts i_X hown hK hP 0 rfl rfl 1 (by decide) (hts _ kw_33) (fun _ h9 => h9) rfl d_X_firstUnheld_20 ?_
            refine lv_aload_n hx hb d_X_firstUnheld_23 rfl (lv_at hl 0 rfl) ?_
            refine va_get (D := D) (ci := 0) (v := .ref hp) (C := R_X) (T := F_X) (N := 4) hx hb hts i_X hown hK hP 0 rfl rfl 0 (by decide) (hts _ kw_39) (fun _ h9 => h9) rfl d_X_firstUnheld_24 ?_
            refine lv_iload_n hx hb d_X_firstUnheld_27 rfl (lv_at hl 1 rfl) ?_
            refine zz_callI (np := 1) hx hb hml hown hts hK hP hD hS hA (c_Heap_objectIn l D cI hp ow wo fo fw md i (by omega)) (zz_gv kw_47 kw_48 kw_49 kw_6 kc_46) (by decide +kernel) rfl rfl ⟨Nat.le_of_ble_eq_true rfl, Nat.le_of_ble_eq_true rfl⟩ ⟨Nat.zero_le _, Nat.zero_le _⟩ [0] rfl 1 1 rfl rfl rfl [1, 2, 3] [0, 4, 5, 6, 7, 8, 9, 10, 11, 12, 13] [0, 11, 12, 13, 1, 2, 3, 4, 5, 6, 7, 8, 9, 10] rfl (by decide) (wr := [(h0, .inr (0, [.ref hp, .ref pl, .ref en, .int rk])), (pl, .inr (2, [.ref po, .int (nI ht)])), (po, .inl (cI, 8, .inl fp)), (en, .inr (3, [.ref eo, .ref sb, .int (nI len)])), (eo, .inl (cI, 5, .inl fe)), (sb, .inl (cG, 5, .inr (.inr (.inr (.inr (fun uu => some (rr uu))))))), (rr 0, .inl (cI, 4, .inl (M 0))), (rr 1, .inl (cI, 4, .inl (M 1))), (rr 2, .inl (cI, 4, .inl (M 2))), (rr 3, .inl (cI, 4, .inl (M 3))), (rr 4, .inl (cI, 4, .inl (M 4)))]) rfl (by decide) (by decide) (ws' := [(h0, .inr (0, [.ref hp, .ref pl, .ref en, .int rk])), (hp, .inr (1, [.ref ow, .ref wo, .int (nI md)])), (ow, .inl (cI, 48, .inl fo)), (wo, .inl (cI, 48, .inl fw)), (pl, .inr (2, [.ref po, .int (nI ht)])), (po, .inl (cI, 8, .inl fp)), (en, .inr (3, [.ref eo, .ref sb, .int (nI len)])), (eo, .inl (cI, 5, .inl fe)), (sb, .inl (cG, 5, .inr (.inr (.inr (.inr (fun uu => some (rr uu))))))), (rr 0, .inl (cI, 4, .inl (M 0))), (rr 1, .inl (cI, 4, .inl (M 1))), (rr 2, .inl (cI, 4, .inl (M 2))), (rr 3, .inl (cI, 4, .inl (M 3))), (rr 4, .inl (cI, 4, .inl (M 4)))]) rfl (by decide) rfl hl.1 rfl (Nat.le_of_ble_eq_true rfl) d_X_firstUnheld_28 (fun H locs hP hD hS => ?_)
            refine zz_callI (np := 1) hx hb hml hown hts hK hP hD hS hA (c_Places_hold l D cI pl po fp ht (fo i) (by omega)) (zz_gv kw_51 kw_52 kw_53 kw_38 kc_50) (by decide +kernel) rfl rfl ⟨Nat.le_of_ble_eq_true rfl, Nat.le_of_ble_eq_true rfl⟩ ⟨Nat.zero_le _, Nat.zero_le _⟩ [0] rfl 4 2 rfl rfl rfl [4, 5] [0, 1, 2, 3, 6, 7, 8, 9, 10, 11, 12, 13] [0, 1, 2, 3, 12, 13, 4, 5, 6, 7, 8, 9, 10, 11] rfl (by decide) (wr := [(h0, .inr (0, [.ref hp, .ref pl, .ref en, .int rk])), (hp, .inr (1, [.ref ow, .ref wo, .int (nI md)])), (ow, .inl (cI, 48, .inl fo)), (wo, .inl (cI, 48, .inl fw)), (en, .inr (3, [.ref eo, .ref sb, .int (nI len)])), (eo, .inl (cI, 5, .inl fe)), (sb, .inl (cG, 5, .inr (.inr (.inr (.inr (fun uu => some (rr uu))))))), (rr 0, .inl (cI, 4, .inl (M 0))), (rr 1, .inl (cI, 4, .inl (M 1))), (rr 2, .inl (cI, 4, .inl (M 2))), (rr 3, .inl (cI, 4, .inl (M 3))), (rr 4, .inl (cI, 4, .inl (M 4)))]) rfl (by decide) (by decide) (ws' := [(h0, .inr (0, [.ref hp, .ref pl, .ref en, .int rk])), (hp, .inr (1, [.ref ow, .ref wo, .int (nI md)])), (ow, .inl (cI, 48, .inl fo)), (wo, .inl (cI, 48, .inl fw)), (pl, .inr (2, [.ref po, .int (nI ht)])), (po, .inl (cI, 8, .inl fp)), (en, .inr (3, [.ref eo, .ref sb, .int (nI len)])), (eo, .inl (cI, 5, .inl fe)), (sb, .inl (cG, 5, .inr (.inr (.inr (.inr (fun uu => some (rr uu))))))), (rr 0, .inl (cI, 4, .inl (M 0))), (rr 1, .inl (cI, 4, .inl (M 1))), (rr 2, .inl (cI, 4, .inl (M 2))), (rr 3, .inl (cI, 4, .inl (M 3))), (rr 4, .inl (cI, 4, .inl (M 4)))]) rfl (by decide) rfl hl.1 rfl (Nat.le_of_ble_eq_true rfl) d_X_firstUnheld_31 (fun H locs hP hD hS => ?_)
            refine zz_bI (fun h31 => ?_) (fun h31 => ?_)
            · skip
              refine zz_if_ne (tgt := 39) hx hb (by omega) d_X_firstUnheld_34 (by decide) (fun c34 => ?_) (fun c34 => ?_)
              · skip
                refine lv_iinc (v := nI (i + 1)) (lv' := [(1, .int (nI (i + 1))), (0, .ref h0)]) hx hb d_X_firstUnheld_39 hl (k := 1) rfl (nI_1 _) (by decide) rfl (fun ls hl => ?_)
                refine lv_goto (tgt := 2) hx hb d_X_firstUnheld_42 (by decide) ?_
                exact ih2 (i + 1) (by omega) (by omega) (lc_lt1 (P := fun j => (lc_isU fo fw j && !lc_on fp ht (fo j)) = false) hn (by simp [*])) _ _ hP hD hS _ (lv_sub hl [1, 0] rfl)
              · skip
                exact absurd c34 (by omega)
            · skip
              refine zz_if_ne (tgt := 39) hx hb (by omega) d_X_firstUnheld_34 (by decide) (fun c34 => ?_) (fun c34 => ?_)
              · skip
                exact absurd c34 (by omega)
              · skip
                refine lv_iload_n hx hb d_X_firstUnheld_37 rfl (lv_at hl 1 rfl) ?_
                refine zz_top (z := lc_oI (lc_un fo fw fp ht)) (by first | exact lc_un_i (by omega) (by simp [*]) hn | exact lc_un_n (by omega) hn) ?_
                exact hret _ _ _ _ d_X_firstUnheld_38 hP hD hS
        · skip
          refine zz_if_eq (tgt := 39) hx hb (by omega) d_X_firstUnheld_16 (by decide) (fun c16 => ?_) (fun c16 => ?_)
          · skip
            refine lv_iinc (v := nI (i + 1)) (lv' := [(1, .int (nI (i + 1))), (0, .ref h0)]) hx hb d_X_firstUnheld_39 hl (k := 1) rfl (nI_1 _) (by decide) rfl (fun ls hl => ?_)
            refine lv_goto (tgt := 2) hx hb d_X_firstUnheld_42 (by decide) ?_
            exact ih2 (i + 1) (by omega) (by omega) (lc_lt1 (P := fun j => (lc_isU fo fw j && !lc_on fp ht (fo j)) = false) hn (by simp [*])) _ _ hP hD hS _ (lv_sub hl [1, 0] rfl)
          · skip
            exact absurd c16 (by omega)
  exact loop2 49 0 (by omega) (by omega) (fun j hj => by omega) _ _ hP hD hS _ (lv_sub hl [1, 0] rfl)
set_option maxHeartbeats 4000000 in
set_option maxRecDepth 100000 in
theorem c_X_freeUnheld (l : Launch) (D : va_G) (cI : ClassId) (cG : ClassId) (h0 : Nat) (hp : Nat) (ow : Nat) (wo : Nat) (pl : Nat) (po : Nat) (en : Nat) (eo : Nat) (sb : Nat) (rr : Nat → Nat) (fo : lc_A) (fw : lc_A) (md : Nat) (fp : lc_A) (ht : Nat) (fe : lc_A) (M : Nat → lc_A) (len : Nat) (rk : Int32) (hht : ht ≤ 8) : zz_MI l y_X_freeUnheld b_X_freeUnheld 3 .int ({ frames := 3, cells := 0, slots := 0, locals := 68 } : Room) D [(cI, .int), (cG, .array .int)] [.ref h0] [(h0, .inr (0, [.ref hp, .ref pl, .ref en, .int rk])), (hp, .inr (1, [.ref ow, .ref wo, .int (nI md)])), (ow, .inl (cI, 48, .inl fo)), (wo, .inl (cI, 48, .inl fw)), (pl, .inr (2, [.ref po, .int (nI ht)])), (po, .inl (cI, 8, .inl fp)), (en, .inr (3, [.ref eo, .ref sb, .int (nI len)])), (eo, .inl (cI, 5, .inl fe)), (sb, .inl (cG, 5, .inr (.inr (.inr (.inr (fun uu => some (rr uu))))))), (rr 0, .inl (cI, 4, .inl (M 0))), (rr 1, .inl (cI, 4, .inl (M 1))), (rr 2, .inl (cI, 4, .inl (M 2))), (rr 3, .inl (cI, 4, .inl (M 3))), (rr 4, .inl (cI, 4, .inl (M 4)))] (nI ((lc_fr fp ht 48 fo fw).2.2)) [(h0, .inr (0, [.ref hp, .ref pl, .ref en, .int rk])), (hp, .inr (1, [.ref ow, .ref wo, .int (nI md)])), (ow, .inl (cI, 48, .inl ((lc_fr fp ht 48 fo fw).1))), (wo, .inl (cI, 48, .inl ((lc_fr fp ht 48 fo fw).2.1))), (pl, .inr (2, [.ref po, .int (nI ht)])), (po, .inl (cI, 8, .inl fp)), (en, .inr (3, [.ref eo, .ref sb, .int (nI len)])), (eo, .inl (cI, 5, .inl fe)), (sb, .inl (cG, 5, .inr (.inr (.inr (.inr (fun uu => some (rr uu))))))), (rr 0, .inl (cI, 4, .inl (M 0))), (rr 1, .inl (cI, 4, .inl (M 1))), (rr 2, .inl (cI, 4, .inl (M 2))), (rr 3, .inl (cI, 4, .inl (M 3))), (rr 4, .inl (cI, 4, .inl (M 4)))] := by
  refine zz_MI_of (by decide) (Nat.le_of_ble_eq_true rfl) (vp_nar_int _) ?_
  intro p e s m args below meth c A ls Q hx hb hml hown hts hK hP hD hS hA hl hret
  have hown : s.vm.findClass R_X = some m.cls := hown
  have hl : lv_has ls 3 [(0, .ref h0)] := hl
  refine lv_iconst (v := nI 0) hx hb d_X_freeUnheld_0 (by decide +kernel) ?_
  refine lv_istore_n (lv' := [(1, .int (nI 0)), (0, .ref h0)]) hx hb d_X_freeUnheld_1 rfl hl (by decide) rfl (fun ls hl => ?_)
  have loop2 : ∀ (fu : Nat) (k : Nat) (fo1 : lc_A) (fw1 : lc_A), 48 - k < fu → (hk : k ≤ 48) → (hE : (lc_fr fp ht (48 - k) fo1 fw1).1 = (lc_fr fp ht 48 fo fw).1 ∧ (lc_fr fp ht (48 - k) fo1 fw1).2.1 = (lc_fr fp ht 48 fo fw).2.1 ∧ k + (lc_fr fp ht (48 - k) fo1 fw1).2.2 = (lc_fr fp ht 48 fo fw).2.2) → ∀ (H : Heap) (locs : List Loc), va_P D classes [(h0, .inr (0, [.ref hp, .ref pl, .ref en, .int rk])), (hp, .inr (1, [.ref ow, .ref wo, .int (nI md)])), (ow, .inl (cI, 48, .inl fo1)), (wo, .inl (cI, 48, .inl fw1)), (pl, .inr (2, [.ref po, .int (nI ht)])), (po, .inl (cI, 8, .inl fp)), (en, .inr (3, [.ref eo, .ref sb, .int (nI len)])), (eo, .inl (cI, 5, .inl fe)), (sb, .inl (cG, 5, .inr (.inr (.inr (.inr (fun uu => some (rr uu))))))), (rr 0, .inl (cI, 4, .inl (M 0))), (rr 1, .inl (cI, 4, .inl (M 1))), (rr 2, .inl (cI, 4, .inl (M 2))), (rr 3, .inl (cI, 4, .inl (M 3))), (rr 4, .inl (cI, 4, .inl (M 4)))] H → va_D A [(h0, .inr (0, [.ref hp, .ref pl, .ref en, .int rk])), (hp, .inr (1, [.ref ow, .ref wo, .int (nI md)])), (ow, .inl (cI, 48, .inl fo1)), (wo, .inl (cI, 48, .inl fw1)), (pl, .inr (2, [.ref po, .int (nI ht)])), (po, .inl (cI, 8, .inl fp)), (en, .inr (3, [.ref eo, .ref sb, .int (nI len)])), (eo, .inl (cI, 5, .inl fe)), (sb, .inl (cG, 5, .inr (.inr (.inr (.inr (fun uu => some (rr uu))))))), (rr 0, .inl (cI, 4, .inl (M 0))), (rr 1, .inl (cI, 4, .inl (M 1))), (rr 2, .inl (cI, 4, .inl (M 2))), (rr 3, .inl (cI, 4, .inl (M 3))), (rr 4, .inl (cI, 4, .inl (M 4)))] → va_S A s.heap H locs → ∀ (ls : Array Slot), lv_has ls 3 [(0, .ref h0), (1, .int (nI k))] → W p l e ({ frames := 3, cells := 0, slots := 0, locals := 68 } : Room) s m args below meth c H locs 0 0 Q (F0 m 2 ls []) := by
    intro fu
    induction fu with
    | zero => intro k fo1 fw1 hf; omega
    | succ fu ih2 =>
      intro k fo1 fw1 hf hk hE H locs hP hD hS ls hl
      refine lv_iload_n hx hb d_X_freeUnheld_2 rfl (lv_at hl 1 rfl) ?_
      refine lv_bipush (v := nI 48) hx hb d_X_freeUnheld_3 (by decide +kernel) ?_
      refine zz_icmp_ge (tgt := 35) hx hb (by omega) (by omega) d_X_freeUnheld_5 (by decide) (fun c5 => ?_) (fun c5 => ?_)
      · skip
        refine lv_iload_n hx hb d_X_freeUnheld_35 rfl (lv_at hl 1 rfl) ?_
        refine zz_top (z := nI ((lc_fr fp ht 48 fo fw).2.2)) (by first | simp only [lc_fr_n (by assumption) hE] | simp only [lc_fr_e (by omega) hE]) ?_
        have eW : ([(h0, .inr (0, [.ref hp, .ref pl, .ref en, .int rk])), (hp, .inr (1, [.ref ow, .ref wo, .int (nI md)])), (ow, .inl (cI, 48, .inl fo1)), (wo, .inl (cI, 48, .inl fw1)), (pl, .inr (2, [.ref po, .int (nI ht)])), (po, .inl (cI, 8, .inl fp)), (en, .inr (3, [.ref eo, .ref sb, .int (nI len)])), (eo, .inl (cI, 5, .inl fe)), (sb, .inl (cG, 5, .inr (.inr (.inr (.inr (fun uu => some (rr uu))))))), (rr 0, .inl (cI, 4, .inl (M 0))), (rr 1, .inl (cI, 4, .inl (M 1))), (rr 2, .inl (cI, 4, .inl (M 2))), (rr 3, .inl (cI, 4, .inl (M 3))), (rr 4, .inl (cI, 4, .inl (M 4)))] : va_W) = [(h0, .inr (0, [.ref hp, .ref pl, .ref en, .int rk])), (hp, .inr (1, [.ref ow, .ref wo, .int (nI md)])), (ow, .inl (cI, 48, .inl ((lc_fr fp ht 48 fo fw).1))), (wo, .inl (cI, 48, .inl ((lc_fr fp ht 48 fo fw).2.1))), (pl, .inr (2, [.ref po, .int (nI ht)])), (po, .inl (cI, 8, .inl fp)), (en, .inr (3, [.ref eo, .ref sb, .int (nI len)])), (eo, .inl (cI, 5, .inl fe)), (sb, .inl (cG, 5, .inr (.inr (.inr (.inr (fun uu => some (rr uu))))))), (rr 0, .inl (cI, 4, .inl (M 0))), (rr 1, .inl (cI, 4, .inl (M 1))), (rr 2, .inl (cI, 4, .inl (M 2))), (rr 3, .inl (cI, 4, .inl (M 3))), (rr 4, .inl (cI, 4, .inl (M 4)))] := by first | simp only [lc_fr_n (by assumption) hE] | simp only [lc_fr_e (by omega) hE]
        exact hret _ _ _ _ d_X_freeUnheld_36 (zz_toP eW hP) (zz_toD eW hD) hS
      · skip
        refine lv_aload_n hx hb d_X_freeUnheld_8 rfl (lv_at hl 0 rfl) ?_
        refine zz_callI (np := 0) hx hb hml hown hts hK hP hD hS hA (c_X_firstUnheld l D cI cG h0 hp ow wo pl po en eo sb rr fo1 fw1 md fp ht fe M len rk (by omega)) (zz_gv kw_55 kw_56 kw_57 kw_58 kc_54) (by decide +kernel) rfl rfl ⟨Nat.le_of_ble_eq_true rfl, Nat.le_of_ble_eq_true rfl⟩ ⟨Nat.zero_le _, Nat.zero_le _⟩ [0, 1] rfl 0 0 rfl rfl rfl [0, 1, 2, 3, 4, 5, 6, 7, 8, 9, 10, 11, 12, 13] [] [0, 1, 2, 3, 4, 5, 6, 7, 8, 9, 10, 11, 12, 13] rfl (by decide) (wr := []) rfl (by decide) (by decide) (ws' := [(h0, .inr (0, [.ref hp, .ref pl, .ref en, .int rk])), (hp, .inr (1, [.ref ow, .ref wo, .int (nI md)])), (ow, .inl (cI, 48, .inl fo1)), (wo, .inl (cI, 48, .inl fw1)), (pl, .inr (2, [.ref po, .int (nI ht)])), (po, .inl (cI, 8, .inl fp)), (en, .inr (3, [.ref eo, .ref sb, .int (nI len)])), (eo, .inl (cI, 5, .inl fe)), (sb, .inl (cG, 5, .inr (.inr (.inr (.inr (fun uu => some (rr uu))))))), (rr 0, .inl (cI, 4, .inl (M 0))), (rr 1, .inl (cI, 4, .inl (M 1))), (rr 2, .inl (cI, 4, .inl (M 2))), (rr 3, .inl (cI, 4, .inl (M 3))), (rr 4, .inl (cI, 4, .inl (M 4)))]) rfl (by decide) rfl hl.1 rfl (Nat.le_of_ble_eq_true rfl) d_X_freeUnheld_9 (fun H locs hP hD hS => ?_)
        refine zz_oI (fun h9 => ?_) (fun k9 h9 => ?_)
        · skip
          refine lv_istore_n (lv' := [(2, .int (-1)), (0, .ref h0), (1, .int (nI k))]) hx hb d_X_freeUnheld_12 rfl hl (by decide) rfl (fun ls hl => ?_)
          refine lv_iload_n hx hb d_X_freeUnheld_13 rfl (lv_at hl 0 rfl) ?_
          refine lv_iconst (v := (-1)) hx hb d_X_freeUnheld_14 (by decide +kernel) ?_
          refine lv_icmp_ne (tgt := 21) hx hb d_X_freeUnheld_15 (by decide) (fun c15 => ?_) (fun c15 => ?_)
          · skip
            exact absurd rfl c15
          · skip
            refine lv_goto (tgt := 35) hx hb d_X_freeUnheld_18 (by decide) ?_
            refine lv_iload_n hx hb d_X_freeUnheld_35 rfl (lv_at hl 2 rfl) ?_
            refine zz_top (z := nI ((lc_fr fp ht 48 fo fw).2.2)) (by first | simp only [lc_fr_n (by assumption) hE] | simp only [lc_fr_e (by omega) hE]) ?_
            have eW : ([(h0, .inr (0, [.ref hp, .ref pl, .ref en, .int rk])), (hp, .inr (1, [.ref ow, .ref wo, .int (nI md)])), (ow, .inl (cI, 48, .inl fo1)), (wo, .inl (cI, 48, .inl fw1)), (pl, .inr (2, [.ref po, .int (nI ht)])), (po, .inl (cI, 8, .inl fp)), (en, .inr (3, [.ref eo, .ref sb, .int (nI len)])), (eo, .inl (cI, 5, .inl fe)), (sb, .inl (cG, 5, .inr (.inr (.inr (.inr (fun uu => some (rr uu))))))), (rr 0, .inl (cI, 4, .inl (M 0))), (rr 1, .inl (cI, 4, .inl (M 1))), (rr 2, .inl (cI, 4, .inl (M 2))), (rr 3, .inl (cI, 4, .inl (M 3))), (rr 4, .inl (cI, 4, .inl (M 4)))] : va_W) = [(h0, .inr (0, [.ref hp, .ref pl, .ref en, .int rk])), (hp, .inr (1, [.ref ow, .ref wo, .int (nI md)])), (ow, .inl (cI, 48, .inl ((lc_fr fp ht 48 fo fw).1))), (wo, .inl (cI, 48, .inl ((lc_fr fp ht 48 fo fw).2.1))), (pl, .inr (2, [.ref po, .int (nI ht)])), (po, .inl (cI, 8, .inl fp)), (en, .inr (3, [.ref eo, .ref sb, .int (nI len)])), (eo, .inl (cI, 5, .inl fe)), (sb, .inl (cG, 5, .inr (.inr (.inr (.inr (fun uu => some (rr uu))))))), (rr 0, .inl (cI, 4, .inl (M 0))), (rr 1, .inl (cI, 4, .inl (M 1))), (rr 2, .inl (cI, 4, .inl (M 2))), (rr 3, .inl (cI, 4, .inl (M 3))), (rr 4, .inl (cI, 4, .inl (M 4)))] := by first | simp only [lc_fr_n (by assumption) hE] | simp only [lc_fr_e (by omega) hE]
            exact hret _ _ _ _ d_X_freeUnheld_36 (zz_toP eW hP) (zz_toD eW hD) hS
        · skip
          have hk48 := lc_un_lt h9
          refine lv_istore_n (lv' := [(2, .int (nI k9)), (0, .ref h0), (1, .int (nI k))]) hx hb d_X_freeUnheld_12 rfl hl (by decide) rfl (fun ls hl => ?_)
          refine lv_iload_n hx hb d_X_freeUnheld_13 rfl (lv_at hl 0 rfl) ?_
          refine lv_iconst (v := (-1)) hx hb d_X_freeUnheld_14 (by decide +kernel) ?_
          refine lv_icmp_ne (tgt := 21) hx hb d_X_freeUnheld_15 (by decide) (fun c15 => ?_) (fun c15 => ?_)
          · skip
            refine lv_aload_n hx hb d_X_freeUnheld_21 rfl (lv_at hl 1 rfl) ?_
            refine va_get (D := D) (ci := 0) (v := .ref hp) (C := R_X) (T := F_X) (N := 4) hx hb hts i_X hown hK hP 0 rfl rfl 0 (by decide) (hts _ kw_39) (fun _ h9 => h9) rfl d_X_freeUnheld_22 ?_
            refine lv_iload_n hx hb d_X_freeUnheld_25 rfl (lv_at hl 0 rfl) ?_
            refine zz_callV (np := 1) hx hb hml hown hts hK hP hD hS hA (c_Heap_giveBack l D cI hp ow wo fo1 fw1 md k9 (by omega)) (zz_gv kw_60 kw_61 kw_62 kw_6 kc_59) (by decide +kernel) rfl rfl ⟨Nat.le_of_ble_eq_true rfl, Nat.le_of_ble_eq_true rfl⟩ ⟨Nat.zero_le _, Nat.zero_le _⟩ [0] rfl 1 1 rfl rfl rfl [1, 2, 3] [0, 4, 5, 6, 7, 8, 9, 10, 11, 12, 13] [0, 11, 12, 13, 1, 2, 3, 4, 5, 6, 7, 8, 9, 10] rfl (by decide) (wr := [(h0, .inr (0, [.ref hp, .ref pl, .ref en, .int rk])), (pl, .inr (2, [.ref po, .int (nI ht)])), (po, .inl (cI, 8, .inl fp)), (en, .inr (3, [.ref eo, .ref sb, .int (nI len)])), (eo, .inl (cI, 5, .inl fe)), (sb, .inl (cG, 5, .inr (.inr (.inr (.inr (fun uu => some (rr uu))))))), (rr 0, .inl (cI, 4, .inl (M 0))), (rr 1, .inl (cI, 4, .inl (M 1))), (rr 2, .inl (cI, 4, .inl (M 2))), (rr 3, .inl (cI, 4, .inl (M 3))), (rr 4, .inl (cI, 4, .inl (M 4)))]) rfl (by decide) (by decide) (ws' := [(h0, .inr (0, [.ref hp, .ref pl, .ref en, .int rk])), (hp, .inr (1, [.ref ow, .ref wo, .int (nI md)])), (ow, .inl (cI, 48, .inl (lc_fill fo1 k9 (lc_sa fo1 k9 + 1) 0))), (wo, .inl (cI, 48, .inl (lc_gb fo1 fw1 k9 (lc_sa fo1 k9)))), (pl, .inr (2, [.ref po, .int (nI ht)])), (po, .inl (cI, 8, .inl fp)), (en, .inr (3, [.ref eo, .ref sb, .int (nI len)])), (eo, .inl (cI, 5, .inl fe)), (sb, .inl (cG, 5, .inr (.inr (.inr (.inr (fun uu => some (rr uu))))))), (rr 0, .inl (cI, 4, .inl (M 0))), (rr 1, .inl (cI, 4, .inl (M 1))), (rr 2, .inl (cI, 4, .inl (M 2))), (rr 3, .inl (cI, 4, .inl (M 3))), (rr 4, .inl (cI, 4, .inl (M 4)))]) rfl (by decide) rfl hl.1 rfl (Nat.le_of_ble_eq_true rfl) d_X_freeUnheld_26 (fun H locs hP hD hS => ?_)
            refine lv_iinc (v := nI (k + 1)) (lv' := [(1, .int (nI (k + 1))), (2, .int (nI k9)), (0, .ref h0)]) hx hb d_X_freeUnheld_29 hl (k := 2) rfl (nI_1 _) (by decide) rfl (fun ls hl => ?_)
            refine lv_goto (tgt := 2) hx hb d_X_freeUnheld_32 (by decide) ?_
            exact ih2 (k + 1) (lc_fill fo1 k9 (lc_sa fo1 k9 + 1) 0) (lc_gb fo1 fw1 k9 (lc_sa fo1 k9)) (by omega) (by omega) (lc_fr_s (by omega) (by assumption) hE) _ _ hP hD hS _ (lv_sub hl [2, 0] rfl)
          · skip
            exact absurd c15 (zz_nm1 (by omega))
  exact loop2 49 0 fo fw (by omega) (by omega) (⟨rfl, rfl, Nat.zero_add _⟩) _ _ hP hD hS _ (lv_sub hl [1, 0] rfl)
set_option maxHeartbeats 4000000 in
set_option maxRecDepth 100000 in
theorem c_X_countChangesOf (l : Launch) (D : va_G) (cI : ClassId) (cG : ClassId) (h0 : Nat) (hp : Nat) (ow : Nat) (wo : Nat) (pl : Nat) (po : Nat) (en : Nat) (eo : Nat) (sb : Nat) (rr : Nat → Nat) (fo : lc_A) (fw : lc_A) (md : Nat) (fp : lc_A) (ht : Nat) (fe : lc_A) (M : Nat → lc_A) (len : Nat) (rk : Int32) (k : Nat) (hk : k < 5) (h4 : lc_sao fo (lc_first fo (fe k)) ≤ 4) : zz_MV l y_X_countChangesOf b_X_countChangesOf 5 ({ frames := 2, cells := 0, slots := 0, locals := 45 } : Room) D [(cI, .int), (cG, .array .int)] [.ref h0, .int (nI k)] [(h0, .inr (0, [.ref hp, .ref pl, .ref en, .int rk])), (hp, .inr (1, [.ref ow, .ref wo, .int (nI md)])), (ow, .inl (cI, 48, .inl fo)), (wo, .inl (cI, 48, .inl fw)), (pl, .inr (2, [.ref po, .int (nI ht)])), (po, .inl (cI, 8, .inl fp)), (en, .inr (3, [.ref eo, .ref sb, .int (nI len)])), (eo, .inl (cI, 5, .inl fe)), (sb, .inl (cG, 5, .inr (.inr (.inr (.inr (fun uu => some (rr uu))))))), (rr 0, .inl (cI, 4, .inl (M 0))), (rr 1, .inl (cI, 4, .inl (M 1))), (rr 2, .inl (cI, 4, .inl (M 2))), (rr 3, .inl (cI, 4, .inl (M 3))), (rr 4, .inl (cI, 4, .inl (M 4)))] [(h0, .inr (0, [.ref hp, .ref pl, .ref en, .int rk])), (hp, .inr (1, [.ref ow, .ref wo, .int (nI md)])), (ow, .inl (cI, 48, .inl fo)), (wo, .inl (cI, 48, .inl (lc_cco fo (lc_first fo (fe k)) (M k) fw))), (pl, .inr (2, [.ref po, .int (nI ht)])), (po, .inl (cI, 8, .inl fp)), (en, .inr (3, [.ref eo, .ref sb, .int (nI len)])), (eo, .inl (cI, 5, .inl fe)), (sb, .inl (cG, 5, .inr (.inr (.inr (.inr (fun uu => some (rr uu))))))), (rr 0, .inl (cI, 4, .inl (M 0))), (rr 1, .inl (cI, 4, .inl (M 1))), (rr 2, .inl (cI, 4, .inl (M 2))), (rr 3, .inl (cI, 4, .inl (M 3))), (rr 4, .inl (cI, 4, .inl (M 4)))] := by
  refine zz_MV_of (by decide) (Nat.le_of_ble_eq_true rfl) ?_
  intro p e s m args below meth c A ls Q hx hb hml hown hts hK hP hD hS hA hl hret
  have hown : s.vm.findClass R_X = some m.cls := hown
  have hl : lv_has ls 5 [(0, .ref h0), (1, .int (nI k))] := hl
  refine lv_aload_n hx hb d_X_countChangesOf_0 rfl (lv_at hl 0 rfl) ?_
  refine va_get (D := D) (ci := 0) (v := .ref hp) (C := R_X) (T := F_X) (N := 4) hx hb hts i_X hown hK hP 0 rfl rfl 0 (by decide) (hts _ kw_39) (fun _ h9 => h9) rfl d_X_countChangesOf_1 ?_
  refine lv_aload_n hx hb d_X_countChangesOf_4 rfl (lv_at hl 0 rfl) ?_
  refine va_get (D := D) (ci := 0) (v := .ref en) (C := R_X) (T := F_X) (N := 4) hx hb hts i_X hown hK hP 0 rfl rfl 2 (by decide) (hts _ kw_63) (fun _ h9 => h9) rfl d_X_countChangesOf_5 ?_
  refine lv_iload_n hx hb d_X_countChangesOf_8 rfl (lv_at hl 1 rfl) ?_
  refine zz_callI (np := 1) hx hb hml hown hts hK hP hD hS hA (c_Entries_objectOf l D cI cG en eo sb rr fe M len k (by omega)) (zz_gv kw_65 kw_66 kw_67 kw_68 kc_64) (by decide +kernel) rfl rfl ⟨Nat.le_of_ble_eq_true rfl, Nat.le_of_ble_eq_true rfl⟩ ⟨Nat.zero_le _, Nat.zero_le _⟩ [0, 1] rfl 6 3 rfl rfl rfl [6, 7, 8, 9, 10, 11, 12, 13] [0, 1, 2, 3, 4, 5] [0, 1, 2, 3, 4, 5, 6, 7, 8, 9, 10, 11, 12, 13] rfl (by decide) (wr := [(h0, .inr (0, [.ref hp, .ref pl, .ref en, .int rk])), (hp, .inr (1, [.ref ow, .ref wo, .int (nI md)])), (ow, .inl (cI, 48, .inl fo)), (wo, .inl (cI, 48, .inl fw)), (pl, .inr (2, [.ref po, .int (nI ht)])), (po, .inl (cI, 8, .inl fp))]) rfl (by decide) (by decide) (ws' := [(h0, .inr (0, [.ref hp, .ref pl, .ref en, .int rk])), (hp, .inr (1, [.ref ow, .ref wo, .int (nI md)])), (ow, .inl (cI, 48, .inl fo)), (wo, .inl (cI, 48, .inl fw)), (pl, .inr (2, [.ref po, .int (nI ht)])), (po, .inl (cI, 8, .inl fp)), (en, .inr (3, [.ref eo, .ref sb, .int (nI len)])), (eo, .inl (cI, 5, .inl fe)), (sb, .inl (cG, 5, .inr (.inr (.inr (.inr (fun uu => some (rr uu))))))), (rr 0, .inl (cI, 4, .inl (M 0))), (rr 1, .inl (cI, 4, .inl (M 1))), (rr 2, .inl (cI, 4, .inl (M 2))), (rr 3, .inl (cI, 4, .inl (M 3))), (rr 4, .inl (cI, 4, .inl (M 4)))]) rfl (by decide) rfl hl.1 rfl (Nat.le_of_ble_eq_true rfl) d_X_countChangesOf_9 (fun H locs hP hD hS => ?_)
  refine zz_callI (np := 1) hx hb hml hown hts hK hP hD hS hA (c_Heap_firstCellOf l D cI hp ow wo fo fw md (fe k) ) (zz_gv kw_44 kw_17 kw_18 kw_6 kc_15) (by decide +kernel) rfl rfl ⟨Nat.le_of_ble_eq_true rfl, Nat.le_of_ble_eq_true rfl⟩ ⟨Nat.zero_le _, Nat.zero_le _⟩ [0] rfl 1 1 rfl rfl rfl [1, 2, 3] [0, 4, 5, 6, 7, 8, 9, 10, 11, 12, 13] [0, 11, 12, 13, 1, 2, 3, 4, 5, 6, 7, 8, 9, 10] rfl (by decide) (wr := [(h0, .inr (0, [.ref hp, .ref pl, .ref en, .int rk])), (pl, .inr (2, [.ref po, .int (nI ht)])), (po, .inl (cI, 8, .inl fp)), (en, .inr (3, [.ref eo, .ref sb, .int (nI len)])), (eo, .inl (cI, 5, .inl fe)), (sb, .inl (cG, 5, .inr (.inr (.inr (.inr (fun uu => some (rr uu))))))), (rr 0, .inl (cI, 4, .inl (M 0))), (rr 1, .inl (cI, 4, .inl (M 1))), (rr 2, .inl (cI, 4, .inl (M 2))), (rr 3, .inl (cI, 4, .inl (M 3))), (rr 4, .inl (cI, 4, .inl (M 4)))]) rfl (by decide) (by decide) (ws' := [(h0, .inr (0, [.ref hp, .ref pl, .ref en, .int rk])), (hp, .inr (1, [.ref ow, .ref wo, .int (nI md)])), (ow, .inl (cI, 48, .inl fo)), (wo, .inl (cI, 48, .inl fw)), (pl, .inr (2, [.ref po, .int (nI ht)])), (po, .inl (cI, 8, .inl fp)), (en, .inr (3, [.ref eo, .ref sb, .int (nI len)])), (eo, .inl (cI, 5, .inl fe)), (sb, .inl (cG, 5, .inr (.inr (.inr (.inr (fun uu => some (rr uu))))))), (rr 0, .inl (cI, 4, .inl (M 0))), (rr 1, .inl (cI, 4, .inl (M 1))), (rr 2, .inl (cI, 4, .inl (M 2))), (rr 3, .inl (cI, 4, .inl (M 3))), (rr 4, .inl (cI, 4, .inl (M 4)))]) rfl (by decide) rfl hl.1 rfl (Nat.le_of_ble_eq_true rfl) d_X_countChangesOf_12 (fun H locs hP hD hS => ?_)
  refine zz_oI (fun h12 => ?_) (fun a h12 => ?_)
  · skip
    refine lv_istore_n (lv' := [(2, .int (-1)), (0, .ref h0), (1, .int (nI k))]) hx hb d_X_countChangesOf_15 rfl hl (by decide) rfl (fun ls hl => ?_)
    refine lv_aload_n hx hb d_X_countChangesOf_16 rfl (lv_at hl 1 rfl) ?_
    refine va_get (D := D) (ci := 0) (v := .ref hp) (C := R_X) (T := F_X) (N := 4) hx hb hts i_X hown hK hP 0 rfl rfl 0 (by decide) (hts _ kw_39) (fun _ h9 => h9) rfl d_X_countChangesOf_17 ?_
    refine lv_iload_n hx hb d_X_countChangesOf_20 rfl (lv_at hl 0 rfl) ?_
    refine zz_callI (np := 1) hx hb hml hown hts hK hP hD hS hA (c_Heap_slotsAt_n l D cI hp ow wo fo fw md ) (zz_gv kw_69 kw_9 kw_10 kw_6 kc_7) (by decide +kernel) rfl rfl ⟨Nat.le_of_ble_eq_true rfl, Nat.le_of_ble_eq_true rfl⟩ ⟨Nat.zero_le _, Nat.zero_le _⟩ [0] rfl 1 1 rfl rfl rfl [1, 2, 3] [0, 4, 5, 6, 7, 8, 9, 10, 11, 12, 13] [0, 11, 12, 13, 1, 2, 3, 4, 5, 6, 7, 8, 9, 10] rfl (by decide) (wr := [(h0, .inr (0, [.ref hp, .ref pl, .ref en, .int rk])), (pl, .inr (2, [.ref po, .int (nI ht)])), (po, .inl (cI, 8, .inl fp)), (en, .inr (3, [.ref eo, .ref sb, .int (nI len)])), (eo, .inl (cI, 5, .inl fe)), (sb, .inl (cG, 5, .inr (.inr (.inr (.inr (fun uu => some (rr uu))))))), (rr 0, .inl (cI, 4, .inl (M 0))), (rr 1, .inl (cI, 4, .inl (M 1))), (rr 2, .inl (cI, 4, .inl (M 2))), (rr 3, .inl (cI, 4, .inl (M 3))), (rr 4, .inl (cI, 4, .inl (M 4)))]) rfl (by decide) (by decide) (ws' := [(h0, .inr (0, [.ref hp, .ref pl, .ref en, .int rk])), (hp, .inr (1, [.ref ow, .ref wo, .int (nI md)])), (ow, .inl (cI, 48, .inl fo)), (wo, .inl (cI, 48, .inl fw)), (pl, .inr (2, [.ref po, .int (nI ht)])), (po, .inl (cI, 8, .inl fp)), (en, .inr (3, [.ref eo, .ref sb, .int (nI len)])), (eo, .inl (cI, 5, .inl fe)), (sb, .inl (cG, 5, .inr (.inr (.inr (.inr (fun uu => some (rr uu))))))), (rr 0, .inl (cI, 4, .inl (M 0))), (rr 1, .inl (cI, 4, .inl (M 1))), (rr 2, .inl (cI, 4, .inl (M 2))), (rr 3, .inl (cI, 4, .inl (M 3))), (rr 4, .inl (cI, 4, .inl (M 4)))]) rfl (by decide) rfl hl.1 rfl (Nat.le_of_ble_eq_true rfl) d_X_countChangesOf_21 (fun H locs hP hD hS => ?_)
    refine lv_istore_n (lv' := [(3, .int (nI 0)), (2, .int (-1)), (0, .ref h0), (1, .int (nI k))]) hx hb d_X_countChangesOf_24 rfl hl (by decide) rfl (fun ls hl => ?_)
    refine lv_iconst (v := nI 0) hx hb d_X_countChangesOf_25 (by decide +kernel) ?_
    refine lv_istore (lv' := [(4, .int (nI 0)), (3, .int (nI 0)), (2, .int (-1)), (0, .ref h0), (1, .int (nI k))]) hx hb d_X_countChangesOf_26 hl (by decide) rfl (fun ls hl => ?_)
    refine lv_iload hx hb d_X_countChangesOf_28 (lv_at hl 0 rfl) ?_
    refine lv_iload_n hx hb d_X_countChangesOf_30 rfl (lv_at hl 1 rfl) ?_
    refine zz_icmp_ge (tgt := 76) hx hb (by omega) (by omega) d_X_countChangesOf_31 (by decide) (fun c31 => ?_) (fun c31 => ?_)
    · skip
      have eW : ([(h0, .inr (0, [.ref hp, .ref pl, .ref en, .int rk])), (hp, .inr (1, [.ref ow, .ref wo, .int (nI md)])), (ow, .inl (cI, 48, .inl fo)), (wo, .inl (cI, 48, .inl fw)), (pl, .inr (2, [.ref po, .int (nI ht)])), (po, .inl (cI, 8, .inl fp)), (en, .inr (3, [.ref eo, .ref sb, .int (nI len)])), (eo, .inl (cI, 5, .inl fe)), (sb, .inl (cG, 5, .inr (.inr (.inr (.inr (fun uu => some (rr uu))))))), (rr 0, .inl (cI, 4, .inl (M 0))), (rr 1, .inl (cI, 4, .inl (M 1))), (rr 2, .inl (cI, 4, .inl (M 2))), (rr 3, .inl (cI, 4, .inl (M 3))), (rr 4, .inl (cI, 4, .inl (M 4)))] : va_W) = [(h0, .inr (0, [.ref hp, .ref pl, .ref en, .int rk])), (hp, .inr (1, [.ref ow, .ref wo, .int (nI md)])), (ow, .inl (cI, 48, .inl fo)), (wo, .inl (cI, 48, .inl (lc_cco fo (lc_first fo (fe k)) (M k) fw))), (pl, .inr (2, [.ref po, .int (nI ht)])), (po, .inl (cI, 8, .inl fp)), (en, .inr (3, [.ref eo, .ref sb, .int (nI len)])), (eo, .inl (cI, 5, .inl fe)), (sb, .inl (cG, 5, .inr (.inr (.inr (.inr (fun uu => some (rr uu))))))), (rr 0, .inl (cI, 4, .inl (M 0))), (rr 1, .inl (cI, 4, .inl (M 1))), (rr 2, .inl (cI, 4, .inl (M 2))), (rr 3, .inl (cI, 4, .inl (M 3))), (rr 4, .inl (cI, 4, .inl (M 4)))] := by first | (simp only [lc_cco, h12]; done) | (simp only [lc_cco, h12]; rw [show j = lc_sa fo a by omega])
      exact hret _ _ _ _ d_X_countChangesOf_76 (zz_toP eW hP) (zz_toD eW hD) hS
    · skip
      exact absurd c31 (by omega)
  · skip
    have ha := (lc_first_lt h12).1
    have h4a : lc_sa fo a ≤ 4 := by rw [h12] at h4; exact h4
    have hsa := lc_sa_le fo a
    refine lv_istore_n (lv' := [(2, .int (nI a)), (0, .ref h0), (1, .int (nI k))]) hx hb d_X_countChangesOf_15 rfl hl (by decide) rfl (fun ls hl => ?_)
    refine lv_aload_n hx hb d_X_countChangesOf_16 rfl (lv_at hl 1 rfl) ?_
    refine va_get (D := D) (ci := 0) (v := .ref hp) (C := R_X) (T := F_X) (N := 4) hx hb hts i_X hown hK hP 0 rfl rfl 0 (by decide) (hts _ kw_39) (fun _ h9 => h9) rfl d_X_countChangesOf_17 ?_
    refine lv_iload_n hx hb d_X_countChangesOf_20 rfl (lv_at hl 0 rfl) ?_
    refine zz_callI (np := 1) hx hb hml hown hts hK hP hD hS hA (c_Heap_slotsAt_s l D cI hp ow wo fo fw md a (by omega)) (zz_gv kw_69 kw_9 kw_10 kw_6 kc_7) (by decide +kernel) rfl rfl ⟨Nat.le_of_ble_eq_true rfl, Nat.le_of_ble_eq_true rfl⟩ ⟨Nat.zero_le _, Nat.zero_le _⟩ [0] rfl 1 1 rfl rfl rfl [1, 2, 3] [0, 4, 5, 6, 7, 8, 9, 10, 11, 12, 13] [0, 11, 12, 13, 1, 2, 3, 4, 5, 6, 7, 8, 9, 10] rfl (by decide) (wr := [(h0, .inr (0, [.ref hp, .ref pl, .ref en, .int rk])), (pl, .inr (2, [.ref po, .int (nI ht)])), (po, .inl (cI, 8, .inl fp)), (en, .inr (3, [.ref eo, .ref sb, .int (nI len)])), (eo, .inl (cI, 5, .inl fe)), (sb, .inl (cG, 5, .inr (.inr (.inr (.inr (fun uu => some (rr uu))))))), (rr 0, .inl (cI, 4, .inl (M 0))), (rr 1, .inl (cI, 4, .inl (M 1))), (rr 2, .inl (cI, 4, .inl (M 2))), (rr 3, .inl (cI, 4, .inl (M 3))), (rr 4, .inl (cI, 4, .inl (M 4)))]) rfl (by decide) (by decide) (ws' := [(h0, .inr (0, [.ref hp, .ref pl, .ref en, .int rk])), (hp, .inr (1, [.ref ow, .ref wo, .int (nI md)])), (ow, .inl (cI, 48, .inl fo)), (wo, .inl (cI, 48, .inl fw)), (pl, .inr (2, [.ref po, .int (nI ht)])), (po, .inl (cI, 8, .inl fp)), (en, .inr (3, [.ref eo, .ref sb, .int (nI len)])), (eo, .inl (cI, 5, .inl fe)), (sb, .inl (cG, 5, .inr (.inr (.inr (.inr (fun uu => some (rr uu))))))), (rr 0, .inl (cI, 4, .inl (M 0))), (rr 1, .inl (cI, 4, .inl (M 1))), (rr 2, .inl (cI, 4, .inl (M 2))), (rr 3, .inl (cI, 4, .inl (M 3))), (rr 4, .inl (cI, 4, .inl (M 4)))]) rfl (by decide) rfl hl.1 rfl (Nat.le_of_ble_eq_true rfl) d_X_countChangesOf_21 (fun H locs hP hD hS => ?_)
    refine lv_istore_n (lv' := [(3, .int (nI (lc_sa fo a))), (2, .int (nI a)), (0, .ref h0), (1, .int (nI k))]) hx hb d_X_countChangesOf_24 rfl hl (by decide) rfl (fun ls hl => ?_)
    refine lv_iconst (v := nI 0) hx hb d_X_countChangesOf_25 (by decide +kernel) ?_
    refine lv_istore (lv' := [(4, .int (nI 0)), (3, .int (nI (lc_sa fo a))), (2, .int (nI a)), (0, .ref h0), (1, .int (nI k))]) hx hb d_X_countChangesOf_26 hl (by decide) rfl (fun ls hl => ?_)
    have loop28 : ∀ (fu : Nat) (j : Nat), 48 - j < fu → (hj : j ≤ lc_sa fo a) → ∀ (H : Heap) (locs : List Loc), va_P D classes [(h0, .inr (0, [.ref hp, .ref pl, .ref en, .int rk])), (hp, .inr (1, [.ref ow, .ref wo, .int (nI md)])), (ow, .inl (cI, 48, .inl fo)), (wo, .inl (cI, 48, .inl (lc_cc fo a (M k) fw j))), (pl, .inr (2, [.ref po, .int (nI ht)])), (po, .inl (cI, 8, .inl fp)), (en, .inr (3, [.ref eo, .ref sb, .int (nI len)])), (eo, .inl (cI, 5, .inl fe)), (sb, .inl (cG, 5, .inr (.inr (.inr (.inr (fun uu => some (rr uu))))))), (rr 0, .inl (cI, 4, .inl (M 0))), (rr 1, .inl (cI, 4, .inl (M 1))), (rr 2, .inl (cI, 4, .inl (M 2))), (rr 3, .inl (cI, 4, .inl (M 3))), (rr 4, .inl (cI, 4, .inl (M 4)))] H → va_D A [(h0, .inr (0, [.ref hp, .ref pl, .ref en, .int rk])), (hp, .inr (1, [.ref ow, .ref wo, .int (nI md)])), (ow, .inl (cI, 48, .inl fo)), (wo, .inl (cI, 48, .inl (lc_cc fo a (M k) fw j))), (pl, .inr (2, [.ref po, .int (nI ht)])), (po, .inl (cI, 8, .inl fp)), (en, .inr (3, [.ref eo, .ref sb, .int (nI len)])), (eo, .inl (cI, 5, .inl fe)), (sb, .inl (cG, 5, .inr (.inr (.inr (.inr (fun uu => some (rr uu))))))), (rr 0, .inl (cI, 4, .inl (M 0))), (rr 1, .inl (cI, 4, .inl (M 1))), (rr 2, .inl (cI, 4, .inl (M 2))), (rr 3, .inl (cI, 4, .inl (M 3))), (rr 4, .inl (cI, 4, .inl (M 4)))] → va_S A s.heap H locs → ∀ (ls : Array Slot), lv_has ls 5 [(0, .ref h0), (1, .int (nI k)), (2, .int (nI a)), (3, .int (nI (lc_sa fo a))), (4, .int (nI j))] → W p l e ({ frames := 2, cells := 0, slots := 0, locals := 45 } : Room) s m args below meth c H locs 0 0 Q (F0 m 28 ls []) := by
      intro fu
      induction fu with
      | zero => intro j hf; omega
      | succ fu ih28 =>
        intro j hf hj H locs hP hD hS ls hl
        refine lv_iload hx hb d_X_countChangesOf_28 (lv_at hl 4 rfl) ?_
        refine lv_iload_n hx hb d_X_countChangesOf_30 rfl (lv_at hl 3 rfl) ?_
        refine zz_icmp_ge (tgt := 76) hx hb (by omega) (by omega) d_X_countChangesOf_31 (by decide) (fun c31 => ?_) (fun c31 => ?_)
        · skip
          have eW : ([(h0, .inr (0, [.ref hp, .ref pl, .ref en, .int rk])), (hp, .inr (1, [.ref ow, .ref wo, .int (nI md)])), (ow, .inl (cI, 48, .inl fo)), (wo, .inl (cI, 48, .inl (lc_cc fo a (M k) fw j))), (pl, .inr (2, [.ref po, .int (nI ht)])), (po, .inl (cI, 8, .inl fp)), (en, .inr (3, [.ref eo, .ref sb, .int (nI len)])), (eo, .inl (cI, 5, .inl fe)), (sb, .inl (cG, 5, .inr (.inr (.inr (.inr (fun uu => some (rr uu))))))), (rr 0, .inl (cI, 4, .inl (M 0))), (rr 1, .inl (cI, 4, .inl (M 1))), (rr 2, .inl (cI, 4, .inl (M 2))), (rr 3, .inl (cI, 4, .inl (M 3))), (rr 4, .inl (cI, 4, .inl (M 4)))] : va_W) = [(h0, .inr (0, [.ref hp, .ref pl, .ref en, .int rk])), (hp, .inr (1, [.ref ow, .ref wo, .int (nI md)])), (ow, .inl (cI, 48, .inl fo)), (wo, .inl (cI, 48, .inl (lc_cco fo (lc_first fo (fe k)) (M k) fw))), (pl, .inr (2, [.ref po, .int (nI ht)])), (po, .inl (cI, 8, .inl fp)), (en, .inr (3, [.ref eo, .ref sb, .int (nI len)])), (eo, .inl (cI, 5, .inl fe)), (sb, .inl (cG, 5, .inr (.inr (.inr (.inr (fun uu => some (rr uu))))))), (rr 0, .inl (cI, 4, .inl (M 0))), (rr 1, .inl (cI, 4, .inl (M 1))), (rr 2, .inl (cI, 4, .inl (M 2))), (rr 3, .inl (cI, 4, .inl (M 3))), (rr 4, .inl (cI, 4, .inl (M 4)))] := by first | (simp only [lc_cco, h12]; done) | (simp only [lc_cco, h12]; rw [show j = lc_sa fo a by omega])
          exact hret _ _ _ _ d_X_countChangesOf_76 (zz_toP eW hP) (zz_toD eW hD) hS
        · skip
          refine lv_aload_n hx hb d_X_countChangesOf_34 rfl (lv_at hl 0 rfl) ?_
          refine va_get (D := D) (ci := 0) (v := .ref hp) (C := R_X) (T := F_X) (N := 4) hx hb hts i_X hown hK hP 0 rfl rfl 0 (by decide) (hts _ kw_39) (fun _ h9 => h9) rfl d_X_countChangesOf_35 ?_
          refine lv_aload_n hx hb d_X_countChangesOf_38 rfl (lv_at hl 0 rfl) ?_
          refine va_get (D := D) (ci := 0) (v := .ref en) (C := R_X) (T := F_X) (N := 4) hx hb hts i_X hown hK hP 0 rfl rfl 2 (by decide) (hts _ kw_63) (fun _ h9 => h9) rfl d_X_countChangesOf_39 ?_
          refine lv_iload_n hx hb d_X_countChangesOf_42 rfl (lv_at hl 1 rfl) ?_
          refine lv_iload hx hb d_X_countChangesOf_43 (lv_at hl 4 rfl) ?_
          refine zz_callI (np := 2) hx hb hml hown hts hK hP hD hS hA (c_Entries_before l D cI cG en eo sb rr fe M len k j (by omega) (by omega)) (zz_gv kw_71 kw_72 kw_73 kw_68 kc_70) (by decide +kernel) rfl rfl ⟨Nat.le_of_ble_eq_true rfl, Nat.le_of_ble_eq_true rfl⟩ ⟨Nat.zero_le _, Nat.zero_le _⟩ [0, 1] rfl 6 3 rfl rfl rfl [6, 7, 8, 9, 10, 11, 12, 13] [0, 1, 2, 3, 4, 5] [0, 1, 2, 3, 4, 5, 6, 7, 8, 9, 10, 11, 12, 13] rfl (by decide) (wr := [(h0, .inr (0, [.ref hp, .ref pl, .ref en, .int rk])), (hp, .inr (1, [.ref ow, .ref wo, .int (nI md)])), (ow, .inl (cI, 48, .inl fo)), (wo, .inl (cI, 48, .inl (lc_cc fo a (M k) fw j))), (pl, .inr (2, [.ref po, .int (nI ht)])), (po, .inl (cI, 8, .inl fp))]) rfl (by decide) (by decide) (ws' := [(h0, .inr (0, [.ref hp, .ref pl, .ref en, .int rk])), (hp, .inr (1, [.ref ow, .ref wo, .int (nI md)])), (ow, .inl (cI, 48, .inl fo)), (wo, .inl (cI, 48, .inl (lc_cc fo a (M k) fw j))), (pl, .inr (2, [.ref po, .int (nI ht)])), (po, .inl (cI, 8, .inl fp)), (en, .inr (3, [.ref eo, .ref sb, .int (nI len)])), (eo, .inl (cI, 5, .inl fe)), (sb, .inl (cG, 5, .inr (.inr (.inr (.inr (fun uu => some (rr uu))))))), (rr 0, .inl (cI, 4, .inl (M 0))), (rr 1, .inl (cI, 4, .inl (M 1))), (rr 2, .inl (cI, 4, .inl (M 2))), (rr 3, .inl (cI, 4, .inl (M 3))), (rr 4, .inl (cI, 4, .inl (M 4)))]) rfl (by decide) rfl hl.1 rfl (Nat.le_of_ble_eq_true rfl) d_X_countChangesOf_45 (fun H locs hP hD hS => ?_)
          refine lv_iconst (v := (-1)) hx hb d_X_countChangesOf_48 (by decide +kernel) ?_
          refine zz_callV (np := 2) hx hb hml hown hts hK hP hD hS hA (c_Heap_addToCount l D cI hp ow wo fo (lc_cc fo a (M k) fw j) md (M k j) (-1) ) (zz_gv kw_74 kw_26 kw_27 kw_6 kc_24) (by decide +kernel) rfl rfl ⟨Nat.le_of_ble_eq_true rfl, Nat.le_of_ble_eq_true rfl⟩ ⟨Nat.zero_le _, Nat.zero_le _⟩ [0] rfl 1 1 rfl rfl rfl [1, 2, 3] [0, 4, 5, 6, 7, 8, 9, 10, 11, 12, 13] [0, 11, 12, 13, 1, 2, 3, 4, 5, 6, 7, 8, 9, 10] rfl (by decide) (wr := [(h0, .inr (0, [.ref hp, .ref pl, .ref en, .int rk])), (pl, .inr (2, [.ref po, .int (nI ht)])), (po, .inl (cI, 8, .inl fp)), (en, .inr (3, [.ref eo, .ref sb, .int (nI len)])), (eo, .inl (cI, 5, .inl fe)), (sb, .inl (cG, 5, .inr (.inr (.inr (.inr (fun uu => some (rr uu))))))), (rr 0, .inl (cI, 4, .inl (M 0))), (rr 1, .inl (cI, 4, .inl (M 1))), (rr 2, .inl (cI, 4, .inl (M 2))), (rr 3, .inl (cI, 4, .inl (M 3))), (rr 4, .inl (cI, 4, .inl (M 4)))]) rfl (by decide) (by decide) (ws' := [(h0, .inr (0, [.ref hp, .ref pl, .ref en, .int rk])), (hp, .inr (1, [.ref ow, .ref wo, .int (nI md)])), (ow, .inl (cI, 48, .inl fo)), (wo, .inl (cI, 48, .inl (lc_add fo (lc_cc fo a (M k) fw j) (M k j) (-1)))), (pl, .inr (2, [.ref po, .int (nI ht)])), (po, .inl (cI, 8, .inl fp)), (en, .inr (3, [.ref eo, .ref sb, .int (nI len)])), (eo, .inl (cI, 5, .inl fe)), (sb, .inl (cG, 5, .inr (.inr (.inr (.inr (fun uu => some (rr uu))))))), (rr 0, .inl (cI, 4, .inl (M 0))), (rr 1, .inl (cI, 4, .inl (M 1))), (rr 2, .inl (cI, 4, .inl (M 2))), (rr 3, .inl (cI, 4, .inl (M 3))), (rr 4, .inl (cI, 4, .inl (M 4)))]) rfl (by decide) rfl hl.1 rfl (Nat.le_of_ble_eq_true rfl) d_X_countChangesOf_49 (fun H locs hP hD hS => ?_)
          refine lv_aload_n hx hb d_X_countChangesOf_52 rfl (lv_at hl 0 rfl) ?_
          refine va_get (D := D) (ci := 0) (v := .ref hp) (C := R_X) (T := F_X) (N := 4) hx hb hts i_X hown hK hP 0 rfl rfl 0 (by decide) (hts _ kw_39) (fun _ h9 => h9) rfl d_X_countChangesOf_53 ?_
          refine lv_aload_n hx hb d_X_countChangesOf_56 rfl (lv_at hl 0 rfl) ?_
          refine va_get (D := D) (ci := 0) (v := .ref hp) (C := R_X) (T := F_X) (N := 4) hx hb hts i_X hown hK hP 0 rfl rfl 0 (by decide) (hts _ kw_39) (fun _ h9 => h9) rfl d_X_countChangesOf_57 ?_
          refine lv_iload_n hx hb d_X_countChangesOf_60 rfl (lv_at hl 2 rfl) ?_
          refine lv_iload hx hb d_X_countChangesOf_61 (lv_at hl 4 rfl) ?_
          refine zz_callI (np := 2) hx hb hml hown hts hK hP hD hS hA (c_Heap_inSlot l D cI hp ow wo fo (lc_add fo (lc_cc fo a (M k) fw j) (M k j) (-1)) md a j (by omega)) (zz_gv kw_75 kw_22 kw_23 kw_6 kc_20) (by decide +kernel) rfl rfl ⟨Nat.le_of_ble_eq_true rfl, Nat.le_of_ble_eq_true rfl⟩ ⟨Nat.zero_le _, Nat.zero_le _⟩ [0] rfl 1 1 rfl rfl rfl [1, 2, 3] [0, 4, 5, 6, 7, 8, 9, 10, 11, 12, 13] [0, 11, 12, 13, 1, 2, 3, 4, 5, 6, 7, 8, 9, 10] rfl (by decide) (wr := [(h0, .inr (0, [.ref hp, .ref pl, .ref en, .int rk])), (pl, .inr (2, [.ref po, .int (nI ht)])), (po, .inl (cI, 8, .inl fp)), (en, .inr (3, [.ref eo, .ref sb, .int (nI len)])), (eo, .inl (cI, 5, .inl fe)), (sb, .inl (cG, 5, .inr (.inr (.inr (.inr (fun uu => some (rr uu))))))), (rr 0, .inl (cI, 4, .inl (M 0))), (rr 1, .inl (cI, 4, .inl (M 1))), (rr 2, .inl (cI, 4, .inl (M 2))), (rr 3, .inl (cI, 4, .inl (M 3))), (rr 4, .inl (cI, 4, .inl (M 4)))]) rfl (by decide) (by decide) (ws' := [(h0, .inr (0, [.ref hp, .ref pl, .ref en, .int rk])), (hp, .inr (1, [.ref ow, .ref wo, .int (nI md)])), (ow, .inl (cI, 48, .inl fo)), (wo, .inl (cI, 48, .inl (lc_add fo (lc_cc fo a (M k) fw j) (M k j) (-1)))), (pl, .inr (2, [.ref po, .int (nI ht)])), (po, .inl (cI, 8, .inl fp)), (en, .inr (3, [.ref eo, .ref sb, .int (nI len)])), (eo, .inl (cI, 5, .inl fe)), (sb, .inl (cG, 5, .inr (.inr (.inr (.inr (fun uu => some (rr uu))))))), (rr 0, .inl (cI, 4, .inl (M 0))), (rr 1, .inl (cI, 4, .inl (M 1))), (rr 2, .inl (cI, 4, .inl (M 2))), (rr 3, .inl (cI, 4, .inl (M 3))), (rr 4, .inl (cI, 4, .inl (M 4)))]) rfl (by decide) rfl hl.1 rfl (Nat.le_of_ble_eq_true rfl) d_X_countChangesOf_63 (fun H locs hP hD hS => ?_)
          refine lv_iconst (v := nI 1) hx hb d_X_countChangesOf_66 (by decide +kernel) ?_
          refine zz_callV (np := 2) hx hb hml hown hts hK hP hD hS hA (c_Heap_addToCount l D cI hp ow wo fo (lc_add fo (lc_cc fo a (M k) fw j) (M k j) (-1)) md ((lc_add fo (lc_cc fo a (M k) fw j) (M k j) (-1)) (a + 1 + j)) (nI 1) ) (zz_gv kw_74 kw_26 kw_27 kw_6 kc_24) (by decide +kernel) rfl rfl ⟨Nat.le_of_ble_eq_true rfl, Nat.le_of_ble_eq_true rfl⟩ ⟨Nat.zero_le _, Nat.zero_le _⟩ [0] rfl 1 1 rfl rfl rfl [1, 2, 3] [0, 4, 5, 6, 7, 8, 9, 10, 11, 12, 13] [0, 11, 12, 13, 1, 2, 3, 4, 5, 6, 7, 8, 9, 10] rfl (by decide) (wr := [(h0, .inr (0, [.ref hp, .ref pl, .ref en, .int rk])), (pl, .inr (2, [.ref po, .int (nI ht)])), (po, .inl (cI, 8, .inl fp)), (en, .inr (3, [.ref eo, .ref sb, .int (nI len)])), (eo, .inl (cI, 5, .inl fe)), (sb, .inl (cG, 5, .inr (.inr (.inr (.inr (fun uu => some (rr uu))))))), (rr 0, .inl (cI, 4, .inl (M 0))), (rr 1, .inl (cI, 4, .inl (M 1))), (rr 2, .inl (cI, 4, .inl (M 2))), (rr 3, .inl (cI, 4, .inl (M 3))), (rr 4, .inl (cI, 4, .inl (M 4)))]) rfl (by decide) (by decide) (ws' := [(h0, .inr (0, [.ref hp, .ref pl, .ref en, .int rk])), (hp, .inr (1, [.ref ow, .ref wo, .int (nI md)])), (ow, .inl (cI, 48, .inl fo)), (wo, .inl (cI, 48, .inl (lc_add fo (lc_add fo (lc_cc fo a (M k) fw j) (M k j) (-1)) ((lc_add fo (lc_cc fo a (M k) fw j) (M k j) (-1)) (a + 1 + j)) (nI 1)))), (pl, .inr (2, [.ref po, .int (nI ht)])), (po, .inl (cI, 8, .inl fp)), (en, .inr (3, [.ref eo, .ref sb, .int (nI len)])), (eo, .inl (cI, 5, .inl fe)), (sb, .inl (cG, 5, .inr (.inr (.inr (.inr (fun uu => some (rr uu))))))), (rr 0, .inl (cI, 4, .inl (M 0))), (rr 1, .inl (cI, 4, .inl (M 1))), (rr 2, .inl (cI, 4, .inl (M 2))), (rr 3, .inl (cI, 4, .inl (M 3))), (rr 4, .inl (cI, 4, .inl (M 4)))]) rfl (by decide) rfl hl.1 rfl (Nat.le_of_ble_eq_true rfl) d_X_countChangesOf_67 (fun H locs hP hD hS => ?_)
          refine lv_iinc (v := nI (j + 1)) (lv' := [(4, .int (nI (j + 1))), (0, .ref h0), (1, .int (nI k)), (2, .int (nI a)), (3, .int (nI (lc_sa fo a)))]) hx hb d_X_countChangesOf_70 hl (k := 4) rfl (nI_1 _) (by decide) rfl (fun ls hl => ?_)
          refine lv_goto (tgt := 28) hx hb d_X_countChangesOf_73 (by decide) ?_
          have eW1 : ([(h0, .inr (0, [.ref hp, .ref pl, .ref en, .int rk])), (hp, .inr (1, [.ref ow, .ref wo, .int (nI md)])), (ow, .inl (cI, 48, .inl fo)), (wo, .inl (cI, 48, .inl (lc_add fo (lc_add fo (lc_cc fo a (M k) fw j) (M k j) (-1)) ((lc_add fo (lc_cc fo a (M k) fw j) (M k j) (-1)) (a + 1 + j)) (nI 1)))), (pl, .inr (2, [.ref po, .int (nI ht)])), (po, .inl (cI, 8, .inl fp)), (en, .inr (3, [.ref eo, .ref sb, .int (nI len)])), (eo, .inl (cI, 5, .inl fe)), (sb, .inl (cG, 5, .inr (.inr (.inr (.inr (fun uu => some (rr uu))))))), (rr 0, .inl (cI, 4, .inl (M 0))), (rr 1, .inl (cI, 4, .inl (M 1))), (rr 2, .inl (cI, 4, .inl (M 2))), (rr 3, .inl (cI, 4, .inl (M 3))), (rr 4, .inl (cI, 4, .inl (M 4)))] : va_W) = [(h0, .inr (0, [.ref hp, .ref pl, .ref en, .int rk])), (hp, .inr (1, [.ref ow, .ref wo, .int (nI md)])), (ow, .inl (cI, 48, .inl fo)), (wo, .inl (cI, 48, .inl (lc_cc fo a (M k) fw (j + 1)))), (pl, .inr (2, [.ref po, .int (nI ht)])), (po, .inl (cI, 8, .inl fp)), (en, .inr (3, [.ref eo, .ref sb, .int (nI len)])), (eo, .inl (cI, 5, .inl fe)), (sb, .inl (cG, 5, .inr (.inr (.inr (.inr (fun uu => some (rr uu))))))), (rr 0, .inl (cI, 4, .inl (M 0))), (rr 1, .inl (cI, 4, .inl (M 1))), (rr 2, .inl (cI, 4, .inl (M 2))), (rr 3, .inl (cI, 4, .inl (M 3))), (rr 4, .inl (cI, 4, .inl (M 4)))] := by first | rfl | (rw [zz_n1]; rfl)
          have hP := zz_toP eW1 hP
          have hD := zz_toD eW1 hD
          exact ih28 (j + 1) (by omega) (by omega) _ _ hP hD hS _ (lv_sub hl [1, 2, 3, 4, 0] rfl)
    have eW2 : ([(h0, .inr (0, [.ref hp, .ref pl, .ref en, .int rk])), (hp, .inr (1, [.ref ow, .ref wo, .int (nI md)])), (ow, .inl (cI, 48, .inl fo)), (wo, .inl (cI, 48, .inl fw)), (pl, .inr (2, [.ref po, .int (nI ht)])), (po, .inl (cI, 8, .inl fp)), (en, .inr (3, [.ref eo, .ref sb, .int (nI len)])), (eo, .inl (cI, 5, .inl fe)), (sb, .inl (cG, 5, .inr (.inr (.inr (.inr (fun uu => some (rr uu))))))), (rr 0, .inl (cI, 4, .inl (M 0))), (rr 1, .inl (cI, 4, .inl (M 1))), (rr 2, .inl (cI, 4, .inl (M 2))), (rr 3, .inl (cI, 4, .inl (M 3))), (rr 4, .inl (cI, 4, .inl (M 4)))] : va_W) = [(h0, .inr (0, [.ref hp, .ref pl, .ref en, .int rk])), (hp, .inr (1, [.ref ow, .ref wo, .int (nI md)])), (ow, .inl (cI, 48, .inl fo)), (wo, .inl (cI, 48, .inl (lc_cc fo a (M k) fw 0))), (pl, .inr (2, [.ref po, .int (nI ht)])), (po, .inl (cI, 8, .inl fp)), (en, .inr (3, [.ref eo, .ref sb, .int (nI len)])), (eo, .inl (cI, 5, .inl fe)), (sb, .inl (cG, 5, .inr (.inr (.inr (.inr (fun uu => some (rr uu))))))), (rr 0, .inl (cI, 4, .inl (M 0))), (rr 1, .inl (cI, 4, .inl (M 1))), (rr 2, .inl (cI, 4, .inl (M 2))), (rr 3, .inl (cI, 4, .inl (M 3))), (rr 4, .inl (cI, 4, .inl (M 4)))] := by first | rfl | (rw [zz_n1]; rfl)
    have hP := zz_toP eW2 hP
    have hD := zz_toD eW2 hD
    exact loop28 49 0 (by omega) (by omega) _ _ hP hD hS _ (lv_sub hl [3, 4, 2, 1, 0] rfl)
set_option maxHeartbeats 4000000 in
set_option maxRecDepth 100000 in
theorem c_X_bringUpToDate (l : Launch) (D : va_G) (cI : ClassId) (cG : ClassId) (h0 : Nat) (hp : Nat) (ow : Nat) (wo : Nat) (pl : Nat) (po : Nat) (en : Nat) (eo : Nat) (sb : Nat) (rr : Nat → Nat) (fo : lc_A) (fw : lc_A) (md : Nat) (fp : lc_A) (ht : Nat) (fe : lc_A) (M : Nat → lc_A) (len : Nat) (rk : Int32) (hht : ht ≤ 8) (hlen : len ≤ 5) (hc : ∀ k, k < len → lc_sao fo (lc_first fo (fe k)) ≤ 4) : zz_MI l y_X_bringUpToDate b_X_bringUpToDate 2 .int ({ frames := 4, cells := 0, slots := 0, locals := 90 } : Room) D [(cI, .int), (cG, .array .int)] [.ref h0] [(h0, .inr (0, [.ref hp, .ref pl, .ref en, .int rk])), (hp, .inr (1, [.ref ow, .ref wo, .int (nI md)])), (ow, .inl (cI, 48, .inl fo)), (wo, .inl (cI, 48, .inl fw)), (pl, .inr (2, [.ref po, .int (nI ht)])), (po, .inl (cI, 8, .inl fp)), (en, .inr (3, [.ref eo, .ref sb, .int (nI len)])), (eo, .inl (cI, 5, .inl fe)), (sb, .inl (cG, 5, .inr (.inr (.inr (.inr (fun uu => some (rr uu))))))), (rr 0, .inl (cI, 4, .inl (M 0))), (rr 1, .inl (cI, 4, .inl (M 1))), (rr 2, .inl (cI, 4, .inl (M 2))), (rr 3, .inl (cI, 4, .inl (M 3))), (rr 4, .inl (cI, 4, .inl (M 4)))] (nI ((lc_bu fo fw fp ht fe M len).2.2)) [(h0, .inr (0, [.ref hp, .ref pl, .ref en, .int (rk + nI 1)])), (hp, .inr (1, [.ref ow, .ref wo, .int (nI md)])), (ow, .inl (cI, 48, .inl ((lc_bu fo fw fp ht fe M len).1))), (wo, .inl (cI, 48, .inl ((lc_bu fo fw fp ht fe M len).2.1))), (pl, .inr (2, [.ref po, .int (nI ht)])), (po, .inl (cI, 8, .inl fp)), (en, .inr (3, [.ref eo, .ref sb, .int (nI 0)])), (eo, .inl (cI, 5, .inl fe)), (sb, .inl (cG, 5, .inr (.inr (.inr (.inr (fun uu => some (rr uu))))))), (rr 0, .inl (cI, 4, .inl (M 0))), (rr 1, .inl (cI, 4, .inl (M 1))), (rr 2, .inl (cI, 4, .inl (M 2))), (rr 3, .inl (cI, 4, .inl (M 3))), (rr 4, .inl (cI, 4, .inl (M 4)))] := by
  refine zz_MI_of (by decide) (Nat.le_of_ble_eq_true rfl) (vp_nar_int _) ?_
  intro p e s m args below meth c A ls Q hx hb hml hown hts hK hP hD hS hA hl hret
  have hown : s.vm.findClass R_X = some m.cls := hown
  have hl : lv_has ls 2 [(0, .ref h0)] := hl
  refine lv_aload_n hx hb d_X_bringUpToDate_0 rfl (lv_at hl 0 rfl) ?_
  refine lv_dup hx hb d_X_bringUpToDate_1 rfl ?_
  refine va_get (D := D) (ci := 0) (v := .int rk) (C := R_X) (T := F_X) (N := 4) hx hb hts i_X hown hK hP 0 rfl rfl 3 (by decide) (hts _ kw_76) (fun _ h9 => h9) rfl d_X_bringUpToDate_2 ?_
  refine lv_iconst (v := nI 1) hx hb d_X_bringUpToDate_5 (by decide +kernel) ?_
  refine lv_iadd hx hb d_X_bringUpToDate_6 ?_
  refine va_put (D := D) (ci := 0) (v := .int (rk + (nI 1))) (ty := .int) (C := R_X) (T := F_X) (N := 4) hx hb hts i_X t_X t_X_ok n_X hown hK hP hD hS 0 rfl rfl 3 (by decide) (hts _ kw_76) (fun _ h9 => h9) rfl (by decide +kernel) rfl rfl (Nat.le_of_ble_eq_true rfl) d_X_bringUpToDate_7 (fun H locs hP hD hS => ?_)
  have hP : va_P D classes [(h0, .inr (0, [.ref hp, .ref pl, .ref en, .int (rk + (nI 1))])), (hp, .inr (1, [.ref ow, .ref wo, .int (nI md)])), (ow, .inl (cI, 48, .inl fo)), (wo, .inl (cI, 48, .inl fw)), (pl, .inr (2, [.ref po, .int (nI ht)])), (po, .inl (cI, 8, .inl fp)), (en, .inr (3, [.ref eo, .ref sb, .int (nI len)])), (eo, .inl (cI, 5, .inl fe)), (sb, .inl (cG, 5, .inr (.inr (.inr (.inr (fun uu => some (rr uu))))))), (rr 0, .inl (cI, 4, .inl (M 0))), (rr 1, .inl (cI, 4, .inl (M 1))), (rr 2, .inl (cI, 4, .inl (M 2))), (rr 3, .inl (cI, 4, .inl (M 3))), (rr 4, .inl (cI, 4, .inl (M 4)))] H := hP
  have hD : va_D A [(h0, .inr (0, [.ref hp, .ref pl, .ref en, .int (rk + (nI 1))])), (hp, .inr (1, [.ref ow, .ref wo, .int (nI md)])), (ow, .inl (cI, 48, .inl fo)), (wo, .inl (cI, 48, .inl fw)), (pl, .inr (2, [.ref po, .int (nI ht)])), (po, .inl (cI, 8, .inl fp)), (en, .inr (3, [.ref eo, .ref sb, .int (nI len)])), (eo, .inl (cI, 5, .inl fe)), (sb, .inl (cG, 5, .inr (.inr (.inr (.inr (fun uu => some (rr uu))))))), (rr 0, .inl (cI, 4, .inl (M 0))), (rr 1, .inl (cI, 4, .inl (M 1))), (rr 2, .inl (cI, 4, .inl (M 2))), (rr 3, .inl (cI, 4, .inl (M 3))), (rr 4, .inl (cI, 4, .inl (M 4)))] := hD
  refine lv_iconst (v := nI 0) hx hb d_X_bringUpToDate_10 (by decide +kernel) ?_
  refine lv_istore_n (lv' := [(1, .int (nI 0)), (0, .ref h0)]) hx hb d_X_bringUpToDate_11 rfl hl (by decide) rfl (fun ls hl => ?_)
  have loop12 : ∀ (fu : Nat) (k : Nat), 48 - k < fu → (hk : k ≤ len) → ∀ (H : Heap) (locs : List Loc), va_P D classes [(h0, .inr (0, [.ref hp, .ref pl, .ref en, .int (rk + nI 1)])), (hp, .inr (1, [.ref ow, .ref wo, .int (nI md)])), (ow, .inl (cI, 48, .inl fo)), (wo, .inl (cI, 48, .inl (lc_cl fo fe M fw k))), (pl, .inr (2, [.ref po, .int (nI ht)])), (po, .inl (cI, 8, .inl fp)), (en, .inr (3, [.ref eo, .ref sb, .int (nI len)])), (eo, .inl (cI, 5, .inl fe)), (sb, .inl (cG, 5, .inr (.inr (.inr (.inr (fun uu => some (rr uu))))))), (rr 0, .inl (cI, 4, .inl (M 0))), (rr 1, .inl (cI, 4, .inl (M 1))), (rr 2, .inl (cI, 4, .inl (M 2))), (rr 3, .inl (cI, 4, .inl (M 3))), (rr 4, .inl (cI, 4, .inl (M 4)))] H → va_D A [(h0, .inr (0, [.ref hp, .ref pl, .ref en, .int (rk + nI 1)])), (hp, .inr (1, [.ref ow, .ref wo, .int (nI md)])), (ow, .inl (cI, 48, .inl fo)), (wo, .inl (cI, 48, .inl (lc_cl fo fe M fw k))), (pl, .inr (2, [.ref po, .int (nI ht)])), (po, .inl (cI, 8, .inl fp)), (en, .inr (3, [.ref eo, .ref sb, .int (nI len)])), (eo, .inl (cI, 5, .inl fe)), (sb, .inl (cG, 5, .inr (.inr (.inr (.inr (fun uu => some (rr uu))))))), (rr 0, .inl (cI, 4, .inl (M 0))), (rr 1, .inl (cI, 4, .inl (M 1))), (rr 2, .inl (cI, 4, .inl (M 2))), (rr 3, .inl (cI, 4, .inl (M 3))), (rr 4, .inl (cI, 4, .inl (M 4)))] → va_S A s.heap H locs → ∀ (ls : Array Slot), lv_has ls 2 [(0, .ref h0), (1, .int (nI k))] → W p l e ({ frames := 4, cells := 0, slots := 0, locals := 90 } : Room) s m args below meth c H locs 0 0 Q (F0 m 12 ls []) := by
    intro fu
    induction fu with
    | zero => intro k hf; omega
    | succ fu ih12 =>
      intro k hf hk H locs hP hD hS ls hl
      refine lv_iload_n hx hb d_X_bringUpToDate_12 rfl (lv_at hl 1 rfl) ?_
      refine lv_aload_n hx hb d_X_bringUpToDate_13 rfl (lv_at hl 0 rfl) ?_
      refine va_get (D := D) (ci := 0) (v := .ref en) (C := R_X) (T := F_X) (N := 4) hx hb hts i_X hown hK hP 0 rfl rfl 2 (by decide) (hts _ kw_63) (fun _ h9 => h9) rfl d_X_bringUpToDate_14 ?_
      refine zz_callI (np := 0) hx hb hml hown hts hK hP hD hS hA (c_Entries_size l D cI cG en eo sb rr fe M len ) (zz_gv kw_78 kw_79 kw_80 kw_68 kc_77) (by decide +kernel) rfl rfl ⟨Nat.le_of_ble_eq_true rfl, Nat.le_of_ble_eq_true rfl⟩ ⟨Nat.zero_le _, Nat.zero_le _⟩ [0, 1] rfl 6 3 rfl rfl rfl [6, 7, 8, 9, 10, 11, 12, 13] [0, 1, 2, 3, 4, 5] [0, 1, 2, 3, 4, 5, 6, 7, 8, 9, 10, 11, 12, 13] rfl (by decide) (wr := [(h0, .inr (0, [.ref hp, .ref pl, .ref en, .int (rk + nI 1)])), (hp, .inr (1, [.ref ow, .ref wo, .int (nI md)])), (ow, .inl (cI, 48, .inl fo)), (wo, .inl (cI, 48, .inl (lc_cl fo fe M fw k))), (pl, .inr (2, [.ref po, .int (nI ht)])), (po, .inl (cI, 8, .inl fp))]) rfl (by decide) (by decide) (ws' := [(h0, .inr (0, [.ref hp, .ref pl, .ref en, .int (rk + nI 1)])), (hp, .inr (1, [.ref ow, .ref wo, .int (nI md)])), (ow, .inl (cI, 48, .inl fo)), (wo, .inl (cI, 48, .inl (lc_cl fo fe M fw k))), (pl, .inr (2, [.ref po, .int (nI ht)])), (po, .inl (cI, 8, .inl fp)), (en, .inr (3, [.ref eo, .ref sb, .int (nI len)])), (eo, .inl (cI, 5, .inl fe)), (sb, .inl (cG, 5, .inr (.inr (.inr (.inr (fun uu => some (rr uu))))))), (rr 0, .inl (cI, 4, .inl (M 0))), (rr 1, .inl (cI, 4, .inl (M 1))), (rr 2, .inl (cI, 4, .inl (M 2))), (rr 3, .inl (cI, 4, .inl (M 3))), (rr 4, .inl (cI, 4, .inl (M 4)))]) rfl (by decide) rfl hl.1 rfl (Nat.le_of_ble_eq_true rfl) d_X_bringUpToDate_17 (fun H locs hP hD hS => ?_)
      refine zz_icmp_ge (tgt := 34) hx hb (by omega) (by omega) d_X_bringUpToDate_20 (by decide) (fun c20 => ?_) (fun c20 => ?_)
      · skip
        refine lv_aload_n hx hb d_X_bringUpToDate_34 rfl (lv_at hl 0 rfl) ?_
        refine va_get (D := D) (ci := 0) (v := .ref en) (C := R_X) (T := F_X) (N := 4) hx hb hts i_X hown hK hP 0 rfl rfl 2 (by decide) (hts _ kw_63) (fun _ h9 => h9) rfl d_X_bringUpToDate_35 ?_
        refine zz_callV (np := 0) hx hb hml hown hts hK hP hD hS hA (c_Entries_clear l D cI cG en eo sb rr fe M len ) (zz_gv kw_82 kw_83 kw_84 kw_68 kc_81) (by decide +kernel) rfl rfl ⟨Nat.le_of_ble_eq_true rfl, Nat.le_of_ble_eq_true rfl⟩ ⟨Nat.zero_le _, Nat.zero_le _⟩ [0, 1] rfl 6 3 rfl rfl rfl [6, 7, 8, 9, 10, 11, 12, 13] [0, 1, 2, 3, 4, 5] [0, 1, 2, 3, 4, 5, 6, 7, 8, 9, 10, 11, 12, 13] rfl (by decide) (wr := [(h0, .inr (0, [.ref hp, .ref pl, .ref en, .int (rk + nI 1)])), (hp, .inr (1, [.ref ow, .ref wo, .int (nI md)])), (ow, .inl (cI, 48, .inl fo)), (wo, .inl (cI, 48, .inl (lc_cl fo fe M fw k))), (pl, .inr (2, [.ref po, .int (nI ht)])), (po, .inl (cI, 8, .inl fp))]) rfl (by decide) (by decide) (ws' := [(h0, .inr (0, [.ref hp, .ref pl, .ref en, .int (rk + nI 1)])), (hp, .inr (1, [.ref ow, .ref wo, .int (nI md)])), (ow, .inl (cI, 48, .inl fo)), (wo, .inl (cI, 48, .inl (lc_cl fo fe M fw k))), (pl, .inr (2, [.ref po, .int (nI ht)])), (po, .inl (cI, 8, .inl fp)), (en, .inr (3, [.ref eo, .ref sb, .int (nI 0)])), (eo, .inl (cI, 5, .inl fe)), (sb, .inl (cG, 5, .inr (.inr (.inr (.inr (fun uu => some (rr uu))))))), (rr 0, .inl (cI, 4, .inl (M 0))), (rr 1, .inl (cI, 4, .inl (M 1))), (rr 2, .inl (cI, 4, .inl (M 2))), (rr 3, .inl (cI, 4, .inl (M 3))), (rr 4, .inl (cI, 4, .inl (M 4)))]) rfl (by decide) rfl hl.1 rfl (Nat.le_of_ble_eq_true rfl) d_X_bringUpToDate_38 (fun H locs hP hD hS => ?_)
        refine lv_aload_n hx hb d_X_bringUpToDate_41 rfl (lv_at hl 0 rfl) ?_
        refine zz_callI (np := 0) hx hb hml hown hts hK hP hD hS hA (c_X_freeUnheld l D cI cG h0 hp ow wo pl po en eo sb rr fo (lc_cl fo fe M fw k) md fp ht fe M 0 (rk + nI 1) (by omega)) (zz_gv kw_86 kw_87 kw_88 kw_58 kc_85) (by decide +kernel) rfl rfl ⟨Nat.le_of_ble_eq_true rfl, Nat.le_of_ble_eq_true rfl⟩ ⟨Nat.zero_le _, Nat.zero_le _⟩ [0, 1] rfl 0 0 rfl rfl rfl [0, 1, 2, 3, 4, 5, 6, 7, 8, 9, 10, 11, 12, 13] [] [0, 1, 2, 3, 4, 5, 6, 7, 8, 9, 10, 11, 12, 13] rfl (by decide) (wr := []) rfl (by decide) (by decide) (ws' := [(h0, .inr (0, [.ref hp, .ref pl, .ref en, .int (rk + nI 1)])), (hp, .inr (1, [.ref ow, .ref wo, .int (nI md)])), (ow, .inl (cI, 48, .inl ((lc_fr fp ht 48 fo (lc_cl fo fe M fw k)).1))), (wo, .inl (cI, 48, .inl ((lc_fr fp ht 48 fo (lc_cl fo fe M fw k)).2.1))), (pl, .inr (2, [.ref po, .int (nI ht)])), (po, .inl (cI, 8, .inl fp)), (en, .inr (3, [.ref eo, .ref sb, .int (nI 0)])), (eo, .inl (cI, 5, .inl fe)), (sb, .inl (cG, 5, .inr (.inr (.inr (.inr (fun uu => some (rr uu))))))), (rr 0, .inl (cI, 4, .inl (M 0))), (rr 1, .inl (cI, 4, .inl (M 1))), (rr 2, .inl (cI, 4, .inl (M 2))), (rr 3, .inl (cI, 4, .inl (M 3))), (rr 4, .inl (cI, 4, .inl (M 4)))]) rfl (by decide) rfl hl.1 rfl (Nat.le_of_ble_eq_true rfl) d_X_bringUpToDate_42 (fun H locs hP hD hS => ?_)
        refine zz_top (z := nI ((lc_bu fo fw fp ht fe M len).2.2)) (by first | rfl | (rw [show k = len by omega]; rfl)) ?_
        have eW : ([(h0, .inr (0, [.ref hp, .ref pl, .ref en, .int (rk + nI 1)])), (hp, .inr (1, [.ref ow, .ref wo, .int (nI md)])), (ow, .inl (cI, 48, .inl ((lc_fr fp ht 48 fo (lc_cl fo fe M fw k)).1))), (wo, .inl (cI, 48, .inl ((lc_fr fp ht 48 fo (lc_cl fo fe M fw k)).2.1))), (pl, .inr (2, [.ref po, .int (nI ht)])), (po, .inl (cI, 8, .inl fp)), (en, .inr (3, [.ref eo, .ref sb, .int (nI 0)])), (eo, .inl (cI, 5, .inl fe)), (sb, .inl (cG, 5, .inr (.inr (.inr (.inr (fun uu => some (rr uu))))))), (rr 0, .inl (cI, 4, .inl (M 0))), (rr 1, .inl (cI, 4, .inl (M 1))), (rr 2, .inl (cI, 4, .inl (M 2))), (rr 3, .inl (cI, 4, .inl (M 3))), (rr 4, .inl (cI, 4, .inl (M 4)))] : va_W) = [(h0, .inr (0, [.ref hp, .ref pl, .ref en, .int (rk + nI 1)])), (hp, .inr (1, [.ref ow, .ref wo, .int (nI md)])), (ow, .inl (cI, 48, .inl ((lc_bu fo fw fp ht fe M len).1))), (wo, .inl (cI, 48, .inl ((lc_bu fo fw fp ht fe M len).2.1))), (pl, .inr (2, [.ref po, .int (nI ht)])), (po, .inl (cI, 8, .inl fp)), (en, .inr (3, [.ref eo, .ref sb, .int (nI 0)])), (eo, .inl (cI, 5, .inl fe)), (sb, .inl (cG, 5, .inr (.inr (.inr (.inr (fun uu => some (rr uu))))))), (rr 0, .inl (cI, 4, .inl (M 0))), (rr 1, .inl (cI, 4, .inl (M 1))), (rr 2, .inl (cI, 4, .inl (M 2))), (rr 3, .inl (cI, 4, .inl (M 3))), (rr 4, .inl (cI, 4, .inl (M 4)))] := by first | rfl | (rw [show k = len by omega]; rfl)
        exact hret _ _ _ _ d_X_bringUpToDate_45 (zz_toP eW hP) (zz_toD eW hD) hS
      · skip
        refine lv_aload_n hx hb d_X_bringUpToDate_23 rfl (lv_at hl 0 rfl) ?_
        refine lv_iload_n hx hb d_X_bringUpToDate_24 rfl (lv_at hl 1 rfl) ?_
        refine zz_callV (np := 1) hx hb hml hown hts hK hP hD hS hA (c_X_countChangesOf l D cI cG h0 hp ow wo pl po en eo sb rr fo (lc_cl fo fe M fw k) md fp ht fe M len (rk + nI 1) k (by omega) (hc k (by omega))) (zz_gv kw_90 kw_91 kw_92 kw_58 kc_89) (by decide +kernel) rfl rfl ⟨Nat.le_of_ble_eq_true rfl, Nat.le_of_ble_eq_true rfl⟩ ⟨Nat.zero_le _, Nat.zero_le _⟩ [0, 1] rfl 0 0 rfl rfl rfl [0, 1, 2, 3, 4, 5, 6, 7, 8, 9, 10, 11, 12, 13] [] [0, 1, 2, 3, 4, 5, 6, 7, 8, 9, 10, 11, 12, 13] rfl (by decide) (wr := []) rfl (by decide) (by decide) (ws' := [(h0, .inr (0, [.ref hp, .ref pl, .ref en, .int (rk + nI 1)])), (hp, .inr (1, [.ref ow, .ref wo, .int (nI md)])), (ow, .inl (cI, 48, .inl fo)), (wo, .inl (cI, 48, .inl (lc_cco fo (lc_first fo (fe k)) (M k) (lc_cl fo fe M fw k)))), (pl, .inr (2, [.ref po, .int (nI ht)])), (po, .inl (cI, 8, .inl fp)), (en, .inr (3, [.ref eo, .ref sb, .int (nI len)])), (eo, .inl (cI, 5, .inl fe)), (sb, .inl (cG, 5, .inr (.inr (.inr (.inr (fun uu => some (rr uu))))))), (rr 0, .inl (cI, 4, .inl (M 0))), (rr 1, .inl (cI, 4, .inl (M 1))), (rr 2, .inl (cI, 4, .inl (M 2))), (rr 3, .inl (cI, 4, .inl (M 3))), (rr 4, .inl (cI, 4, .inl (M 4)))]) rfl (by decide) rfl hl.1 rfl (Nat.le_of_ble_eq_true rfl) d_X_bringUpToDate_25 (fun H locs hP hD hS => ?_)
        refine lv_iinc (v := nI (k + 1)) (lv' := [(1, .int (nI (k + 1))), (0, .ref h0)]) hx hb d_X_bringUpToDate_28 hl (k := 1) rfl (nI_1 _) (by decide) rfl (fun ls hl => ?_)
        refine lv_goto (tgt := 12) hx hb d_X_bringUpToDate_31 (by decide) ?_
        have eW1 : ([(h0, .inr (0, [.ref hp, .ref pl, .ref en, .int (rk + nI 1)])), (hp, .inr (1, [.ref ow, .ref wo, .int (nI md)])), (ow, .inl (cI, 48, .inl fo)), (wo, .inl (cI, 48, .inl (lc_cco fo (lc_first fo (fe k)) (M k) (lc_cl fo fe M fw k)))), (pl, .inr (2, [.ref po, .int (nI ht)])), (po, .inl (cI, 8, .inl fp)), (en, .inr (3, [.ref eo, .ref sb, .int (nI len)])), (eo, .inl (cI, 5, .inl fe)), (sb, .inl (cG, 5, .inr (.inr (.inr (.inr (fun uu => some (rr uu))))))), (rr 0, .inl (cI, 4, .inl (M 0))), (rr 1, .inl (cI, 4, .inl (M 1))), (rr 2, .inl (cI, 4, .inl (M 2))), (rr 3, .inl (cI, 4, .inl (M 3))), (rr 4, .inl (cI, 4, .inl (M 4)))] : va_W) = [(h0, .inr (0, [.ref hp, .ref pl, .ref en, .int (rk + nI 1)])), (hp, .inr (1, [.ref ow, .ref wo, .int (nI md)])), (ow, .inl (cI, 48, .inl fo)), (wo, .inl (cI, 48, .inl (lc_cl fo fe M fw (k + 1)))), (pl, .inr (2, [.ref po, .int (nI ht)])), (po, .inl (cI, 8, .inl fp)), (en, .inr (3, [.ref eo, .ref sb, .int (nI len)])), (eo, .inl (cI, 5, .inl fe)), (sb, .inl (cG, 5, .inr (.inr (.inr (.inr (fun uu => some (rr uu))))))), (rr 0, .inl (cI, 4, .inl (M 0))), (rr 1, .inl (cI, 4, .inl (M 1))), (rr 2, .inl (cI, 4, .inl (M 2))), (rr 3, .inl (cI, 4, .inl (M 3))), (rr 4, .inl (cI, 4, .inl (M 4)))] := by rfl
        have hP := zz_toP eW1 hP
        have hD := zz_toD eW1 hD
        exact ih12 (k + 1) (by omega) (by omega) _ _ hP hD hS _ (lv_sub hl [1, 0] rfl)
  have eW2 : ([(h0, .inr (0, [.ref hp, .ref pl, .ref en, .int (rk + (nI 1))])), (hp, .inr (1, [.ref ow, .ref wo, .int (nI md)])), (ow, .inl (cI, 48, .inl fo)), (wo, .inl (cI, 48, .inl fw)), (pl, .inr (2, [.ref po, .int (nI ht)])), (po, .inl (cI, 8, .inl fp)), (en, .inr (3, [.ref eo, .ref sb, .int (nI len)])), (eo, .inl (cI, 5, .inl fe)), (sb, .inl (cG, 5, .inr (.inr (.inr (.inr (fun uu => some (rr uu))))))), (rr 0, .inl (cI, 4, .inl (M 0))), (rr 1, .inl (cI, 4, .inl (M 1))), (rr 2, .inl (cI, 4, .inl (M 2))), (rr 3, .inl (cI, 4, .inl (M 3))), (rr 4, .inl (cI, 4, .inl (M 4)))] : va_W) = [(h0, .inr (0, [.ref hp, .ref pl, .ref en, .int (rk + nI 1)])), (hp, .inr (1, [.ref ow, .ref wo, .int (nI md)])), (ow, .inl (cI, 48, .inl fo)), (wo, .inl (cI, 48, .inl (lc_cl fo fe M fw 0))), (pl, .inr (2, [.ref po, .int (nI ht)])), (po, .inl (cI, 8, .inl fp)), (en, .inr (3, [.ref eo, .ref sb, .int (nI len)])), (eo, .inl (cI, 5, .inl fe)), (sb, .inl (cG, 5, .inr (.inr (.inr (.inr (fun uu => some (rr uu))))))), (rr 0, .inl (cI, 4, .inl (M 0))), (rr 1, .inl (cI, 4, .inl (M 1))), (rr 2, .inl (cI, 4, .inl (M 2))), (rr 3, .inl (cI, 4, .inl (M 3))), (rr 4, .inl (cI, 4, .inl (M 4)))] := by rfl
  have hP := zz_toP eW2 hP
  have hD := zz_toD eW2 hD
  exact loop12 49 0 (by omega) (by omega) _ _ hP hD hS _ (lv_sub hl [1, 0] rfl)
set_option maxHeartbeats 4000000 in
set_option maxRecDepth 100000 in
theorem c_X_note (l : Launch) (D : va_G) (cI : ClassId) (cG : ClassId) (h0 : Nat) (hp : Nat) (ow : Nat) (wo : Nat) (pl : Nat) (po : Nat) (en : Nat) (eo : Nat) (sb : Nat) (rr : Nat → Nat) (fo : lc_A) (fw : lc_A) (md : Nat) (fp : lc_A) (ht : Nat) (fe : lc_A) (M : Nat → lc_A) (len : Nat) (rk : Int32) (a : Nat) (ha : a < 48) (hht : ht ≤ 8) (hlen : len ≤ 5) (hc : ∀ k, k < len → lc_sao fo (lc_first fo (fe k)) ≤ 4) (h4 : lc_sa fo a ≤ 4) (h4b : len = 5 → lc_sa (lc_bu fo fw fp ht fe M len).1 a ≤ 4) : zz_MV l y_X_note b_X_note 6 ({ frames := 5, cells := 0, slots := 0, locals := 111 } : Room) D [(cI, .int), (cG, .array .int)] [.ref h0, .int (nI a)] [(h0, .inr (0, [.ref hp, .ref pl, .ref en, .int rk])), (hp, .inr (1, [.ref ow, .ref wo, .int (nI md)])), (ow, .inl (cI, 48, .inl fo)), (wo, .inl (cI, 48, .inl fw)), (pl, .inr (2, [.ref po, .int (nI ht)])), (po, .inl (cI, 8, .inl fp)), (en, .inr (3, [.ref eo, .ref sb, .int (nI len)])), (eo, .inl (cI, 5, .inl fe)), (sb, .inl (cG, 5, .inr (.inr (.inr (.inr (fun uu => some (rr uu))))))), (rr 0, .inl (cI, 4, .inl (M 0))), (rr 1, .inl (cI, 4, .inl (M 1))), (rr 2, .inl (cI, 4, .inl (M 2))), (rr 3, .inl (cI, 4, .inl (M 3))), (rr 4, .inl (cI, 4, .inl (M 4)))] [(h0, .inr (0, [.ref hp, .ref pl, .ref en, .int ((lx_note fo fw md fp ht fe M len rk a).2.2.2.2.2.2.2.2)])), (hp, .inr (1, [.ref ow, .ref wo, .int (nI ((lx_note fo fw md fp ht fe M len rk a).2.2.1))])), (ow, .inl (cI, 48, .inl ((lx_note fo fw md fp ht fe M len rk a).1))), (wo, .inl (cI, 48, .inl ((lx_note fo fw md fp ht fe M len rk a).2.1))), (pl, .inr (2, [.ref po, .int (nI ((lx_note fo fw md fp ht fe M len rk a).2.2.2.2.1))])), (po, .inl (cI, 8, .inl ((lx_note fo fw md fp ht fe M len rk a).2.2.2.1))), (en, .inr (3, [.ref eo, .ref sb, .int (nI ((lx_note fo fw md fp ht fe M len rk a).2.2.2.2.2.2.2.1))])), (eo, .inl (cI, 5, .inl ((lx_note fo fw md fp ht fe M len rk a).2.2.2.2.2.1))), (sb, .inl (cG, 5, .inr (.inr (.inr (.inr (fun uu => some (rr uu))))))), (rr 0, .inl (cI, 4, .inl (((lx_note fo fw md fp ht fe M len rk a).2.2.2.2.2.2.1) 0))), (rr 1, .inl (cI, 4, .inl (((lx_note fo fw md fp ht fe M len rk a).2.2.2.2.2.2.1) 1))), (rr 2, .inl (cI, 4, .inl (((lx_note fo fw md fp ht fe M len rk a).2.2.2.2.2.2.1) 2))), (rr 3, .inl (cI, 4, .inl (((lx_note fo fw md fp ht fe M len rk a).2.2.2.2.2.2.1) 3))), (rr 4, .inl (cI, 4, .inl (((lx_note fo fw md fp ht fe M len rk a).2.2.2.2.2.2.1) 4)))] := by
  refine zz_MV_of (by decide) (Nat.le_of_ble_eq_true rfl) ?_
  intro p e s m args below meth c A ls Q hx hb hml hown hts hK hP hD hS hA hl hret
  have hown : s.vm.findClass R_X = some m.cls := hown
  have hl : lv_has ls 6 [(0, .ref h0), (1, .int (nI a))] := hl
  have hsa := lc_sa_le fo a
  have hsb := lc_sa_le (lc_bu fo fw fp ht fe M len).1 a
  refine lv_aload_n hx hb d_X_note_0 rfl (lv_at hl 0 rfl) ?_
  refine va_get (D := D) (ci := 0) (v := .ref hp) (C := R_X) (T := F_X) (N := 4) hx hb hts i_X hown hK hP 0 rfl rfl 0 (by decide) (hts _ kw_39) (fun _ h9 => h9) rfl d_X_note_1 ?_
  refine lv_iload_n hx hb d_X_note_4 rfl (lv_at hl 1 rfl) ?_
  refine zz_callI (np := 1) hx hb hml hown hts hK hP hD hS hA (c_Heap_objectIn l D cI hp ow wo fo fw md a (by omega)) (zz_gv kw_47 kw_48 kw_49 kw_6 kc_46) (by decide +kernel) rfl rfl ⟨Nat.le_of_ble_eq_true rfl, Nat.le_of_ble_eq_true rfl⟩ ⟨Nat.zero_le _, Nat.zero_le _⟩ [0] rfl 1 1 rfl rfl rfl [1, 2, 3] [0, 4, 5, 6, 7, 8, 9, 10, 11, 12, 13] [0, 11, 12, 13, 1, 2, 3, 4, 5, 6, 7, 8, 9, 10] rfl (by decide) (wr := [(h0, .inr (0, [.ref hp, .ref pl, .ref en, .int rk])), (pl, .inr (2, [.ref po, .int (nI ht)])), (po, .inl (cI, 8, .inl fp)), (en, .inr (3, [.ref eo, .ref sb, .int (nI len)])), (eo, .inl (cI, 5, .inl fe)), (sb, .inl (cG, 5, .inr (.inr (.inr (.inr (fun uu => some (rr uu))))))), (rr 0, .inl (cI, 4, .inl (M 0))), (rr 1, .inl (cI, 4, .inl (M 1))), (rr 2, .inl (cI, 4, .inl (M 2))), (rr 3, .inl (cI, 4, .inl (M 3))), (rr 4, .inl (cI, 4, .inl (M 4)))]) rfl (by decide) (by decide) (ws' := [(h0, .inr (0, [.ref hp, .ref pl, .ref en, .int rk])), (hp, .inr (1, [.ref ow, .ref wo, .int (nI md)])), (ow, .inl (cI, 48, .inl fo)), (wo, .inl (cI, 48, .inl fw)), (pl, .inr (2, [.ref po, .int (nI ht)])), (po, .inl (cI, 8, .inl fp)), (en, .inr (3, [.ref eo, .ref sb, .int (nI len)])), (eo, .inl (cI, 5, .inl fe)), (sb, .inl (cG, 5, .inr (.inr (.inr (.inr (fun uu => some (rr uu))))))), (rr 0, .inl (cI, 4, .inl (M 0))), (rr 1, .inl (cI, 4, .inl (M 1))), (rr 2, .inl (cI, 4, .inl (M 2))), (rr 3, .inl (cI, 4, .inl (M 3))), (rr 4, .inl (cI, 4, .inl (M 4)))]) rfl (by decide) rfl hl.1 rfl (Nat.le_of_ble_eq_true rfl) d_X_note_5 (fun H locs hP hD hS => ?_)
  refine lv_istore_n (lv' := [(2, .int (fo a)), (0, .ref h0), (1, .int (nI a))]) hx hb d_X_note_8 rfl hl (by decide) rfl (fun ls hl => ?_)
  refine lv_aload_n hx hb d_X_note_9 rfl (lv_at hl 1 rfl) ?_
  refine va_get (D := D) (ci := 0) (v := .ref en) (C := R_X) (T := F_X) (N := 4) hx hb hts i_X hown hK hP 0 rfl rfl 2 (by decide) (hts _ kw_63) (fun _ h9 => h9) rfl d_X_note_10 ?_
  refine lv_iload_n hx hb d_X_note_13 rfl (lv_at hl 0 rfl) ?_
  refine zz_callI (np := 1) hx hb hml hown hts hK hP hD hS hA (c_Entries_tellOf l D cI cG en eo sb rr fe M len (fo a) (by omega)) (zz_gv kw_94 kw_95 kw_96 kw_68 kc_93) (by decide +kernel) rfl rfl ⟨Nat.le_of_ble_eq_true rfl, Nat.le_of_ble_eq_true rfl⟩ ⟨Nat.zero_le _, Nat.zero_le _⟩ [0, 1] rfl 6 3 rfl rfl rfl [6, 7, 8, 9, 10, 11, 12, 13] [0, 1, 2, 3, 4, 5] [0, 1, 2, 3, 4, 5, 6, 7, 8, 9, 10, 11, 12, 13] rfl (by decide) (wr := [(h0, .inr (0, [.ref hp, .ref pl, .ref en, .int rk])), (hp, .inr (1, [.ref ow, .ref wo, .int (nI md)])), (ow, .inl (cI, 48, .inl fo)), (wo, .inl (cI, 48, .inl fw)), (pl, .inr (2, [.ref po, .int (nI ht)])), (po, .inl (cI, 8, .inl fp))]) rfl (by decide) (by decide) (ws' := [(h0, .inr (0, [.ref hp, .ref pl, .ref en, .int rk])), (hp, .inr (1, [.ref ow, .ref wo, .int (nI md)])), (ow, .inl (cI, 48, .inl fo)), (wo, .inl (cI, 48, .inl fw)), (pl, .inr (2, [.ref po, .int (nI ht)])), (po, .inl (cI, 8, .inl fp)), (en, .inr (3, [.ref eo, .ref sb, .int (nI len)])), (eo, .inl (cI, 5, .inl fe)), (sb, .inl (cG, 5, .inr (.inr (.inr (.inr (fun uu => some (rr uu))))))), (rr 0, .inl (cI, 4, .inl (M 0))), (rr 1, .inl (cI, 4, .inl (M 1))), (rr 2, .inl (cI, 4, .inl (M 2))), (rr 3, .inl (cI, 4, .inl (M 3))), (rr 4, .inl (cI, 4, .inl (M 4)))]) rfl (by decide) rfl hl.1 rfl (Nat.le_of_ble_eq_true rfl) d_X_note_14 (fun H locs hP hD hS => ?_)
  refine zz_bI (fun h14 => ?_) (fun h14 => ?_)
  · skip
    refine zz_if_eq (tgt := 21) hx hb (by omega) d_X_note_17 (by decide) (fun c17 => ?_) (fun c17 => ?_)
    · skip
      exact absurd c17 (by omega)
    · skip
      have eW : ([(h0, .inr (0, [.ref hp, .ref pl, .ref en, .int rk])), (hp, .inr (1, [.ref ow, .ref wo, .int (nI md)])), (ow, .inl (cI, 48, .inl fo)), (wo, .inl (cI, 48, .inl fw)), (pl, .inr (2, [.ref po, .int (nI ht)])), (po, .inl (cI, 8, .inl fp)), (en, .inr (3, [.ref eo, .ref sb, .int (nI len)])), (eo, .inl (cI, 5, .inl fe)), (sb, .inl (cG, 5, .inr (.inr (.inr (.inr (fun uu => some (rr uu))))))), (rr 0, .inl (cI, 4, .inl (M 0))), (rr 1, .inl (cI, 4, .inl (M 1))), (rr 2, .inl (cI, 4, .inl (M 2))), (rr 3, .inl (cI, 4, .inl (M 3))), (rr 4, .inl (cI, 4, .inl (M 4)))] : va_W) = [(h0, .inr (0, [.ref hp, .ref pl, .ref en, .int ((lx_note fo fw md fp ht fe M len rk a).2.2.2.2.2.2.2.2)])), (hp, .inr (1, [.ref ow, .ref wo, .int (nI ((lx_note fo fw md fp ht fe M len rk a).2.2.1))])), (ow, .inl (cI, 48, .inl ((lx_note fo fw md fp ht fe M len rk a).1))), (wo, .inl (cI, 48, .inl ((lx_note fo fw md fp ht fe M len rk a).2.1))), (pl, .inr (2, [.ref po, .int (nI ((lx_note fo fw md fp ht fe M len rk a).2.2.2.2.1))])), (po, .inl (cI, 8, .inl ((lx_note fo fw md fp ht fe M len rk a).2.2.2.1))), (en, .inr (3, [.ref eo, .ref sb, .int (nI ((lx_note fo fw md fp ht fe M len rk a).2.2.2.2.2.2.2.1))])), (eo, .inl (cI, 5, .inl ((lx_note fo fw md fp ht fe M len rk a).2.2.2.2.2.1))), (sb, .inl (cG, 5, .inr (.inr (.inr (.inr (fun uu => some (rr uu))))))), (rr 0, .inl (cI, 4, .inl (((lx_note fo fw md fp ht fe M len rk a).2.2.2.2.2.2.1) 0))), (rr 1, .inl (cI, 4, .inl (((lx_note fo fw md fp ht fe M len rk a).2.2.2.2.2.2.1) 1))), (rr 2, .inl (cI, 4, .inl (((lx_note fo fw md fp ht fe M len rk a).2.2.2.2.2.2.1) 2))), (rr 3, .inl (cI, 4, .inl (((lx_note fo fw md fp ht fe M len rk a).2.2.2.2.2.2.1) 3))), (rr 4, .inl (cI, 4, .inl (((lx_note fo fw md fp ht fe M len rk a).2.2.2.2.2.2.1) 4)))] := by first | (simp only [lx_note, if_pos h14]; done) | (simp only [lx_note, if_neg (zz_nt h14), if_neg e5]; rw [show j = lc_sa fo a by omega]; done) | (simp only [lx_note, if_neg (zz_nt h14), if_pos e5]; rw [show j = lc_sa (lc_bu fo fw fp ht fe M len).1 a by omega]; done) | (simp only [lx_note, if_neg (zz_nt h14), if_pos e5]; rw [show j = lc_sa (lc_bu fo fw fp ht fe M len).1 a by omega]; rfl)
      exact hret _ _ _ _ d_X_note_20 (zz_toP eW hP) (zz_toD eW hD) hS
  · skip
    refine zz_if_eq (tgt := 21) hx hb (by omega) d_X_note_17 (by decide) (fun c17 => ?_) (fun c17 => ?_)
    · skip
      refine lv_aload_n hx hb d_X_note_21 rfl (lv_at hl 1 rfl) ?_
      refine va_get (D := D) (ci := 0) (v := .ref en) (C := R_X) (T := F_X) (N := 4) hx hb hts i_X hown hK hP 0 rfl rfl 2 (by decide) (hts _ kw_63) (fun _ h9 => h9) rfl d_X_note_22 ?_
      refine zz_callI (np := 0) hx hb hml hown hts hK hP hD hS hA (c_Entries_areFull l D cI cG en eo sb rr fe M len (by omega)) (zz_gv kw_98 kw_99 kw_100 kw_68 kc_97) (by decide +kernel) rfl rfl ⟨Nat.le_of_ble_eq_true rfl, Nat.le_of_ble_eq_true rfl⟩ ⟨Nat.zero_le _, Nat.zero_le _⟩ [0, 1] rfl 6 3 rfl rfl rfl [6, 7, 8, 9, 10, 11, 12, 13] [0, 1, 2, 3, 4, 5] [0, 1, 2, 3, 4, 5, 6, 7, 8, 9, 10, 11, 12, 13] rfl (by decide) (wr := [(h0, .inr (0, [.ref hp, .ref pl, .ref en, .int rk])), (hp, .inr (1, [.ref ow, .ref wo, .int (nI md)])), (ow, .inl (cI, 48, .inl fo)), (wo, .inl (cI, 48, .inl fw)), (pl, .inr (2, [.ref po, .int (nI ht)])), (po, .inl (cI, 8, .inl fp))]) rfl (by decide) (by decide) (ws' := [(h0, .inr (0, [.ref hp, .ref pl, .ref en, .int rk])), (hp, .inr (1, [.ref ow, .ref wo, .int (nI md)])), (ow, .inl (cI, 48, .inl fo)), (wo, .inl (cI, 48, .inl fw)), (pl, .inr (2, [.ref po, .int (nI ht)])), (po, .inl (cI, 8, .inl fp)), (en, .inr (3, [.ref eo, .ref sb, .int (nI len)])), (eo, .inl (cI, 5, .inl fe)), (sb, .inl (cG, 5, .inr (.inr (.inr (.inr (fun uu => some (rr uu))))))), (rr 0, .inl (cI, 4, .inl (M 0))), (rr 1, .inl (cI, 4, .inl (M 1))), (rr 2, .inl (cI, 4, .inl (M 2))), (rr 3, .inl (cI, 4, .inl (M 3))), (rr 4, .inl (cI, 4, .inl (M 4)))]) rfl (by decide) rfl hl.1 rfl (Nat.le_of_ble_eq_true rfl) d_X_note_25 (fun H locs hP hD hS => ?_)
      refine zz_bI (fun h25 => ?_) (fun h25 => ?_)
      · skip
        have e5 : len = 5 := by simpa using h25
        have h4b := h4b e5
        refine zz_if_eq (tgt := 36) hx hb (by omega) d_X_note_28 (by decide) (fun c28 => ?_) (fun c28 => ?_)
        · skip
          exact absurd c28 (by omega)
        · skip
          refine lv_aload_n hx hb d_X_note_31 rfl (lv_at hl 1 rfl) ?_
          refine zz_callI (np := 0) hx hb hml hown hts hK hP hD hS hA (c_X_bringUpToDate l D cI cG h0 hp ow wo pl po en eo sb rr fo fw md fp ht fe M len rk hht hlen hc) (zz_gv kw_102 kw_103 kw_104 kw_58 kc_101) (by decide +kernel) rfl rfl ⟨Nat.le_of_ble_eq_true rfl, Nat.le_of_ble_eq_true rfl⟩ ⟨Nat.zero_le _, Nat.zero_le _⟩ [0, 1] rfl 0 0 rfl rfl rfl [0, 1, 2, 3, 4, 5, 6, 7, 8, 9, 10, 11, 12, 13] [] [0, 1, 2, 3, 4, 5, 6, 7, 8, 9, 10, 11, 12, 13] rfl (by decide) (wr := []) rfl (by decide) (by decide) (ws' := [(h0, .inr (0, [.ref hp, .ref pl, .ref en, .int (rk + nI 1)])), (hp, .inr (1, [.ref ow, .ref wo, .int (nI md)])), (ow, .inl (cI, 48, .inl ((lc_bu fo fw fp ht fe M len).1))), (wo, .inl (cI, 48, .inl ((lc_bu fo fw fp ht fe M len).2.1))), (pl, .inr (2, [.ref po, .int (nI ht)])), (po, .inl (cI, 8, .inl fp)), (en, .inr (3, [.ref eo, .ref sb, .int (nI 0)])), (eo, .inl (cI, 5, .inl fe)), (sb, .inl (cG, 5, .inr (.inr (.inr (.inr (fun uu => some (rr uu))))))), (rr 0, .inl (cI, 4, .inl (M 0))), (rr 1, .inl (cI, 4, .inl (M 1))), (rr 2, .inl (cI, 4, .inl (M 2))), (rr 3, .inl (cI, 4, .inl (M 3))), (rr 4, .inl (cI, 4, .inl (M 4)))]) rfl (by decide) rfl hl.1 rfl (Nat.le_of_ble_eq_true rfl) d_X_note_32 (fun H locs hP hD hS => ?_)
          refine lv_pop hx hb d_X_note_35 rfl ?_
          refine lv_aload_n hx hb d_X_note_36 rfl (lv_at hl 1 rfl) ?_
          refine va_get (D := D) (ci := 0) (v := .ref en) (C := R_X) (T := F_X) (N := 4) hx hb hts i_X hown hK hP 0 rfl rfl 2 (by decide) (hts _ kw_63) (fun _ h9 => h9) rfl d_X_note_37 ?_
          refine lv_iload_n hx hb d_X_note_40 rfl (lv_at hl 0 rfl) ?_
          refine zz_callI (np := 1) hx hb hml hown hts hK hP hD hS hA (c_Entries_open l D cI cG en eo sb rr fe M 0 (fo a) (by omega)) (zz_gv kw_106 kw_107 kw_108 kw_68 kc_105) (by decide +kernel) rfl rfl ⟨Nat.le_of_ble_eq_true rfl, Nat.le_of_ble_eq_true rfl⟩ ⟨Nat.zero_le _, Nat.zero_le _⟩ [0, 1] rfl 6 3 rfl rfl rfl [6, 7, 8, 9, 10, 11, 12, 13] [0, 1, 2, 3, 4, 5] [0, 1, 2, 3, 4, 5, 6, 7, 8, 9, 10, 11, 12, 13] rfl (by decide) (wr := [(h0, .inr (0, [.ref hp, .ref pl, .ref en, .int (rk + nI 1)])), (hp, .inr (1, [.ref ow, .ref wo, .int (nI md)])), (ow, .inl (cI, 48, .inl ((lc_bu fo fw fp ht fe M len).1))), (wo, .inl (cI, 48, .inl ((lc_bu fo fw fp ht fe M len).2.1))), (pl, .inr (2, [.ref po, .int (nI ht)])), (po, .inl (cI, 8, .inl fp))]) rfl (by decide) (by decide) (ws' := [(h0, .inr (0, [.ref hp, .ref pl, .ref en, .int (rk + nI 1)])), (hp, .inr (1, [.ref ow, .ref wo, .int (nI md)])), (ow, .inl (cI, 48, .inl ((lc_bu fo fw fp ht fe M len).1))), (wo, .inl (cI, 48, .inl ((lc_bu fo fw fp ht fe M len).2.1))), (pl, .inr (2, [.ref po, .int (nI ht)])), (po, .inl (cI, 8, .inl fp)), (en, .inr (3, [.ref eo, .ref sb, .int (nI (0 + 1))])), (eo, .inl (cI, 5, .inl (upd fe 0 (fo a)))), (sb, .inl (cG, 5, .inr (.inr (.inr (.inr (fun uu => some (rr uu))))))), (rr 0, .inl (cI, 4, .inl (M 0))), (rr 1, .inl (cI, 4, .inl (M 1))), (rr 2, .inl (cI, 4, .inl (M 2))), (rr 3, .inl (cI, 4, .inl (M 3))), (rr 4, .inl (cI, 4, .inl (M 4)))]) rfl (by decide) rfl hl.1 rfl (Nat.le_of_ble_eq_true rfl) d_X_note_41 (fun H locs hP hD hS => ?_)
          refine lv_istore_n (lv' := [(3, .int (nI 0)), (2, .int (fo a)), (0, .ref h0), (1, .int (nI a))]) hx hb d_X_note_44 rfl hl (by decide) rfl (fun ls hl => ?_)
          refine lv_aload_n hx hb d_X_note_45 rfl (lv_at hl 2 rfl) ?_
          refine va_get (D := D) (ci := 0) (v := .ref hp) (C := R_X) (T := F_X) (N := 4) hx hb hts i_X hown hK hP 0 rfl rfl 0 (by decide) (hts _ kw_39) (fun _ h9 => h9) rfl d_X_note_46 ?_
          refine lv_iload_n hx hb d_X_note_49 rfl (lv_at hl 3 rfl) ?_
          refine zz_callI (np := 1) hx hb hml hown hts hK hP hD hS hA (c_Heap_slotsAt_s l D cI hp ow wo ((lc_bu fo fw fp ht fe M len).1) ((lc_bu fo fw fp ht fe M len).2.1) md a (by omega)) (zz_gv kw_69 kw_9 kw_10 kw_6 kc_7) (by decide +kernel) rfl rfl ⟨Nat.le_of_ble_eq_true rfl, Nat.le_of_ble_eq_true rfl⟩ ⟨Nat.zero_le _, Nat.zero_le _⟩ [0] rfl 1 1 rfl rfl rfl [1, 2, 3] [0, 4, 5, 6, 7, 8, 9, 10, 11, 12, 13] [0, 11, 12, 13, 1, 2, 3, 4, 5, 6, 7, 8, 9, 10] rfl (by decide) (wr := [(h0, .inr (0, [.ref hp, .ref pl, .ref en, .int (rk + nI 1)])), (pl, .inr (2, [.ref po, .int (nI ht)])), (po, .inl (cI, 8, .inl fp)), (en, .inr (3, [.ref eo, .ref sb, .int (nI (0 + 1))])), (eo, .inl (cI, 5, .inl (upd fe 0 (fo a)))), (sb, .inl (cG, 5, .inr (.inr (.inr (.inr (fun uu => some (rr uu))))))), (rr 0, .inl (cI, 4, .inl (M 0))), (rr 1, .inl (cI, 4, .inl (M 1))), (rr 2, .inl (cI, 4, .inl (M 2))), (rr 3, .inl (cI, 4, .inl (M 3))), (rr 4, .inl (cI, 4, .inl (M 4)))]) rfl (by decide) (by decide) (ws' := [(h0, .inr (0, [.ref hp, .ref pl, .ref en, .int (rk + nI 1)])), (hp, .inr (1, [.ref ow, .ref wo, .int (nI md)])), (ow, .inl (cI, 48, .inl ((lc_bu fo fw fp ht fe M len).1))), (wo, .inl (cI, 48, .inl ((lc_bu fo fw fp ht fe M len).2.1))), (pl, .inr (2, [.ref po, .int (nI ht)])), (po, .inl (cI, 8, .inl fp)), (en, .inr (3, [.ref eo, .ref sb, .int (nI (0 + 1))])), (eo, .inl (cI, 5, .inl (upd fe 0 (fo a)))), (sb, .inl (cG, 5, .inr (.inr (.inr (.inr (fun uu => some (rr uu))))))), (rr 0, .inl (cI, 4, .inl (M 0))), (rr 1, .inl (cI, 4, .inl (M 1))), (rr 2, .inl (cI, 4, .inl (M 2))), (rr 3, .inl (cI, 4, .inl (M 3))), (rr 4, .inl (cI, 4, .inl (M 4)))]) rfl (by decide) rfl hl.1 rfl (Nat.le_of_ble_eq_true rfl) d_X_note_50 (fun H locs hP hD hS => ?_)
          refine lv_istore (lv' := [(4, .int (nI (lc_sa ((lc_bu fo fw fp ht fe M len).1) a))), (3, .int (nI 0)), (2, .int (fo a)), (0, .ref h0), (1, .int (nI a))]) hx hb d_X_note_53 hl (by decide) rfl (fun ls hl => ?_)
          refine lv_iconst (v := nI 0) hx hb d_X_note_55 (by decide +kernel) ?_
          refine lv_istore (lv' := [(5, .int (nI 0)), (4, .int (nI (lc_sa ((lc_bu fo fw fp ht fe M len).1) a))), (3, .int (nI 0)), (2, .int (fo a)), (0, .ref h0), (1, .int (nI a))]) hx hb d_X_note_56 hl (by decide) rfl (fun ls hl => ?_)
          have loop58 : ∀ (fu : Nat) (j : Nat), 48 - j < fu → (hj : j ≤ lc_sa ((lc_bu fo fw fp ht fe M len).1) a) → ∀ (H : Heap) (locs : List Loc), va_P D classes [(h0, .inr (0, [.ref hp, .ref pl, .ref en, .int (rk + nI 1)])), (hp, .inr (1, [.ref ow, .ref wo, .int (nI md)])), (ow, .inl (cI, 48, .inl ((lc_bu fo fw fp ht fe M len).1))), (wo, .inl (cI, 48, .inl ((lc_bu fo fw fp ht fe M len).2.1))), (pl, .inr (2, [.ref po, .int (nI ht)])), (po, .inl (cI, 8, .inl fp)), (en, .inr (3, [.ref eo, .ref sb, .int (nI (0 + 1))])), (eo, .inl (cI, 5, .inl (upd fe 0 (fo a)))), (sb, .inl (cG, 5, .inr (.inr (.inr (.inr (fun uu => some (rr uu))))))), (rr 0, .inl (cI, 4, .inl ((va_up M 0 (lc_nr ((lc_bu fo fw fp ht fe M len).2.1) a (M 0) j)) 0))), (rr 1, .inl (cI, 4, .inl ((va_up M 0 (lc_nr ((lc_bu fo fw fp ht fe M len).2.1) a (M 0) j)) 1))), (rr 2, .inl (cI, 4, .inl ((va_up M 0 (lc_nr ((lc_bu fo fw fp ht fe M len).2.1) a (M 0) j)) 2))), (rr 3, .inl (cI, 4, .inl ((va_up M 0 (lc_nr ((lc_bu fo fw fp ht fe M len).2.1) a (M 0) j)) 3))), (rr 4, .inl (cI, 4, .inl ((va_up M 0 (lc_nr ((lc_bu fo fw fp ht fe M len).2.1) a (M 0) j)) 4)))] H → va_D A [(h0, .inr (0, [.ref hp, .ref pl, .ref en, .int (rk + nI 1)])), (hp, .inr (1, [.ref ow, .ref wo, .int (nI md)])), (ow, .inl (cI, 48, .inl ((lc_bu fo fw fp ht fe M len).1))), (wo, .inl (cI, 48, .inl ((lc_bu fo fw fp ht fe M len).2.1))), (pl, .inr (2, [.ref po, .int (nI ht)])), (po, .inl (cI, 8, .inl fp)), (en, .inr (3, [.ref eo, .ref sb, .int (nI (0 + 1))])), (eo, .inl (cI, 5, .inl (upd fe 0 (fo a)))), (sb, .inl (cG, 5, .inr (.inr (.inr (.inr (fun uu => some (rr uu))))))), (rr 0, .inl (cI, 4, .inl ((va_up M 0 (lc_nr ((lc_bu fo fw fp ht fe M len).2.1) a (M 0) j)) 0))), (rr 1, .inl (cI, 4, .inl ((va_up M 0 (lc_nr ((lc_bu fo fw fp ht fe M len).2.1) a (M 0) j)) 1))), (rr 2, .inl (cI, 4, .inl ((va_up M 0 (lc_nr ((lc_bu fo fw fp ht fe M len).2.1) a (M 0) j)) 2))), (rr 3, .inl (cI, 4, .inl ((va_up M 0 (lc_nr ((lc_bu fo fw fp ht fe M len).2.1) a (M 0) j)) 3))), (rr 4, .inl (cI, 4, .inl ((va_up M 0 (lc_nr ((lc_bu fo fw fp ht fe M len).2.1) a (M 0) j)) 4)))] → va_S A s.heap H locs → ∀ (ls : Array Slot), lv_has ls 6 [(0, .ref h0), (1, .int (nI a)), (3, .int (nI 0)), (4, .int (nI (lc_sa ((lc_bu fo fw fp ht fe M len).1) a))), (5, .int (nI j))] → W p l e ({ frames := 5, cells := 0, slots := 0, locals := 111 } : Room) s m args below meth c H locs 0 0 Q (F0 m 58 ls []) := by
            intro fu
            induction fu with
            | zero => intro j hf; omega
            | succ fu ih58 =>
              intro j hf hj H locs hP hD hS ls hl
              refine lv_iload hx hb d_X_note_58 (lv_at hl 4 rfl) ?_
              refine lv_iload hx hb d_X_note_60 (lv_at hl 3 rfl) ?_
              refine zz_icmp_ge (tgt := 91) hx hb (by omega) (by omega) d_X_note_62 (by decide) (fun c62 => ?_) (fun c62 => ?_)
              · skip
                have eW : ([(h0, .inr (0, [.ref hp, .ref pl, .ref en, .int (rk + nI 1)])), (hp, .inr (1, [.ref ow, .ref wo, .int (nI md)])), (ow, .inl (cI, 48, .inl ((lc_bu fo fw fp ht fe M len).1))), (wo, .inl (cI, 48, .inl ((lc_bu fo fw fp ht fe M len).2.1))), (pl, .inr (2, [.ref po, .int (nI ht)])), (po, .inl (cI, 8, .inl fp)), (en, .inr (3, [.ref eo, .ref sb, .int (nI (0 + 1))])), (eo, .inl (cI, 5, .inl (upd fe 0 (fo a)))), (sb, .inl (cG, 5, .inr (.inr (.inr (.inr (fun uu => some (rr uu))))))), (rr 0, .inl (cI, 4, .inl ((va_up M 0 (lc_nr ((lc_bu fo fw fp ht fe M len).2.1) a (M 0) j)) 0))), (rr 1, .inl (cI, 4, .inl ((va_up M 0 (lc_nr ((lc_bu fo fw fp ht fe M len).2.1) a (M 0) j)) 1))), (rr 2, .inl (cI, 4, .inl ((va_up M 0 (lc_nr ((lc_bu fo fw fp ht fe M len).2.1) a (M 0) j)) 2))), (rr 3, .inl (cI, 4, .inl ((va_up M 0 (lc_nr ((lc_bu fo fw fp ht fe M len).2.1) a (M 0) j)) 3))), (rr 4, .inl (cI, 4, .inl ((va_up M 0 (lc_nr ((lc_bu fo fw fp ht fe M len).2.1) a (M 0) j)) 4)))] : va_W) = [(h0, .inr (0, [.ref hp, .ref pl, .ref en, .int ((lx_note fo fw md fp ht fe M len rk a).2.2.2.2.2.2.2.2)])), (hp, .inr (1, [.ref ow, .ref wo, .int (nI ((lx_note fo fw md fp ht fe M len rk a).2.2.1))])), (ow, .inl (cI, 48, .inl ((lx_note fo fw md fp ht fe M len rk a).1))), (wo, .inl (cI, 48, .inl ((lx_note fo fw md fp ht fe M len rk a).2.1))), (pl, .inr (2, [.ref po, .int (nI ((lx_note fo fw md fp ht fe M len rk a).2.2.2.2.1))])), (po, .inl (cI, 8, .inl ((lx_note fo fw md fp ht fe M len rk a).2.2.2.1))), (en, .inr (3, [.ref eo, .ref sb, .int (nI ((lx_note fo fw md fp ht fe M len rk a).2.2.2.2.2.2.2.1))])), (eo, .inl (cI, 5, .inl ((lx_note fo fw md fp ht fe M len rk a).2.2.2.2.2.1))), (sb, .inl (cG, 5, .inr (.inr (.inr (.inr (fun uu => some (rr uu))))))), (rr 0, .inl (cI, 4, .inl (((lx_note fo fw md fp ht fe M len rk a).2.2.2.2.2.2.1) 0))), (rr 1, .inl (cI, 4, .inl (((lx_note fo fw md fp ht fe M len rk a).2.2.2.2.2.2.1) 1))), (rr 2, .inl (cI, 4, .inl (((lx_note fo fw md fp ht fe M len rk a).2.2.2.2.2.2.1) 2))), (rr 3, .inl (cI, 4, .inl (((lx_note fo fw md fp ht fe M len rk a).2.2.2.2.2.2.1) 3))), (rr 4, .inl (cI, 4, .inl (((lx_note fo fw md fp ht fe M len rk a).2.2.2.2.2.2.1) 4)))] := by first | (simp only [lx_note, if_pos h14]; done) | (simp only [lx_note, if_neg (zz_nt h14), if_neg e5]; rw [show j = lc_sa fo a by omega]; done) | (simp only [lx_note, if_neg (zz_nt h14), if_pos e5]; rw [show j = lc_sa (lc_bu fo fw fp ht fe M len).1 a by omega]; done) | (simp only [lx_note, if_neg (zz_nt h14), if_pos e5]; rw [show j = lc_sa (lc_bu fo fw fp ht fe M len).1 a by omega]; rfl)
                exact hret _ _ _ _ d_X_note_91 (zz_toP eW hP) (zz_toD eW hD) hS
              · skip
                refine lv_aload_n hx hb d_X_note_65 rfl (lv_at hl 0 rfl) ?_
                refine va_get (D := D) (ci := 0) (v := .ref en) (C := R_X) (T := F_X) (N := 4) hx hb hts i_X hown hK hP 0 rfl rfl 2 (by decide) (hts _ kw_63) (fun _ h9 => h9) rfl d_X_note_66 ?_
                refine lv_iload_n hx hb d_X_note_69 rfl (lv_at hl 2 rfl) ?_
                refine lv_iload hx hb d_X_note_70 (lv_at hl 4 rfl) ?_
                refine lv_aload_n hx hb d_X_note_72 rfl (lv_at hl 0 rfl) ?_
                refine va_get (D := D) (ci := 0) (v := .ref hp) (C := R_X) (T := F_X) (N := 4) hx hb hts i_X hown hK hP 0 rfl rfl 0 (by decide) (hts _ kw_39) (fun _ h9 => h9) rfl d_X_note_73 ?_
                refine lv_iload_n hx hb d_X_note_76 rfl (lv_at hl 1 rfl) ?_
                refine lv_iload hx hb d_X_note_77 (lv_at hl 4 rfl) ?_
                refine zz_callI (np := 2) hx hb hml hown hts hK hP hD hS hA (c_Heap_inSlot l D cI hp ow wo ((lc_bu fo fw fp ht fe M len).1) ((lc_bu fo fw fp ht fe M len).2.1) md a j (by omega)) (zz_gv kw_75 kw_22 kw_23 kw_6 kc_20) (by decide +kernel) rfl rfl ⟨Nat.le_of_ble_eq_true rfl, Nat.le_of_ble_eq_true rfl⟩ ⟨Nat.zero_le _, Nat.zero_le _⟩ [0] rfl 1 1 rfl rfl rfl [1, 2, 3] [0, 4, 5, 6, 7, 8, 9, 10, 11, 12, 13] [0, 11, 12, 13, 1, 2, 3, 4, 5, 6, 7, 8, 9, 10] rfl (by decide) (wr := [(h0, .inr (0, [.ref hp, .ref pl, .ref en, .int (rk + nI 1)])), (pl, .inr (2, [.ref po, .int (nI ht)])), (po, .inl (cI, 8, .inl fp)), (en, .inr (3, [.ref eo, .ref sb, .int (nI (0 + 1))])), (eo, .inl (cI, 5, .inl (upd fe 0 (fo a)))), (sb, .inl (cG, 5, .inr (.inr (.inr (.inr (fun uu => some (rr uu))))))), (rr 0, .inl (cI, 4, .inl ((va_up M 0 (lc_nr ((lc_bu fo fw fp ht fe M len).2.1) a (M 0) j)) 0))), (rr 1, .inl (cI, 4, .inl ((va_up M 0 (lc_nr ((lc_bu fo fw fp ht fe M len).2.1) a (M 0) j)) 1))), (rr 2, .inl (cI, 4, .inl ((va_up M 0 (lc_nr ((lc_bu fo fw fp ht fe M len).2.1) a (M 0) j)) 2))), (rr 3, .inl (cI, 4, .inl ((va_up M 0 (lc_nr ((lc_bu fo fw fp ht fe M len).2.1) a (M 0) j)) 3))), (rr 4, .inl (cI, 4, .inl ((va_up M 0 (lc_nr ((lc_bu fo fw fp ht fe M len).2.1) a (M 0) j)) 4)))]) rfl (by decide) (by decide) (ws' := [(h0, .inr (0, [.ref hp, .ref pl, .ref en, .int (rk + nI 1)])), (hp, .inr (1, [.ref ow, .ref wo, .int (nI md)])), (ow, .inl (cI, 48, .inl ((lc_bu fo fw fp ht fe M len).1))), (wo, .inl (cI, 48, .inl ((lc_bu fo fw fp ht fe M len).2.1))), (pl, .inr (2, [.ref po, .int (nI ht)])), (po, .inl (cI, 8, .inl fp)), (en, .inr (3, [.ref eo, .ref sb, .int (nI (0 + 1))])), (eo, .inl (cI, 5, .inl (upd fe 0 (fo a)))), (sb, .inl (cG, 5, .inr (.inr (.inr (.inr (fun uu => some (rr uu))))))), (rr 0, .inl (cI, 4, .inl ((va_up M 0 (lc_nr ((lc_bu fo fw fp ht fe M len).2.1) a (M 0) j)) 0))), (rr 1, .inl (cI, 4, .inl ((va_up M 0 (lc_nr ((lc_bu fo fw fp ht fe M len).2.1) a (M 0) j)) 1))), (rr 2, .inl (cI, 4, .inl ((va_up M 0 (lc_nr ((lc_bu fo fw fp ht fe M len).2.1) a (M 0) j)) 2))), (rr 3, .inl (cI, 4, .inl ((va_up M 0 (lc_nr ((lc_bu fo fw fp ht fe M len).2.1) a (M 0) j)) 3))), (rr 4, .inl (cI, 4, .inl ((va_up M 0 (lc_nr ((lc_bu fo fw fp ht fe M len).2.1) a (M 0) j)) 4)))]) rfl (by decide) rfl hl.1 rfl (Nat.le_of_ble_eq_true rfl) d_X_note_79 (fun H locs hP hD hS => ?_)
                refine zz_callV (np := 3) hx hb hml hown hts hK hP hD hS hA (c_Entries_setBefore l D cI cG en eo sb rr (upd fe 0 (fo a)) (va_up M 0 (lc_nr ((lc_bu fo fw fp ht fe M len).2.1) a (M 0) j)) (0 + 1) 0 j (((lc_bu fo fw fp ht fe M len).2.1) (a + 1 + j)) (by omega) (by omega)) (zz_gv kw_110 kw_111 kw_112 kw_68 kc_109) (by decide +kernel) rfl rfl ⟨Nat.le_of_ble_eq_true rfl, Nat.le_of_ble_eq_true rfl⟩ ⟨Nat.zero_le _, Nat.zero_le _⟩ [0, 1] rfl 6 3 rfl rfl rfl [6, 7, 8, 9, 10, 11, 12, 13] [0, 1, 2, 3, 4, 5] [0, 1, 2, 3, 4, 5, 6, 7, 8, 9, 10, 11, 12, 13] rfl (by decide) (wr := [(h0, .inr (0, [.ref hp, .ref pl, .ref en, .int (rk + nI 1)])), (hp, .inr (1, [.ref ow, .ref wo, .int (nI md)])), (ow, .inl (cI, 48, .inl ((lc_bu fo fw fp ht fe M len).1))), (wo, .inl (cI, 48, .inl ((lc_bu fo fw fp ht fe M len).2.1))), (pl, .inr (2, [.ref po, .int (nI ht)])), (po, .inl (cI, 8, .inl fp))]) rfl (by decide) (by decide) (ws' := [(h0, .inr (0, [.ref hp, .ref pl, .ref en, .int (rk + nI 1)])), (hp, .inr (1, [.ref ow, .ref wo, .int (nI md)])), (ow, .inl (cI, 48, .inl ((lc_bu fo fw fp ht fe M len).1))), (wo, .inl (cI, 48, .inl ((lc_bu fo fw fp ht fe M len).2.1))), (pl, .inr (2, [.ref po, .int (nI ht)])), (po, .inl (cI, 8, .inl fp)), (en, .inr (3, [.ref eo, .ref sb, .int (nI (0 + 1))])), (eo, .inl (cI, 5, .inl (upd fe 0 (fo a)))), (sb, .inl (cG, 5, .inr (.inr (.inr (.inr (fun uu => some (rr uu))))))), (rr 0, .inl (cI, 4, .inl ((va_up (va_up M 0 (lc_nr ((lc_bu fo fw fp ht fe M len).2.1) a (M 0) j)) 0 (upd ((va_up M 0 (lc_nr ((lc_bu fo fw fp ht fe M len).2.1) a (M 0) j)) 0) j (((lc_bu fo fw fp ht fe M len).2.1) (a + 1 + j)))) 0))), (rr 1, .inl (cI, 4, .inl ((va_up (va_up M 0 (lc_nr ((lc_bu fo fw fp ht fe M len).2.1) a (M 0) j)) 0 (upd ((va_up M 0 (lc_nr ((lc_bu fo fw fp ht fe M len).2.1) a (M 0) j)) 0) j (((lc_bu fo fw fp ht fe M len).2.1) (a + 1 + j)))) 1))), (rr 2, .inl (cI, 4, .inl ((va_up (va_up M 0 (lc_nr ((lc_bu fo fw fp ht fe M len).2.1) a (M 0) j)) 0 (upd ((va_up M 0 (lc_nr ((lc_bu fo fw fp ht fe M len).2.1) a (M 0) j)) 0) j (((lc_bu fo fw fp ht fe M len).2.1) (a + 1 + j)))) 2))), (rr 3, .inl (cI, 4, .inl ((va_up (va_up M 0 (lc_nr ((lc_bu fo fw fp ht fe M len).2.1) a (M 0) j)) 0 (upd ((va_up M 0 (lc_nr ((lc_bu fo fw fp ht fe M len).2.1) a (M 0) j)) 0) j (((lc_bu fo fw fp ht fe M len).2.1) (a + 1 + j)))) 3))), (rr 4, .inl (cI, 4, .inl ((va_up (va_up M 0 (lc_nr ((lc_bu fo fw fp ht fe M len).2.1) a (M 0) j)) 0 (upd ((va_up M 0 (lc_nr ((lc_bu fo fw fp ht fe M len).2.1) a (M 0) j)) 0) j (((lc_bu fo fw fp ht fe M len).2.1) (a + 1 + j)))) 4)))]) rfl (by decide) rfl hl.1 rfl (Nat.le_of_ble_eq_true rfl) d_X_note_82 (fun H locs hP hD hS => ?_)
                refine lv_iinc (v := nI (j + 1)) (lv' := [(5, .int (nI (j + 1))), (0, .ref h0), (1, .int (nI a)), (3, .int (nI 0)), (4, .int (nI (lc_sa ((lc_bu fo fw fp ht fe M len).1) a)))]) hx hb d_X_note_85 hl (k := 4) rfl (nI_1 _) (by decide) rfl (fun ls hl => ?_)
                refine lv_goto (tgt := 58) hx hb d_X_note_88 (by decide) ?_
                have eW1 : ([(h0, .inr (0, [.ref hp, .ref pl, .ref en, .int (rk + nI 1)])), (hp, .inr (1, [.ref ow, .ref wo, .int (nI md)])), (ow, .inl (cI, 48, .inl ((lc_bu fo fw fp ht fe M len).1))), (wo, .inl (cI, 48, .inl ((lc_bu fo fw fp ht fe M len).2.1))), (pl, .inr (2, [.ref po, .int (nI ht)])), (po, .inl (cI, 8, .inl fp)), (en, .inr (3, [.ref eo, .ref sb, .int (nI (0 + 1))])), (eo, .inl (cI, 5, .inl (upd fe 0 (fo a)))), (sb, .inl (cG, 5, .inr (.inr (.inr (.inr (fun uu => some (rr uu))))))), (rr 0, .inl (cI, 4, .inl ((va_up (va_up M 0 (lc_nr ((lc_bu fo fw fp ht fe M len).2.1) a (M 0) j)) 0 (upd ((va_up M 0 (lc_nr ((lc_bu fo fw fp ht fe M len).2.1) a (M 0) j)) 0) j (((lc_bu fo fw fp ht fe M len).2.1) (a + 1 + j)))) 0))), (rr 1, .inl (cI, 4, .inl ((va_up (va_up M 0 (lc_nr ((lc_bu fo fw fp ht fe M len).2.1) a (M 0) j)) 0 (upd ((va_up M 0 (lc_nr ((lc_bu fo fw fp ht fe M len).2.1) a (M 0) j)) 0) j (((lc_bu fo fw fp ht fe M len).2.1) (a + 1 + j)))) 1))), (rr 2, .inl (cI, 4, .inl ((va_up (va_up M 0 (lc_nr ((lc_bu fo fw fp ht fe M len).2.1) a (M 0) j)) 0 (upd ((va_up M 0 (lc_nr ((lc_bu fo fw fp ht fe M len).2.1) a (M 0) j)) 0) j (((lc_bu fo fw fp ht fe M len).2.1) (a + 1 + j)))) 2))), (rr 3, .inl (cI, 4, .inl ((va_up (va_up M 0 (lc_nr ((lc_bu fo fw fp ht fe M len).2.1) a (M 0) j)) 0 (upd ((va_up M 0 (lc_nr ((lc_bu fo fw fp ht fe M len).2.1) a (M 0) j)) 0) j (((lc_bu fo fw fp ht fe M len).2.1) (a + 1 + j)))) 3))), (rr 4, .inl (cI, 4, .inl ((va_up (va_up M 0 (lc_nr ((lc_bu fo fw fp ht fe M len).2.1) a (M 0) j)) 0 (upd ((va_up M 0 (lc_nr ((lc_bu fo fw fp ht fe M len).2.1) a (M 0) j)) 0) j (((lc_bu fo fw fp ht fe M len).2.1) (a + 1 + j)))) 4)))] : va_W) = [(h0, .inr (0, [.ref hp, .ref pl, .ref en, .int (rk + nI 1)])), (hp, .inr (1, [.ref ow, .ref wo, .int (nI md)])), (ow, .inl (cI, 48, .inl ((lc_bu fo fw fp ht fe M len).1))), (wo, .inl (cI, 48, .inl ((lc_bu fo fw fp ht fe M len).2.1))), (pl, .inr (2, [.ref po, .int (nI ht)])), (po, .inl (cI, 8, .inl fp)), (en, .inr (3, [.ref eo, .ref sb, .int (nI (0 + 1))])), (eo, .inl (cI, 5, .inl (upd fe 0 (fo a)))), (sb, .inl (cG, 5, .inr (.inr (.inr (.inr (fun uu => some (rr uu))))))), (rr 0, .inl (cI, 4, .inl ((va_up M 0 (lc_nr ((lc_bu fo fw fp ht fe M len).2.1) a (M 0) (j + 1))) 0))), (rr 1, .inl (cI, 4, .inl ((va_up M 0 (lc_nr ((lc_bu fo fw fp ht fe M len).2.1) a (M 0) (j + 1))) 1))), (rr 2, .inl (cI, 4, .inl ((va_up M 0 (lc_nr ((lc_bu fo fw fp ht fe M len).2.1) a (M 0) (j + 1))) 2))), (rr 3, .inl (cI, 4, .inl ((va_up M 0 (lc_nr ((lc_bu fo fw fp ht fe M len).2.1) a (M 0) (j + 1))) 3))), (rr 4, .inl (cI, 4, .inl ((va_up M 0 (lc_nr ((lc_bu fo fw fp ht fe M len).2.1) a (M 0) (j + 1))) 4)))] := by simp only [lc_nr_0, lc_nr_s]
                have hP := zz_toP eW1 hP
                have hD := zz_toD eW1 hD
                exact ih58 (j + 1) (by omega) (by omega) _ _ hP hD hS _ (lv_sub hl [1, 2, 3, 4, 0] rfl)
          have eW2 : ([(h0, .inr (0, [.ref hp, .ref pl, .ref en, .int (rk + nI 1)])), (hp, .inr (1, [.ref ow, .ref wo, .int (nI md)])), (ow, .inl (cI, 48, .inl ((lc_bu fo fw fp ht fe M len).1))), (wo, .inl (cI, 48, .inl ((lc_bu fo fw fp ht fe M len).2.1))), (pl, .inr (2, [.ref po, .int (nI ht)])), (po, .inl (cI, 8, .inl fp)), (en, .inr (3, [.ref eo, .ref sb, .int (nI (0 + 1))])), (eo, .inl (cI, 5, .inl (upd fe 0 (fo a)))), (sb, .inl (cG, 5, .inr (.inr (.inr (.inr (fun uu => some (rr uu))))))), (rr 0, .inl (cI, 4, .inl (M 0))), (rr 1, .inl (cI, 4, .inl (M 1))), (rr 2, .inl (cI, 4, .inl (M 2))), (rr 3, .inl (cI, 4, .inl (M 3))), (rr 4, .inl (cI, 4, .inl (M 4)))] : va_W) = [(h0, .inr (0, [.ref hp, .ref pl, .ref en, .int (rk + nI 1)])), (hp, .inr (1, [.ref ow, .ref wo, .int (nI md)])), (ow, .inl (cI, 48, .inl ((lc_bu fo fw fp ht fe M len).1))), (wo, .inl (cI, 48, .inl ((lc_bu fo fw fp ht fe M len).2.1))), (pl, .inr (2, [.ref po, .int (nI ht)])), (po, .inl (cI, 8, .inl fp)), (en, .inr (3, [.ref eo, .ref sb, .int (nI (0 + 1))])), (eo, .inl (cI, 5, .inl (upd fe 0 (fo a)))), (sb, .inl (cG, 5, .inr (.inr (.inr (.inr (fun uu => some (rr uu))))))), (rr 0, .inl (cI, 4, .inl ((va_up M 0 (lc_nr ((lc_bu fo fw fp ht fe M len).2.1) a (M 0) 0)) 0))), (rr 1, .inl (cI, 4, .inl ((va_up M 0 (lc_nr ((lc_bu fo fw fp ht fe M len).2.1) a (M 0) 0)) 1))), (rr 2, .inl (cI, 4, .inl ((va_up M 0 (lc_nr ((lc_bu fo fw fp ht fe M len).2.1) a (M 0) 0)) 2))), (rr 3, .inl (cI, 4, .inl ((va_up M 0 (lc_nr ((lc_bu fo fw fp ht fe M len).2.1) a (M 0) 0)) 3))), (rr 4, .inl (cI, 4, .inl ((va_up M 0 (lc_nr ((lc_bu fo fw fp ht fe M len).2.1) a (M 0) 0)) 4)))] := by simp only [lc_nr_0, lc_nr_s]
          have hP := zz_toP eW2 hP
          have hD := zz_toD eW2 hD
          exact loop58 49 0 (by omega) (by omega) _ _ hP hD hS _ (lv_sub hl [4, 5, 2, 1, 0] rfl)
      · skip
        have e5 : ¬ len = 5 := by simpa using h25
        refine zz_if_eq (tgt := 36) hx hb (by omega) d_X_note_28 (by decide) (fun c28 => ?_) (fun c28 => ?_)
        · skip
          refine lv_aload_n hx hb d_X_note_36 rfl (lv_at hl 1 rfl) ?_
          refine va_get (D := D) (ci := 0) (v := .ref en) (C := R_X) (T := F_X) (N := 4) hx hb hts i_X hown hK hP 0 rfl rfl 2 (by decide) (hts _ kw_63) (fun _ h9 => h9) rfl d_X_note_37 ?_
          refine lv_iload_n hx hb d_X_note_40 rfl (lv_at hl 0 rfl) ?_
          refine zz_callI (np := 1) hx hb hml hown hts hK hP hD hS hA (c_Entries_open l D cI cG en eo sb rr fe M len (fo a) (by omega)) (zz_gv kw_106 kw_107 kw_108 kw_68 kc_105) (by decide +kernel) rfl rfl ⟨Nat.le_of_ble_eq_true rfl, Nat.le_of_ble_eq_true rfl⟩ ⟨Nat.zero_le _, Nat.zero_le _⟩ [0, 1] rfl 6 3 rfl rfl rfl [6, 7, 8, 9, 10, 11, 12, 13] [0, 1, 2, 3, 4, 5] [0, 1, 2, 3, 4, 5, 6, 7, 8, 9, 10, 11, 12, 13] rfl (by decide) (wr := [(h0, .inr (0, [.ref hp, .ref pl, .ref en, .int rk])), (hp, .inr (1, [.ref ow, .ref wo, .int (nI md)])), (ow, .inl (cI, 48, .inl fo)), (wo, .inl (cI, 48, .inl fw)), (pl, .inr (2, [.ref po, .int (nI ht)])), (po, .inl (cI, 8, .inl fp))]) rfl (by decide) (by decide) (ws' := [(h0, .inr (0, [.ref hp, .ref pl, .ref en, .int rk])), (hp, .inr (1, [.ref ow, .ref wo, .int (nI md)])), (ow, .inl (cI, 48, .inl fo)), (wo, .inl (cI, 48, .inl fw)), (pl, .inr (2, [.ref po, .int (nI ht)])), (po, .inl (cI, 8, .inl fp)), (en, .inr (3, [.ref eo, .ref sb, .int (nI (len + 1))])), (eo, .inl (cI, 5, .inl (upd fe len (fo a)))), (sb, .inl (cG, 5, .inr (.inr (.inr (.inr (fun uu => some (rr uu))))))), (rr 0, .inl (cI, 4, .inl (M 0))), (rr 1, .inl (cI, 4, .inl (M 1))), (rr 2, .inl (cI, 4, .inl (M 2))), (rr 3, .inl (cI, 4, .inl (M 3))), (rr 4, .inl (cI, 4, .inl (M 4)))]) rfl (by decide) rfl hl.1 rfl (Nat.le_of_ble_eq_true rfl) d_X_note_41 (fun H locs hP hD hS => ?_)
          refine lv_istore_n (lv' := [(3, .int (nI len)), (2, .int (fo a)), (0, .ref h0), (1, .int (nI a))]) hx hb d_X_note_44 rfl hl (by decide) rfl (fun ls hl => ?_)
          refine lv_aload_n hx hb d_X_note_45 rfl (lv_at hl 2 rfl) ?_
          refine va_get (D := D) (ci := 0) (v := .ref hp) (C := R_X) (T := F_X) (N := 4) hx hb hts i_X hown hK hP 0 rfl rfl 0 (by decide) (hts _ kw_39) (fun _ h9 => h9) rfl d_X_note_46 ?_
          refine lv_iload_n hx hb d_X_note_49 rfl (lv_at hl 3 rfl) ?_
          refine zz_callI (np := 1) hx hb hml hown hts hK hP hD hS hA (c_Heap_slotsAt_s l D cI hp ow wo fo fw md a (by omega)) (zz_gv kw_69 kw_9 kw_10 kw_6 kc_7) (by decide +kernel) rfl rfl ⟨Nat.le_of_ble_eq_true rfl, Nat.le_of_ble_eq_true rfl⟩ ⟨Nat.zero_le _, Nat.zero_le _⟩ [0] rfl 1 1 rfl rfl rfl [1, 2, 3] [0, 4, 5, 6, 7, 8, 9, 10, 11, 12, 13] [0, 11, 12, 13, 1, 2, 3, 4, 5, 6, 7, 8, 9, 10] rfl (by decide) (wr := [(h0, .inr (0, [.ref hp, .ref pl, .ref en, .int rk])), (pl, .inr (2, [.ref po, .int (nI ht)])), (po, .inl (cI, 8, .inl fp)), (en, .inr (3, [.ref eo, .ref sb, .int (nI (len + 1))])), (eo, .inl (cI, 5, .inl (upd fe len (fo a)))), (sb, .inl (cG, 5, .inr (.inr (.inr (.inr (fun uu => some (rr uu))))))), (rr 0, .inl (cI, 4, .inl (M 0))), (rr 1, .inl (cI, 4, .inl (M 1))), (rr 2, .inl (cI, 4, .inl (M 2))), (rr 3, .inl (cI, 4, .inl (M 3))), (rr 4, .inl (cI, 4, .inl (M 4)))]) rfl (by decide) (by decide) (ws' := [(h0, .inr (0, [.ref hp, .ref pl, .ref en, .int rk])), (hp, .inr (1, [.ref ow, .ref wo, .int (nI md)])), (ow, .inl (cI, 48, .inl fo)), (wo, .inl (cI, 48, .inl fw)), (pl, .inr (2, [.ref po, .int (nI ht)])), (po, .inl (cI, 8, .inl fp)), (en, .inr (3, [.ref eo, .ref sb, .int (nI (len + 1))])), (eo, .inl (cI, 5, .inl (upd fe len (fo a)))), (sb, .inl (cG, 5, .inr (.inr (.inr (.inr (fun uu => some (rr uu))))))), (rr 0, .inl (cI, 4, .inl (M 0))), (rr 1, .inl (cI, 4, .inl (M 1))), (rr 2, .inl (cI, 4, .inl (M 2))), (rr 3, .inl (cI, 4, .inl (M 3))), (rr 4, .inl (cI, 4, .inl (M 4)))]) rfl (by decide) rfl hl.1 rfl (Nat.le_of_ble_eq_true rfl) d_X_note_50 (fun H locs hP hD hS => ?_)
          refine lv_istore (lv' := [(4, .int (nI (lc_sa fo a))), (3, .int (nI len)), (2, .int (fo a)), (0, .ref h0), (1, .int (nI a))]) hx hb d_X_note_53 hl (by decide) rfl (fun ls hl => ?_)
          refine lv_iconst (v := nI 0) hx hb d_X_note_55 (by decide +kernel) ?_
          refine lv_istore (lv' := [(5, .int (nI 0)), (4, .int (nI (lc_sa fo a))), (3, .int (nI len)), (2, .int (fo a)), (0, .ref h0), (1, .int (nI a))]) hx hb d_X_note_56 hl (by decide) rfl (fun ls hl => ?_)
          have loop58 : ∀ (fu : Nat) (j : Nat), 48 - j < fu → (hj : j ≤ lc_sa fo a) → ∀ (H : Heap) (locs : List Loc), va_P D classes [(h0, .inr (0, [.ref hp, .ref pl, .ref en, .int rk])), (hp, .inr (1, [.ref ow, .ref wo, .int (nI md)])), (ow, .inl (cI, 48, .inl fo)), (wo, .inl (cI, 48, .inl fw)), (pl, .inr (2, [.ref po, .int (nI ht)])), (po, .inl (cI, 8, .inl fp)), (en, .inr (3, [.ref eo, .ref sb, .int (nI (len + 1))])), (eo, .inl (cI, 5, .inl (upd fe len (fo a)))), (sb, .inl (cG, 5, .inr (.inr (.inr (.inr (fun uu => some (rr uu))))))), (rr 0, .inl (cI, 4, .inl ((va_up M len (lc_nr fw a (M len) j)) 0))), (rr 1, .inl (cI, 4, .inl ((va_up M len (lc_nr fw a (M len) j)) 1))), (rr 2, .inl (cI, 4, .inl ((va_up M len (lc_nr fw a (M len) j)) 2))), (rr 3, .inl (cI, 4, .inl ((va_up M len (lc_nr fw a (M len) j)) 3))), (rr 4, .inl (cI, 4, .inl ((va_up M len (lc_nr fw a (M len) j)) 4)))] H → va_D A [(h0, .inr (0, [.ref hp, .ref pl, .ref en, .int rk])), (hp, .inr (1, [.ref ow, .ref wo, .int (nI md)])), (ow, .inl (cI, 48, .inl fo)), (wo, .inl (cI, 48, .inl fw)), (pl, .inr (2, [.ref po, .int (nI ht)])), (po, .inl (cI, 8, .inl fp)), (en, .inr (3, [.ref eo, .ref sb, .int (nI (len + 1))])), (eo, .inl (cI, 5, .inl (upd fe len (fo a)))), (sb, .inl (cG, 5, .inr (.inr (.inr (.inr (fun uu => some (rr uu))))))), (rr 0, .inl (cI, 4, .inl ((va_up M len (lc_nr fw a (M len) j)) 0))), (rr 1, .inl (cI, 4, .inl ((va_up M len (lc_nr fw a (M len) j)) 1))), (rr 2, .inl (cI, 4, .inl ((va_up M len (lc_nr fw a (M len) j)) 2))), (rr 3, .inl (cI, 4, .inl ((va_up M len (lc_nr fw a (M len) j)) 3))), (rr 4, .inl (cI, 4, .inl ((va_up M len (lc_nr fw a (M len) j)) 4)))] → va_S A s.heap H locs → ∀ (ls : Array Slot), lv_has ls 6 [(0, .ref h0), (1, .int (nI a)), (3, .int (nI len)), (4, .int (nI (lc_sa fo a))), (5, .int (nI j))] → W p l e ({ frames := 5, cells := 0, slots := 0, locals := 111 } : Room) s m args below meth c H locs 0 0 Q (F0 m 58 ls []) := by
            intro fu
            induction fu with
            | zero => intro j hf; omega
            | succ fu ih58 =>
              intro j hf hj H locs hP hD hS ls hl
              refine lv_iload hx hb d_X_note_58 (lv_at hl 4 rfl) ?_
              refine lv_iload hx hb d_X_note_60 (lv_at hl 3 rfl) ?_
              refine zz_icmp_ge (tgt := 91) hx hb (by omega) (by omega) d_X_note_62 (by decide) (fun c62 => ?_) (fun c62 => ?_)
              · skip
                have eW : ([(h0, .inr (0, [.ref hp, .ref pl, .ref en, .int rk])), (hp, .inr (1, [.ref ow, .ref wo, .int (nI md)])), (ow, .inl (cI, 48, .inl fo)), (wo, .inl (cI, 48, .inl fw)), (pl, .inr (2, [.ref po, .int (nI ht)])), (po, .inl (cI, 8, .inl fp)), (en, .inr (3, [.ref eo, .ref sb, .int (nI (len + 1))])), (eo, .inl (cI, 5, .inl (upd fe len (fo a)))), (sb, .inl (cG, 5, .inr (.inr (.inr (.inr (fun uu => some (rr uu))))))), (rr 0, .inl (cI, 4, .inl ((va_up M len (lc_nr fw a (M len) j)) 0))), (rr 1, .inl (cI, 4, .inl ((va_up M len (lc_nr fw a (M len) j)) 1))), (rr 2, .inl (cI, 4, .inl ((va_up M len (lc_nr fw a (M len) j)) 2))), (rr 3, .inl (cI, 4, .inl ((va_up M len (lc_nr fw a (M len) j)) 3))), (rr 4, .inl (cI, 4, .inl ((va_up M len (lc_nr fw a (M len) j)) 4)))] : va_W) = [(h0, .inr (0, [.ref hp, .ref pl, .ref en, .int ((lx_note fo fw md fp ht fe M len rk a).2.2.2.2.2.2.2.2)])), (hp, .inr (1, [.ref ow, .ref wo, .int (nI ((lx_note fo fw md fp ht fe M len rk a).2.2.1))])), (ow, .inl (cI, 48, .inl ((lx_note fo fw md fp ht fe M len rk a).1))), (wo, .inl (cI, 48, .inl ((lx_note fo fw md fp ht fe M len rk a).2.1))), (pl, .inr (2, [.ref po, .int (nI ((lx_note fo fw md fp ht fe M len rk a).2.2.2.2.1))])), (po, .inl (cI, 8, .inl ((lx_note fo fw md fp ht fe M len rk a).2.2.2.1))), (en, .inr (3, [.ref eo, .ref sb, .int (nI ((lx_note fo fw md fp ht fe M len rk a).2.2.2.2.2.2.2.1))])), (eo, .inl (cI, 5, .inl ((lx_note fo fw md fp ht fe M len rk a).2.2.2.2.2.1))), (sb, .inl (cG, 5, .inr (.inr (.inr (.inr (fun uu => some (rr uu))))))), (rr 0, .inl (cI, 4, .inl (((lx_note fo fw md fp ht fe M len rk a).2.2.2.2.2.2.1) 0))), (rr 1, .inl (cI, 4, .inl (((lx_note fo fw md fp ht fe M len rk a).2.2.2.2.2.2.1) 1))), (rr 2, .inl (cI, 4, .inl (((lx_note fo fw md fp ht fe M len rk a).2.2.2.2.2.2.1) 2))), (rr 3, .inl (cI, 4, .inl (((lx_note fo fw md fp ht fe M len rk a).2.2.2.2.2.2.1) 3))), (rr 4, .inl (cI, 4, .inl (((lx_note fo fw md fp ht fe M len rk a).2.2.2.2.2.2.1) 4)))] := by first | (simp only [lx_note, if_pos h14]; done) | (simp only [lx_note, if_neg (zz_nt h14), if_neg e5]; rw [show j = lc_sa fo a by omega]; done) | (simp only [lx_note, if_neg (zz_nt h14), if_pos e5]; rw [show j = lc_sa (lc_bu fo fw fp ht fe M len).1 a by omega]; done) | (simp only [lx_note, if_neg (zz_nt h14), if_pos e5]; rw [show j = lc_sa (lc_bu fo fw fp ht fe M len).1 a by omega]; rfl)
                exact hret _ _ _ _ d_X_note_91 (zz_toP eW hP) (zz_toD eW hD) hS
              · skip
                refine lv_aload_n hx hb d_X_note_65 rfl (lv_at hl 0 rfl) ?_
                refine va_get (D := D) (ci := 0) (v := .ref en) (C := R_X) (T := F_X) (N := 4) hx hb hts i_X hown hK hP 0 rfl rfl 2 (by decide) (hts _ kw_63) (fun _ h9 => h9) rfl d_X_note_66 ?_
                refine lv_iload_n hx hb d_X_note_69 rfl (lv_at hl 2 rfl) ?_
                refine lv_iload hx hb d_X_note_70 (lv_at hl 4 rfl) ?_
                refine lv_aload_n hx hb d_X_note_72 rfl (lv_at hl 0 rfl) ?_
                refine va_get (D := D) (ci := 0) (v := .ref hp) (C := R_X) (T := F_X) (N := 4) hx hb hts i_X hown hK hP 0 rfl rfl 0 (by decide) (hts _ kw_39) (fun _ h9 => h9) rfl d_X_note_73 ?_
                refine lv_iload_n hx hb d_X_note_76 rfl (lv_at hl 1 rfl) ?_
                refine lv_iload hx hb d_X_note_77 (lv_at hl 4 rfl) ?_
                refine zz_callI (np := 2) hx hb hml hown hts hK hP hD hS hA (c_Heap_inSlot l D cI hp ow wo fo fw md a j (by omega)) (zz_gv kw_75 kw_22 kw_23 kw_6 kc_20) (by decide +kernel) rfl rfl ⟨Nat.le_of_ble_eq_true rfl, Nat.le_of_ble_eq_true rfl⟩ ⟨Nat.zero_le _, Nat.zero_le _⟩ [0] rfl 1 1 rfl rfl rfl [1, 2, 3] [0, 4, 5, 6, 7, 8, 9, 10, 11, 12, 13] [0, 11, 12, 13, 1, 2, 3, 4, 5, 6, 7, 8, 9, 10] rfl (by decide) (wr := [(h0, .inr (0, [.ref hp, .ref pl, .ref en, .int rk])), (pl, .inr (2, [.ref po, .int (nI ht)])), (po, .inl (cI, 8, .inl fp)), (en, .inr (3, [.ref eo, .ref sb, .int (nI (len + 1))])), (eo, .inl (cI, 5, .inl (upd fe len (fo a)))), (sb, .inl (cG, 5, .inr (.inr (.inr (.inr (fun uu => some (rr uu))))))), (rr 0, .inl (cI, 4, .inl ((va_up M len (lc_nr fw a (M len) j)) 0))), (rr 1, .inl (cI, 4, .inl ((va_up M len (lc_nr fw a (M len) j)) 1))), (rr 2, .inl (cI, 4, .inl ((va_up M len (lc_nr fw a (M len) j)) 2))), (rr 3, .inl (cI, 4, .inl ((va_up M len (lc_nr fw a (M len) j)) 3))), (rr 4, .inl (cI, 4, .inl ((va_up M len (lc_nr fw a (M len) j)) 4)))]) rfl (by decide) (by decide) (ws' := [(h0, .inr (0, [.ref hp, .ref pl, .ref en, .int rk])), (hp, .inr (1, [.ref ow, .ref wo, .int (nI md)])), (ow, .inl (cI, 48, .inl fo)), (wo, .inl (cI, 48, .inl fw)), (pl, .inr (2, [.ref po, .int (nI ht)])), (po, .inl (cI, 8, .inl fp)), (en, .inr (3, [.ref eo, .ref sb, .int (nI (len + 1))])), (eo, .inl (cI, 5, .inl (upd fe len (fo a)))), (sb, .inl (cG, 5, .inr (.inr (.inr (.inr (fun uu => some (rr uu))))))), (rr 0, .inl (cI, 4, .inl ((va_up M len (lc_nr fw a (M len) j)) 0))), (rr 1, .inl (cI, 4, .inl ((va_up M len (lc_nr fw a (M len) j)) 1))), (rr 2, .inl (cI, 4, .inl ((va_up M len (lc_nr fw a (M len) j)) 2))), (rr 3, .inl (cI, 4, .inl ((va_up M len (lc_nr fw a (M len) j)) 3))), (rr 4, .inl (cI, 4, .inl ((va_up M len (lc_nr fw a (M len) j)) 4)))]) rfl (by decide) rfl hl.1 rfl (Nat.le_of_ble_eq_true rfl) d_X_note_79 (fun H locs hP hD hS => ?_)
                refine zz_callV (np := 3) hx hb hml hown hts hK hP hD hS hA (c_Entries_setBefore l D cI cG en eo sb rr (upd fe len (fo a)) (va_up M len (lc_nr fw a (M len) j)) (len + 1) len j (fw (a + 1 + j)) (by omega) (by omega)) (zz_gv kw_110 kw_111 kw_112 kw_68 kc_109) (by decide +kernel) rfl rfl ⟨Nat.le_of_ble_eq_true rfl, Nat.le_of_ble_eq_true rfl⟩ ⟨Nat.zero_le _, Nat.zero_le _⟩ [0, 1] rfl 6 3 rfl rfl rfl [6, 7, 8, 9, 10, 11, 12, 13] [0, 1, 2, 3, 4, 5] [0, 1, 2, 3, 4, 5, 6, 7, 8, 9, 10, 11, 12, 13] rfl (by decide) (wr := [(h0, .inr (0, [.ref hp, .ref pl, .ref en, .int rk])), (hp, .inr (1, [.ref ow, .ref wo, .int (nI md)])), (ow, .inl (cI, 48, .inl fo)), (wo, .inl (cI, 48, .inl fw)), (pl, .inr (2, [.ref po, .int (nI ht)])), (po, .inl (cI, 8, .inl fp))]) rfl (by decide) (by decide) (ws' := [(h0, .inr (0, [.ref hp, .ref pl, .ref en, .int rk])), (hp, .inr (1, [.ref ow, .ref wo, .int (nI md)])), (ow, .inl (cI, 48, .inl fo)), (wo, .inl (cI, 48, .inl fw)), (pl, .inr (2, [.ref po, .int (nI ht)])), (po, .inl (cI, 8, .inl fp)), (en, .inr (3, [.ref eo, .ref sb, .int (nI (len + 1))])), (eo, .inl (cI, 5, .inl (upd fe len (fo a)))), (sb, .inl (cG, 5, .inr (.inr (.inr (.inr (fun uu => some (rr uu))))))), (rr 0, .inl (cI, 4, .inl ((va_up (va_up M len (lc_nr fw a (M len) j)) len (upd ((va_up M len (lc_nr fw a (M len) j)) len) j (fw (a + 1 + j)))) 0))), (rr 1, .inl (cI, 4, .inl ((va_up (va_up M len (lc_nr fw a (M len) j)) len (upd ((va_up M len (lc_nr fw a (M len) j)) len) j (fw (a + 1 + j)))) 1))), (rr 2, .inl (cI, 4, .inl ((va_up (va_up M len (lc_nr fw a (M len) j)) len (upd ((va_up M len (lc_nr fw a (M len) j)) len) j (fw (a + 1 + j)))) 2))), (rr 3, .inl (cI, 4, .inl ((va_up (va_up M len (lc_nr fw a (M len) j)) len (upd ((va_up M len (lc_nr fw a (M len) j)) len) j (fw (a + 1 + j)))) 3))), (rr 4, .inl (cI, 4, .inl ((va_up (va_up M len (lc_nr fw a (M len) j)) len (upd ((va_up M len (lc_nr fw a (M len) j)) len) j (fw (a + 1 + j)))) 4)))]) rfl (by decide) rfl hl.1 rfl (Nat.le_of_ble_eq_true rfl) d_X_note_82 (fun H locs hP hD hS => ?_)
                refine lv_iinc (v := nI (j + 1)) (lv' := [(5, .int (nI (j + 1))), (0, .ref h0), (1, .int (nI a)), (3, .int (nI len)), (4, .int (nI (lc_sa fo a)))]) hx hb d_X_note_85 hl (k := 4) rfl (nI_1 _) (by decide) rfl (fun ls hl => ?_)
                refine lv_goto (tgt := 58) hx hb d_X_note_88 (by decide) ?_
                have eW3 : ([(h0, .inr (0, [.ref hp, .ref pl, .ref en, .int rk])), (hp, .inr (1, [.ref ow, .ref wo, .int (nI md)])), (ow, .inl (cI, 48, .inl fo)), (wo, .inl (cI, 48, .inl fw)), (pl, .inr (2, [.ref po, .int (nI ht)])), (po, .inl (cI, 8, .inl fp)), (en, .inr (3, [.ref eo, .ref sb, .int (nI (len + 1))])), (eo, .inl (cI, 5, .inl (upd fe len (fo a)))), (sb, .inl (cG, 5, .inr (.inr (.inr (.inr (fun uu => some (rr uu))))))), (rr 0, .inl (cI, 4, .inl ((va_up (va_up M len (lc_nr fw a (M len) j)) len (upd ((va_up M len (lc_nr fw a (M len) j)) len) j (fw (a + 1 + j)))) 0))), (rr 1, .inl (cI, 4, .inl ((va_up (va_up M len (lc_nr fw a (M len) j)) len (upd ((va_up M len (lc_nr fw a (M len) j)) len) j (fw (a + 1 + j)))) 1))), (rr 2, .inl (cI, 4, .inl ((va_up (va_up M len (lc_nr fw a (M len) j)) len (upd ((va_up M len (lc_nr fw a (M len) j)) len) j (fw (a + 1 + j)))) 2))), (rr 3, .inl (cI, 4, .inl ((va_up (va_up M len (lc_nr fw a (M len) j)) len (upd ((va_up M len (lc_nr fw a (M len) j)) len) j (fw (a + 1 + j)))) 3))), (rr 4, .inl (cI, 4, .inl ((va_up (va_up M len (lc_nr fw a (M len) j)) len (upd ((va_up M len (lc_nr fw a (M len) j)) len) j (fw (a + 1 + j)))) 4)))] : va_W) = [(h0, .inr (0, [.ref hp, .ref pl, .ref en, .int rk])), (hp, .inr (1, [.ref ow, .ref wo, .int (nI md)])), (ow, .inl (cI, 48, .inl fo)), (wo, .inl (cI, 48, .inl fw)), (pl, .inr (2, [.ref po, .int (nI ht)])), (po, .inl (cI, 8, .inl fp)), (en, .inr (3, [.ref eo, .ref sb, .int (nI (len + 1))])), (eo, .inl (cI, 5, .inl (upd fe len (fo a)))), (sb, .inl (cG, 5, .inr (.inr (.inr (.inr (fun uu => some (rr uu))))))), (rr 0, .inl (cI, 4, .inl ((va_up M len (lc_nr fw a (M len) (j + 1))) 0))), (rr 1, .inl (cI, 4, .inl ((va_up M len (lc_nr fw a (M len) (j + 1))) 1))), (rr 2, .inl (cI, 4, .inl ((va_up M len (lc_nr fw a (M len) (j + 1))) 2))), (rr 3, .inl (cI, 4, .inl ((va_up M len (lc_nr fw a (M len) (j + 1))) 3))), (rr 4, .inl (cI, 4, .inl ((va_up M len (lc_nr fw a (M len) (j + 1))) 4)))] := by simp only [lc_nr_0, lc_nr_s]
                have hP := zz_toP eW3 hP
                have hD := zz_toD eW3 hD
                exact ih58 (j + 1) (by omega) (by omega) _ _ hP hD hS _ (lv_sub hl [1, 2, 3, 4, 0] rfl)
          have eW4 : ([(h0, .inr (0, [.ref hp, .ref pl, .ref en, .int rk])), (hp, .inr (1, [.ref ow, .ref wo, .int (nI md)])), (ow, .inl (cI, 48, .inl fo)), (wo, .inl (cI, 48, .inl fw)), (pl, .inr (2, [.ref po, .int (nI ht)])), (po, .inl (cI, 8, .inl fp)), (en, .inr (3, [.ref eo, .ref sb, .int (nI (len + 1))])), (eo, .inl (cI, 5, .inl (upd fe len (fo a)))), (sb, .inl (cG, 5, .inr (.inr (.inr (.inr (fun uu => some (rr uu))))))), (rr 0, .inl (cI, 4, .inl (M 0))), (rr 1, .inl (cI, 4, .inl (M 1))), (rr 2, .inl (cI, 4, .inl (M 2))), (rr 3, .inl (cI, 4, .inl (M 3))), (rr 4, .inl (cI, 4, .inl (M 4)))] : va_W) = [(h0, .inr (0, [.ref hp, .ref pl, .ref en, .int rk])), (hp, .inr (1, [.ref ow, .ref wo, .int (nI md)])), (ow, .inl (cI, 48, .inl fo)), (wo, .inl (cI, 48, .inl fw)), (pl, .inr (2, [.ref po, .int (nI ht)])), (po, .inl (cI, 8, .inl fp)), (en, .inr (3, [.ref eo, .ref sb, .int (nI (len + 1))])), (eo, .inl (cI, 5, .inl (upd fe len (fo a)))), (sb, .inl (cG, 5, .inr (.inr (.inr (.inr (fun uu => some (rr uu))))))), (rr 0, .inl (cI, 4, .inl ((va_up M len (lc_nr fw a (M len) 0)) 0))), (rr 1, .inl (cI, 4, .inl ((va_up M len (lc_nr fw a (M len) 0)) 1))), (rr 2, .inl (cI, 4, .inl ((va_up M len (lc_nr fw a (M len) 0)) 2))), (rr 3, .inl (cI, 4, .inl ((va_up M len (lc_nr fw a (M len) 0)) 3))), (rr 4, .inl (cI, 4, .inl ((va_up M len (lc_nr fw a (M len) 0)) 4)))] := by simp only [lc_nr_0, lc_nr_s]
          have hP := zz_toP eW4 hP
          have hD := zz_toD eW4 hD
          exact loop58 49 0 (by omega) (by omega) _ _ hP hD hS _ (lv_sub hl [4, 5, 2, 1, 0] rfl)
        · skip
          exact absurd c28 (by omega)
    · skip
      exact absurd c17 (by omega)
set_option maxHeartbeats 4000000 in
set_option maxRecDepth 100000 in
theorem c_X_make (l : Launch) (D : va_G) (cI : ClassId) (cG : ClassId) (h0 : Nat) (hp : Nat) (ow : Nat) (wo : Nat) (pl : Nat) (po : Nat) (en : Nat) (eo : Nat) (sb : Nat) (rr : Nat → Nat) (fo : lc_A) (fw : lc_A) (md : Nat) (fp : lc_A) (ht : Nat) (fe : lc_A) (M : Nat → lc_A) (len : Nat) (rk : Int32) (x : Int32) (hht : ht ≤ 8) (hlen : len ≤ 5) (hc : ∀ k, k < len → lc_sao fo (lc_first fo (fe k)) ≤ 4) : zz_MI l y_X_make b_X_make 3 .int ({ frames := 5, cells := 0, slots := 0, locals := 111 } : Room) D [(cI, .int), (cG, .array .int)] [.ref h0, .int x] [(h0, .inr (0, [.ref hp, .ref pl, .ref en, .int rk])), (hp, .inr (1, [.ref ow, .ref wo, .int (nI md)])), (ow, .inl (cI, 48, .inl fo)), (wo, .inl (cI, 48, .inl fw)), (pl, .inr (2, [.ref po, .int (nI ht)])), (po, .inl (cI, 8, .inl fp)), (en, .inr (3, [.ref eo, .ref sb, .int (nI len)])), (eo, .inl (cI, 5, .inl fe)), (sb, .inl (cG, 5, .inr (.inr (.inr (.inr (fun uu => some (rr uu))))))), (rr 0, .inl (cI, 4, .inl (M 0))), (rr 1, .inl (cI, 4, .inl (M 1))), (rr 2, .inl (cI, 4, .inl (M 2))), (rr 3, .inl (cI, 4, .inl (M 3))), (rr 4, .inl (cI, 4, .inl (M 4)))] ((lx_make fo fw md fp ht fe M len rk x).1) [(h0, .inr (0, [.ref hp, .ref pl, .ref en, .int (((lx_make fo fw md fp ht fe M len rk x).2).2.2.2.2.2.2.2.2)])), (hp, .inr (1, [.ref ow, .ref wo, .int (nI (((lx_make fo fw md fp ht fe M len rk x).2).2.2.1))])), (ow, .inl (cI, 48, .inl (((lx_make fo fw md fp ht fe M len rk x).2).1))), (wo, .inl (cI, 48, .inl (((lx_make fo fw md fp ht fe M len rk x).2).2.1))), (pl, .inr (2, [.ref po, .int (nI (((lx_make fo fw md fp ht fe M len rk x).2).2.2.2.2.1))])), (po, .inl (cI, 8, .inl (((lx_make fo fw md fp ht fe M len rk x).2).2.2.2.1))), (en, .inr (3, [.ref eo, .ref sb, .int (nI (((lx_make fo fw md fp ht fe M len rk x).2).2.2.2.2.2.2.2.1))])), (eo, .inl (cI, 5, .inl (((lx_make fo fw md fp ht fe M len rk x).2).2.2.2.2.2.1))), (sb, .inl (cG, 5, .inr (.inr (.inr (.inr (fun uu => some (rr uu))))))), (rr 0, .inl (cI, 4, .inl ((((lx_make fo fw md fp ht fe M len rk x).2).2.2.2.2.2.2.1) 0))), (rr 1, .inl (cI, 4, .inl ((((lx_make fo fw md fp ht fe M len rk x).2).2.2.2.2.2.2.1) 1))), (rr 2, .inl (cI, 4, .inl ((((lx_make fo fw md fp ht fe M len rk x).2).2.2.2.2.2.2.1) 2))), (rr 3, .inl (cI, 4, .inl ((((lx_make fo fw md fp ht fe M len rk x).2).2.2.2.2.2.2.1) 3))), (rr 4, .inl (cI, 4, .inl ((((lx_make fo fw md fp ht fe M len rk x).2).2.2.2.2.2.2.1) 4)))] := by
  refine zz_MI_of (by decide) (Nat.le_of_ble_eq_true rfl) (vp_nar_int _) ?_
  intro p e s m args below meth c A ls Q hx hb hml hown hts hK hP hD hS hA hl hret
  have hown : s.vm.findClass R_X = some m.cls := hown
  have hl : lv_has ls 3 [(0, .ref h0), (1, .int x)] := hl
  refine lv_iload_n hx hb d_X_make_0 rfl (lv_at hl 1 rfl) ?_
  refine lv_iconst (v := nI 1) hx hb d_X_make_1 (by decide +kernel) ?_
  refine lv_icmp_lt (tgt := 10) hx hb d_X_make_2 (by decide) (fun c2 => ?_) (fun c2 => ?_)
  · skip
    have e14 := lc_14_no (Or.inl c2)
    refine lv_iconst (v := (-1)) hx hb d_X_make_10 (by decide +kernel) ?_
    refine zz_top (z := (lx_make fo fw md fp ht fe M len rk x).1) (by first | (simp only [lx_make, e14]; done) | (simp only [lx_make, e14, if_pos e8]; done) | (simp only [lx_make, lx_lay, e14, if_neg e8, h32]; done) | (simp only [lx_make, lx_lay, lx_bring, e14, if_neg e8, h32, h53]; done)) ?_
    have eW : ([(h0, .inr (0, [.ref hp, .ref pl, .ref en, .int rk])), (hp, .inr (1, [.ref ow, .ref wo, .int (nI md)])), (ow, .inl (cI, 48, .inl fo)), (wo, .inl (cI, 48, .inl fw)), (pl, .inr (2, [.ref po, .int (nI ht)])), (po, .inl (cI, 8, .inl fp)), (en, .inr (3, [.ref eo, .ref sb, .int (nI len)])), (eo, .inl (cI, 5, .inl fe)), (sb, .inl (cG, 5, .inr (.inr (.inr (.inr (fun uu => some (rr uu))))))), (rr 0, .inl (cI, 4, .inl (M 0))), (rr 1, .inl (cI, 4, .inl (M 1))), (rr 2, .inl (cI, 4, .inl (M 2))), (rr 3, .inl (cI, 4, .inl (M 3))), (rr 4, .inl (cI, 4, .inl (M 4)))] : va_W) = [(h0, .inr (0, [.ref hp, .ref pl, .ref en, .int (((lx_make fo fw md fp ht fe M len rk x).2).2.2.2.2.2.2.2.2)])), (hp, .inr (1, [.ref ow, .ref wo, .int (nI (((lx_make fo fw md fp ht fe M len rk x).2).2.2.1))])), (ow, .inl (cI, 48, .inl (((lx_make fo fw md fp ht fe M len rk x).2).1))), (wo, .inl (cI, 48, .inl (((lx_make fo fw md fp ht fe M len rk x).2).2.1))), (pl, .inr (2, [.ref po, .int (nI (((lx_make fo fw md fp ht fe M len rk x).2).2.2.2.2.1))])), (po, .inl (cI, 8, .inl (((lx_make fo fw md fp ht fe M len rk x).2).2.2.2.1))), (en, .inr (3, [.ref eo, .ref sb, .int (nI (((lx_make fo fw md fp ht fe M len rk x).2).2.2.2.2.2.2.2.1))])), (eo, .inl (cI, 5, .inl (((lx_make fo fw md fp ht fe M len rk x).2).2.2.2.2.2.1))), (sb, .inl (cG, 5, .inr (.inr (.inr (.inr (fun uu => some (rr uu))))))), (rr 0, .inl (cI, 4, .inl ((((lx_make fo fw md fp ht fe M len rk x).2).2.2.2.2.2.2.1) 0))), (rr 1, .inl (cI, 4, .inl ((((lx_make fo fw md fp ht fe M len rk x).2).2.2.2.2.2.2.1) 1))), (rr 2, .inl (cI, 4, .inl ((((lx_make fo fw md fp ht fe M len rk x).2).2.2.2.2.2.2.1) 2))), (rr 3, .inl (cI, 4, .inl ((((lx_make fo fw md fp ht fe M len rk x).2).2.2.2.2.2.2.1) 3))), (rr 4, .inl (cI, 4, .inl ((((lx_make fo fw md fp ht fe M len rk x).2).2.2.2.2.2.2.1) 4)))] := by first | (simp only [lx_make, e14]; done) | (simp only [lx_make, e14, if_pos e8]; done) | (simp only [lx_make, lx_lay, e14, if_neg e8, h32]; done) | (simp only [lx_make, lx_lay, lx_bring, e14, if_neg e8, h32, h53]; done)
    exact hret _ _ _ _ d_X_make_11 (zz_toP eW hP) (zz_toD eW hD) hS
  · skip
    refine lv_iload_n hx hb d_X_make_5 rfl (lv_at hl 1 rfl) ?_
    refine lv_iconst (v := nI 4) hx hb d_X_make_6 (by decide +kernel) ?_
    refine lv_icmp_le (tgt := 12) hx hb d_X_make_7 (by decide) (fun c7 => ?_) (fun c7 => ?_)
    · skip
      obtain ⟨n, hn1, hn4, ex, e14⟩ := lc_14_yes (Int32.not_lt.mp c2) c7
      subst ex
      refine lv_aload_n hx hb d_X_make_12 rfl (lv_at hl 0 rfl) ?_
      refine va_get (D := D) (ci := 0) (v := .ref pl) (C := R_X) (T := F_X) (N := 4) hx hb hts i_X hown hK hP 0 rfl rfl 1 (by decide) (hts _ kw_33) (fun _ h9 => h9) rfl d_X_make_13 ?_
      refine zz_callI (np := 0) hx hb hml hown hts hK hP hD hS hA (c_Places_areFull l D cI pl po fp ht (by omega)) (zz_gv kw_114 kw_115 kw_116 kw_38 kc_113) (by decide +kernel) rfl rfl ⟨Nat.le_of_ble_eq_true rfl, Nat.le_of_ble_eq_true rfl⟩ ⟨Nat.zero_le _, Nat.zero_le _⟩ [0] rfl 4 2 rfl rfl rfl [4, 5] [0, 1, 2, 3, 6, 7, 8, 9, 10, 11, 12, 13] [0, 1, 2, 3, 12, 13, 4, 5, 6, 7, 8, 9, 10, 11] rfl (by decide) (wr := [(h0, .inr (0, [.ref hp, .ref pl, .ref en, .int rk])), (hp, .inr (1, [.ref ow, .ref wo, .int (nI md)])), (ow, .inl (cI, 48, .inl fo)), (wo, .inl (cI, 48, .inl fw)), (en, .inr (3, [.ref eo, .ref sb, .int (nI len)])), (eo, .inl (cI, 5, .inl fe)), (sb, .inl (cG, 5, .inr (.inr (.inr (.inr (fun uu => some (rr uu))))))), (rr 0, .inl (cI, 4, .inl (M 0))), (rr 1, .inl (cI, 4, .inl (M 1))), (rr 2, .inl (cI, 4, .inl (M 2))), (rr 3, .inl (cI, 4, .inl (M 3))), (rr 4, .inl (cI, 4, .inl (M 4)))]) rfl (by decide) (by decide) (ws' := [(h0, .inr (0, [.ref hp, .ref pl, .ref en, .int rk])), (hp, .inr (1, [.ref ow, .ref wo, .int (nI md)])), (ow, .inl (cI, 48, .inl fo)), (wo, .inl (cI, 48, .inl fw)), (pl, .inr (2, [.ref po, .int (nI ht)])), (po, .inl (cI, 8, .inl fp)), (en, .inr (3, [.ref eo, .ref sb, .int (nI len)])), (eo, .inl (cI, 5, .inl fe)), (sb, .inl (cG, 5, .inr (.inr (.inr (.inr (fun uu => some (rr uu))))))), (rr 0, .inl (cI, 4, .inl (M 0))), (rr 1, .inl (cI, 4, .inl (M 1))), (rr 2, .inl (cI, 4, .inl (M 2))), (rr 3, .inl (cI, 4, .inl (M 3))), (rr 4, .inl (cI, 4, .inl (M 4)))]) rfl (by decide) rfl hl.1 rfl (Nat.le_of_ble_eq_true rfl) d_X_make_16 (fun H locs hP hD hS => ?_)
      refine zz_bI (fun h16 => ?_) (fun h16 => ?_)
      · skip
        have e8 : ht = 8 := by simpa using h16
        refine zz_if_eq (tgt := 25) hx hb (by omega) d_X_make_19 (by decide) (fun c19 => ?_) (fun c19 => ?_)
        · skip
          exact absurd c19 (by omega)
        · skip
          refine lv_bipush (v := (-2)) hx hb d_X_make_22 (by decide +kernel) ?_
          refine zz_top (z := (lx_make fo fw md fp ht fe M len rk (nI n)).1) (by first | (simp only [lx_make, e14]; done) | (simp only [lx_make, e14, if_pos e8]; done) | (simp only [lx_make, lx_lay, e14, if_neg e8, h32]; done) | (simp only [lx_make, lx_lay, lx_bring, e14, if_neg e8, h32, h53]; done)) ?_
          have eW : ([(h0, .inr (0, [.ref hp, .ref pl, .ref en, .int rk])), (hp, .inr (1, [.ref ow, .ref wo, .int (nI md)])), (ow, .inl (cI, 48, .inl fo)), (wo, .inl (cI, 48, .inl fw)), (pl, .inr (2, [.ref po, .int (nI ht)])), (po, .inl (cI, 8, .inl fp)), (en, .inr (3, [.ref eo, .ref sb, .int (nI len)])), (eo, .inl (cI, 5, .inl fe)), (sb, .inl (cG, 5, .inr (.inr (.inr (.inr (fun uu => some (rr uu))))))), (rr 0, .inl (cI, 4, .inl (M 0))), (rr 1, .inl (cI, 4, .inl (M 1))), (rr 2, .inl (cI, 4, .inl (M 2))), (rr 3, .inl (cI, 4, .inl (M 3))), (rr 4, .inl (cI, 4, .inl (M 4)))] : va_W) = [(h0, .inr (0, [.ref hp, .ref pl, .ref en, .int (((lx_make fo fw md fp ht fe M len rk (nI n)).2).2.2.2.2.2.2.2.2)])), (hp, .inr (1, [.ref ow, .ref wo, .int (nI (((lx_make fo fw md fp ht fe M len rk (nI n)).2).2.2.1))])), (ow, .inl (cI, 48, .inl (((lx_make fo fw md fp ht fe M len rk (nI n)).2).1))), (wo, .inl (cI, 48, .inl (((lx_make fo fw md fp ht fe M len rk (nI n)).2).2.1))), (pl, .inr (2, [.ref po, .int (nI (((lx_make fo fw md fp ht fe M len rk (nI n)).2).2.2.2.2.1))])), (po, .inl (cI, 8, .inl (((lx_make fo fw md fp ht fe M len rk (nI n)).2).2.2.2.1))), (en, .inr (3, [.ref eo, .ref sb, .int (nI (((lx_make fo fw md fp ht fe M len rk (nI n)).2).2.2.2.2.2.2.2.1))])), (eo, .inl (cI, 5, .inl (((lx_make fo fw md fp ht fe M len rk (nI n)).2).2.2.2.2.2.1))), (sb, .inl (cG, 5, .inr (.inr (.inr (.inr (fun uu => some (rr uu))))))), (rr 0, .inl (cI, 4, .inl ((((lx_make fo fw md fp ht fe M len rk (nI n)).2).2.2.2.2.2.2.1) 0))), (rr 1, .inl (cI, 4, .inl ((((lx_make fo fw md fp ht fe M len rk (nI n)).2).2.2.2.2.2.2.1) 1))), (rr 2, .inl (cI, 4, .inl ((((lx_make fo fw md fp ht fe M len rk (nI n)).2).2.2.2.2.2.2.1) 2))), (rr 3, .inl (cI, 4, .inl ((((lx_make fo fw md fp ht fe M len rk (nI n)).2).2.2.2.2.2.2.1) 3))), (rr 4, .inl (cI, 4, .inl ((((lx_make fo fw md fp ht fe M len rk (nI n)).2).2.2.2.2.2.2.1) 4)))] := by first | (simp only [lx_make, e14]; done) | (simp only [lx_make, e14, if_pos e8]; done) | (simp only [lx_make, lx_lay, e14, if_neg e8, h32]; done) | (simp only [lx_make, lx_lay, lx_bring, e14, if_neg e8, h32, h53]; done)
          exact hret _ _ _ _ d_X_make_24 (zz_toP eW hP) (zz_toD eW hD) hS
      · skip
        have e8 : ¬ ht = 8 := by simpa using h16
        refine zz_if_eq (tgt := 25) hx hb (by omega) d_X_make_19 (by decide) (fun c19 => ?_) (fun c19 => ?_)
        · skip
          refine lv_aload_n hx hb d_X_make_25 rfl (lv_at hl 0 rfl) ?_
          refine va_get (D := D) (ci := 0) (v := .ref hp) (C := R_X) (T := F_X) (N := 4) hx hb hts i_X hown hK hP 0 rfl rfl 0 (by decide) (hts _ kw_39) (fun _ h9 => h9) rfl d_X_make_26 ?_
          refine lv_iload_n hx hb d_X_make_29 rfl (lv_at hl 1 rfl) ?_
          refine lv_iconst (v := nI 1) hx hb d_X_make_30 (by decide +kernel) ?_
          refine zz_iadd hx hb d_X_make_31 ?_
          refine zz_callI (np := 1) hx hb hml hown hts hK hP hD hS hA (c_Heap_lowestRoom l D cI hp ow wo fo fw md (n + 1) (by omega) (by omega)) (zz_gv kw_118 kw_119 kw_120 kw_6 kc_117) (by decide +kernel) rfl rfl ⟨Nat.le_of_ble_eq_true rfl, Nat.le_of_ble_eq_true rfl⟩ ⟨Nat.zero_le _, Nat.zero_le _⟩ [0] rfl 1 1 rfl rfl rfl [1, 2, 3] [0, 4, 5, 6, 7, 8, 9, 10, 11, 12, 13] [0, 11, 12, 13, 1, 2, 3, 4, 5, 6, 7, 8, 9, 10] rfl (by decide) (wr := [(h0, .inr (0, [.ref hp, .ref pl, .ref en, .int rk])), (pl, .inr (2, [.ref po, .int (nI ht)])), (po, .inl (cI, 8, .inl fp)), (en, .inr (3, [.ref eo, .ref sb, .int (nI len)])), (eo, .inl (cI, 5, .inl fe)), (sb, .inl (cG, 5, .inr (.inr (.inr (.inr (fun uu => some (rr uu))))))), (rr 0, .inl (cI, 4, .inl (M 0))), (rr 1, .inl (cI, 4, .inl (M 1))), (rr 2, .inl (cI, 4, .inl (M 2))), (rr 3, .inl (cI, 4, .inl (M 3))), (rr 4, .inl (cI, 4, .inl (M 4)))]) rfl (by decide) (by decide) (ws' := [(h0, .inr (0, [.ref hp, .ref pl, .ref en, .int rk])), (hp, .inr (1, [.ref ow, .ref wo, .int (nI md)])), (ow, .inl (cI, 48, .inl fo)), (wo, .inl (cI, 48, .inl fw)), (pl, .inr (2, [.ref po, .int (nI ht)])), (po, .inl (cI, 8, .inl fp)), (en, .inr (3, [.ref eo, .ref sb, .int (nI len)])), (eo, .inl (cI, 5, .inl fe)), (sb, .inl (cG, 5, .inr (.inr (.inr (.inr (fun uu => some (rr uu))))))), (rr 0, .inl (cI, 4, .inl (M 0))), (rr 1, .inl (cI, 4, .inl (M 1))), (rr 2, .inl (cI, 4, .inl (M 2))), (rr 3, .inl (cI, 4, .inl (M 3))), (rr 4, .inl (cI, 4, .inl (M 4)))]) rfl (by decide) rfl hl.1 rfl (Nat.le_of_ble_eq_true rfl) d_X_make_32 (fun H locs hP hD hS => ?_)
          refine zz_oI (fun h32 => ?_) (fun k32 h32 => ?_)
          · skip
            refine lv_istore_n (lv' := [(2, .int (-1)), (0, .ref h0), (1, .int (nI n))]) hx hb d_X_make_35 rfl hl (by decide) rfl (fun ls hl => ?_)
            refine lv_iload_n hx hb d_X_make_36 rfl (lv_at hl 0 rfl) ?_
            refine lv_iconst (v := (-1)) hx hb d_X_make_37 (by decide +kernel) ?_
            refine lv_icmp_ne (tgt := 57) hx hb d_X_make_38 (by decide) (fun c38 => ?_) (fun c38 => ?_)
            · skip
              exact absurd rfl c38
            · skip
              refine lv_aload_n hx hb d_X_make_41 rfl (lv_at hl 1 rfl) ?_
              refine zz_callI (np := 0) hx hb hml hown hts hK hP hD hS hA (c_X_bringUpToDate l D cI cG h0 hp ow wo pl po en eo sb rr fo fw md fp ht fe M len rk hht hlen hc) (zz_gv kw_102 kw_103 kw_104 kw_58 kc_101) (by decide +kernel) rfl rfl ⟨Nat.le_of_ble_eq_true rfl, Nat.le_of_ble_eq_true rfl⟩ ⟨Nat.zero_le _, Nat.zero_le _⟩ [0, 1] rfl 0 0 rfl rfl rfl [0, 1, 2, 3, 4, 5, 6, 7, 8, 9, 10, 11, 12, 13] [] [0, 1, 2, 3, 4, 5, 6, 7, 8, 9, 10, 11, 12, 13] rfl (by decide) (wr := []) rfl (by decide) (by decide) (ws' := [(h0, .inr (0, [.ref hp, .ref pl, .ref en, .int (rk + nI 1)])), (hp, .inr (1, [.ref ow, .ref wo, .int (nI md)])), (ow, .inl (cI, 48, .inl ((lc_bu fo fw fp ht fe M len).1))), (wo, .inl (cI, 48, .inl ((lc_bu fo fw fp ht fe M len).2.1))), (pl, .inr (2, [.ref po, .int (nI ht)])), (po, .inl (cI, 8, .inl fp)), (en, .inr (3, [.ref eo, .ref sb, .int (nI 0)])), (eo, .inl (cI, 5, .inl fe)), (sb, .inl (cG, 5, .inr (.inr (.inr (.inr (fun uu => some (rr uu))))))), (rr 0, .inl (cI, 4, .inl (M 0))), (rr 1, .inl (cI, 4, .inl (M 1))), (rr 2, .inl (cI, 4, .inl (M 2))), (rr 3, .inl (cI, 4, .inl (M 3))), (rr 4, .inl (cI, 4, .inl (M 4)))]) rfl (by decide) rfl hl.1 rfl (Nat.le_of_ble_eq_true rfl) d_X_make_42 (fun H locs hP hD hS => ?_)
              refine lv_pop hx hb d_X_make_45 rfl ?_
              refine lv_aload_n hx hb d_X_make_46 rfl (lv_at hl 1 rfl) ?_
              refine va_get (D := D) (ci := 0) (v := .ref hp) (C := R_X) (T := F_X) (N := 4) hx hb hts i_X hown hK hP 0 rfl rfl 0 (by decide) (hts _ kw_39) (fun _ h9 => h9) rfl d_X_make_47 ?_
              refine lv_iload_n hx hb d_X_make_50 rfl (lv_at hl 2 rfl) ?_
              refine lv_iconst (v := nI 1) hx hb d_X_make_51 (by decide +kernel) ?_
              refine zz_iadd hx hb d_X_make_52 ?_
              refine zz_callI (np := 1) hx hb hml hown hts hK hP hD hS hA (c_Heap_lowestRoom l D cI hp ow wo ((lc_bu fo fw fp ht fe M len).1) ((lc_bu fo fw fp ht fe M len).2.1) md (n + 1) (by omega) (by omega)) (zz_gv kw_118 kw_119 kw_120 kw_6 kc_117) (by decide +kernel) rfl rfl ⟨Nat.le_of_ble_eq_true rfl, Nat.le_of_ble_eq_true rfl⟩ ⟨Nat.zero_le _, Nat.zero_le _⟩ [0] rfl 1 1 rfl rfl rfl [1, 2, 3] [0, 4, 5, 6, 7, 8, 9, 10, 11, 12, 13] [0, 11, 12, 13, 1, 2, 3, 4, 5, 6, 7, 8, 9, 10] rfl (by decide) (wr := [(h0, .inr (0, [.ref hp, .ref pl, .ref en, .int (rk + nI 1)])), (pl, .inr (2, [.ref po, .int (nI ht)])), (po, .inl (cI, 8, .inl fp)), (en, .inr (3, [.ref eo, .ref sb, .int (nI 0)])), (eo, .inl (cI, 5, .inl fe)), (sb, .inl (cG, 5, .inr (.inr (.inr (.inr (fun uu => some (rr uu))))))), (rr 0, .inl (cI, 4, .inl (M 0))), (rr 1, .inl (cI, 4, .inl (M 1))), (rr 2, .inl (cI, 4, .inl (M 2))), (rr 3, .inl (cI, 4, .inl (M 3))), (rr 4, .inl (cI, 4, .inl (M 4)))]) rfl (by decide) (by decide) (ws' := [(h0, .inr (0, [.ref hp, .ref pl, .ref en, .int (rk + nI 1)])), (hp, .inr (1, [.ref ow, .ref wo, .int (nI md)])), (ow, .inl (cI, 48, .inl ((lc_bu fo fw fp ht fe M len).1))), (wo, .inl (cI, 48, .inl ((lc_bu fo fw fp ht fe M len).2.1))), (pl, .inr (2, [.ref po, .int (nI ht)])), (po, .inl (cI, 8, .inl fp)), (en, .inr (3, [.ref eo, .ref sb, .int (nI 0)])), (eo, .inl (cI, 5, .inl fe)), (sb, .inl (cG, 5, .inr (.inr (.inr (.inr (fun uu => some (rr uu))))))), (rr 0, .inl (cI, 4, .inl (M 0))), (rr 1, .inl (cI, 4, .inl (M 1))), (rr 2, .inl (cI, 4, .inl (M 2))), (rr 3, .inl (cI, 4, .inl (M 3))), (rr 4, .inl (cI, 4, .inl (M 4)))]) rfl (by decide) rfl hl.1 rfl (Nat.le_of_ble_eq_true rfl) d_X_make_53 (fun H locs hP hD hS => ?_)
              refine zz_oI (fun h53 => ?_) (fun k53 h53 => ?_)
              · skip
                refine lv_istore_n (lv' := [(2, .int (-1)), (0, .ref h0), (1, .int (nI n))]) hx hb d_X_make_56 rfl hl (by decide) rfl (fun ls hl => ?_)
                refine lv_iload_n hx hb d_X_make_57 rfl (lv_at hl 0 rfl) ?_
                refine lv_iconst (v := (-1)) hx hb d_X_make_58 (by decide +kernel) ?_
                refine lv_icmp_ne (tgt := 65) hx hb d_X_make_59 (by decide) (fun c59 => ?_) (fun c59 => ?_)
                · skip
                  exact absurd rfl c59
                · skip
                  refine lv_bipush (v := (-3)) hx hb d_X_make_62 (by decide +kernel) ?_
                  refine zz_top (z := (lx_make fo fw md fp ht fe M len rk (nI n)).1) (by first | (simp only [lx_make, e14]; done) | (simp only [lx_make, e14, if_pos e8]; done) | (simp only [lx_make, lx_lay, e14, if_neg e8, h32]; done) | (simp only [lx_make, lx_lay, lx_bring, e14, if_neg e8, h32, h53]; done)) ?_
                  have eW : ([(h0, .inr (0, [.ref hp, .ref pl, .ref en, .int (rk + nI 1)])), (hp, .inr (1, [.ref ow, .ref wo, .int (nI md)])), (ow, .inl (cI, 48, .inl ((lc_bu fo fw fp ht fe M len).1))), (wo, .inl (cI, 48, .inl ((lc_bu fo fw fp ht fe M len).2.1))), (pl, .inr (2, [.ref po, .int (nI ht)])), (po, .inl (cI, 8, .inl fp)), (en, .inr (3, [.ref eo, .ref sb, .int (nI 0)])), (eo, .inl (cI, 5, .inl fe)), (sb, .inl (cG, 5, .inr (.inr (.inr (.inr (fun uu => some (rr uu))))))), (rr 0, .inl (cI, 4, .inl (M 0))), (rr 1, .inl (cI, 4, .inl (M 1))), (rr 2, .inl (cI, 4, .inl (M 2))), (rr 3, .inl (cI, 4, .inl (M 3))), (rr 4, .inl (cI, 4, .inl (M 4)))] : va_W) = [(h0, .inr (0, [.ref hp, .ref pl, .ref en, .int (((lx_make fo fw md fp ht fe M len rk (nI n)).2).2.2.2.2.2.2.2.2)])), (hp, .inr (1, [.ref ow, .ref wo, .int (nI (((lx_make fo fw md fp ht fe M len rk (nI n)).2).2.2.1))])), (ow, .inl (cI, 48, .inl (((lx_make fo fw md fp ht fe M len rk (nI n)).2).1))), (wo, .inl (cI, 48, .inl (((lx_make fo fw md fp ht fe M len rk (nI n)).2).2.1))), (pl, .inr (2, [.ref po, .int (nI (((lx_make fo fw md fp ht fe M len rk (nI n)).2).2.2.2.2.1))])), (po, .inl (cI, 8, .inl (((lx_make fo fw md fp ht fe M len rk (nI n)).2).2.2.2.1))), (en, .inr (3, [.ref eo, .ref sb, .int (nI (((lx_make fo fw md fp ht fe M len rk (nI n)).2).2.2.2.2.2.2.2.1))])), (eo, .inl (cI, 5, .inl (((lx_make fo fw md fp ht fe M len rk (nI n)).2).2.2.2.2.2.1))), (sb, .inl (cG, 5, .inr (.inr (.inr (.inr (fun uu => some (rr uu))))))), (rr 0, .inl (cI, 4, .inl ((((lx_make fo fw md fp ht fe M len rk (nI n)).2).2.2.2.2.2.2.1) 0))), (rr 1, .inl (cI, 4, .inl ((((lx_make fo fw md fp ht fe M len rk (nI n)).2).2.2.2.2.2.2.1) 1))), (rr 2, .inl (cI, 4, .inl ((((lx_make fo fw md fp ht fe M len rk (nI n)).2).2.2.2.2.2.2.1) 2))), (rr 3, .inl (cI, 4, .inl ((((lx_make fo fw md fp ht fe M len rk (nI n)).2).2.2.2.2.2.2.1) 3))), (rr 4, .inl (cI, 4, .inl ((((lx_make fo fw md fp ht fe M len rk (nI n)).2).2.2.2.2.2.2.1) 4)))] := by first | (simp only [lx_make, e14]; done) | (simp only [lx_make, e14, if_pos e8]; done) | (simp only [lx_make, lx_lay, e14, if_neg e8, h32]; done) | (simp only [lx_make, lx_lay, lx_bring, e14, if_neg e8, h32, h53]; done)
                  exact hret _ _ _ _ d_X_make_64 (zz_toP eW hP) (zz_toD eW hD) hS
              · skip
                have hrm := lc_room_spec (by omega) h53
                refine lv_istore_n (lv' := [(2, .int (nI k53)), (0, .ref h0), (1, .int (nI n))]) hx hb d_X_make_56 rfl hl (by decide) rfl (fun ls hl => ?_)
                refine lv_iload_n hx hb d_X_make_57 rfl (lv_at hl 0 rfl) ?_
                refine lv_iconst (v := (-1)) hx hb d_X_make_58 (by decide +kernel) ?_
                refine lv_icmp_ne (tgt := 65) hx hb d_X_make_59 (by decide) (fun c59 => ?_) (fun c59 => ?_)
                · skip
                  refine lv_aload_n hx hb d_X_make_65 rfl (lv_at hl 1 rfl) ?_
                  refine va_get (D := D) (ci := 0) (v := .ref pl) (C := R_X) (T := F_X) (N := 4) hx hb hts i_X hown hK hP 0 rfl rfl 1 (by decide) (hts _ kw_33) (fun _ h9 => h9) rfl d_X_make_66 ?_
                  refine lv_aload_n hx hb d_X_make_69 rfl (lv_at hl 1 rfl) ?_
                  refine va_get (D := D) (ci := 0) (v := .ref hp) (C := R_X) (T := F_X) (N := 4) hx hb hts i_X hown hK hP 0 rfl rfl 0 (by decide) (hts _ kw_39) (fun _ h9 => h9) rfl d_X_make_70 ?_
                  refine lv_iload_n hx hb d_X_make_73 rfl (lv_at hl 0 rfl) ?_
                  refine lv_iload_n hx hb d_X_make_74 rfl (lv_at hl 2 rfl) ?_
                  refine zz_callI (np := 2) hx hb hml hown hts hK hP hD hS hA (c_Heap_layNew l D cI hp ow wo ((lc_bu fo fw fp ht fe M len).1) ((lc_bu fo fw fp ht fe M len).2.1) md k53 n (by omega)) (zz_gv kw_122 kw_123 kw_124 kw_6 kc_121) (by decide +kernel) rfl rfl ⟨Nat.le_of_ble_eq_true rfl, Nat.le_of_ble_eq_true rfl⟩ ⟨Nat.zero_le _, Nat.zero_le _⟩ [0] rfl 1 1 rfl rfl rfl [1, 2, 3] [0, 4, 5, 6, 7, 8, 9, 10, 11, 12, 13] [0, 11, 12, 13, 1, 2, 3, 4, 5, 6, 7, 8, 9, 10] rfl (by decide) (wr := [(h0, .inr (0, [.ref hp, .ref pl, .ref en, .int (rk + nI 1)])), (pl, .inr (2, [.ref po, .int (nI ht)])), (po, .inl (cI, 8, .inl fp)), (en, .inr (3, [.ref eo, .ref sb, .int (nI 0)])), (eo, .inl (cI, 5, .inl fe)), (sb, .inl (cG, 5, .inr (.inr (.inr (.inr (fun uu => some (rr uu))))))), (rr 0, .inl (cI, 4, .inl (M 0))), (rr 1, .inl (cI, 4, .inl (M 1))), (rr 2, .inl (cI, 4, .inl (M 2))), (rr 3, .inl (cI, 4, .inl (M 3))), (rr 4, .inl (cI, 4, .inl (M 4)))]) rfl (by decide) (by decide) (ws' := [(h0, .inr (0, [.ref hp, .ref pl, .ref en, .int (rk + nI 1)])), (hp, .inr (1, [.ref ow, .ref wo, .int (nI (md + 1))])), (ow, .inl (cI, 48, .inl (lc_fill ((lc_bu fo fw fp ht fe M len).1) k53 (n + 1) (nI (md + 1))))), (wo, .inl (cI, 48, .inl (lc_fill ((lc_bu fo fw fp ht fe M len).2.1) k53 (n + 1) 0))), (pl, .inr (2, [.ref po, .int (nI ht)])), (po, .inl (cI, 8, .inl fp)), (en, .inr (3, [.ref eo, .ref sb, .int (nI 0)])), (eo, .inl (cI, 5, .inl fe)), (sb, .inl (cG, 5, .inr (.inr (.inr (.inr (fun uu => some (rr uu))))))), (rr 0, .inl (cI, 4, .inl (M 0))), (rr 1, .inl (cI, 4, .inl (M 1))), (rr 2, .inl (cI, 4, .inl (M 2))), (rr 3, .inl (cI, 4, .inl (M 3))), (rr 4, .inl (cI, 4, .inl (M 4)))]) rfl (by decide) rfl hl.1 rfl (Nat.le_of_ble_eq_true rfl) d_X_make_75 (fun H locs hP hD hS => ?_)
                  refine zz_callI (np := 1) hx hb hml hown hts hK hP hD hS hA (c_Places_push l D cI pl po fp ht (nI (md + 1)) (by omega)) (zz_gv kw_126 kw_127 kw_128 kw_38 kc_125) (by decide +kernel) rfl rfl ⟨Nat.le_of_ble_eq_true rfl, Nat.le_of_ble_eq_true rfl⟩ ⟨Nat.zero_le _, Nat.zero_le _⟩ [0] rfl 4 2 rfl rfl rfl [4, 5] [0, 1, 2, 3, 6, 7, 8, 9, 10, 11, 12, 13] [0, 1, 2, 3, 12, 13, 4, 5, 6, 7, 8, 9, 10, 11] rfl (by decide) (wr := [(h0, .inr (0, [.ref hp, .ref pl, .ref en, .int (rk + nI 1)])), (hp, .inr (1, [.ref ow, .ref wo, .int (nI (md + 1))])), (ow, .inl (cI, 48, .inl (lc_fill ((lc_bu fo fw fp ht fe M len).1) k53 (n + 1) (nI (md + 1))))), (wo, .inl (cI, 48, .inl (lc_fill ((lc_bu fo fw fp ht fe M len).2.1) k53 (n + 1) 0))), (en, .inr (3, [.ref eo, .ref sb, .int (nI 0)])), (eo, .inl (cI, 5, .inl fe)), (sb, .inl (cG, 5, .inr (.inr (.inr (.inr (fun uu => some (rr uu))))))), (rr 0, .inl (cI, 4, .inl (M 0))), (rr 1, .inl (cI, 4, .inl (M 1))), (rr 2, .inl (cI, 4, .inl (M 2))), (rr 3, .inl (cI, 4, .inl (M 3))), (rr 4, .inl (cI, 4, .inl (M 4)))]) rfl (by decide) (by decide) (ws' := [(h0, .inr (0, [.ref hp, .ref pl, .ref en, .int (rk + nI 1)])), (hp, .inr (1, [.ref ow, .ref wo, .int (nI (md + 1))])), (ow, .inl (cI, 48, .inl (lc_fill ((lc_bu fo fw fp ht fe M len).1) k53 (n + 1) (nI (md + 1))))), (wo, .inl (cI, 48, .inl (lc_fill ((lc_bu fo fw fp ht fe M len).2.1) k53 (n + 1) 0))), (pl, .inr (2, [.ref po, .int (nI (ht + 1))])), (po, .inl (cI, 8, .inl (upd fp ht (nI (md + 1))))), (en, .inr (3, [.ref eo, .ref sb, .int (nI 0)])), (eo, .inl (cI, 5, .inl fe)), (sb, .inl (cG, 5, .inr (.inr (.inr (.inr (fun uu => some (rr uu))))))), (rr 0, .inl (cI, 4, .inl (M 0))), (rr 1, .inl (cI, 4, .inl (M 1))), (rr 2, .inl (cI, 4, .inl (M 2))), (rr 3, .inl (cI, 4, .inl (M 3))), (rr 4, .inl (cI, 4, .inl (M 4)))]) rfl (by decide) rfl hl.1 rfl (Nat.le_of_ble_eq_true rfl) d_X_make_78 (fun H locs hP hD hS => ?_)
                  refine zz_top (z := (lx_make fo fw md fp ht fe M len rk (nI n)).1) (by first | (simp only [lx_make, e14]; done) | (simp only [lx_make, e14, if_pos e8]; done) | (simp only [lx_make, lx_lay, e14, if_neg e8, h32]; done) | (simp only [lx_make, lx_lay, lx_bring, e14, if_neg e8, h32, h53]; done)) ?_
                  have eW : ([(h0, .inr (0, [.ref hp, .ref pl, .ref en, .int (rk + nI 1)])), (hp, .inr (1, [.ref ow, .ref wo, .int (nI (md + 1))])), (ow, .inl (cI, 48, .inl (lc_fill ((lc_bu fo fw fp ht fe M len).1) k53 (n + 1) (nI (md + 1))))), (wo, .inl (cI, 48, .inl (lc_fill ((lc_bu fo fw fp ht fe M len).2.1) k53 (n + 1) 0))), (pl, .inr (2, [.ref po, .int (nI (ht + 1))])), (po, .inl (cI, 8, .inl (upd fp ht (nI (md + 1))))), (en, .inr (3, [.ref eo, .ref sb, .int (nI 0)])), (eo, .inl (cI, 5, .inl fe)), (sb, .inl (cG, 5, .inr (.inr (.inr (.inr (fun uu => some (rr uu))))))), (rr 0, .inl (cI, 4, .inl (M 0))), (rr 1, .inl (cI, 4, .inl (M 1))), (rr 2, .inl (cI, 4, .inl (M 2))), (rr 3, .inl (cI, 4, .inl (M 3))), (rr 4, .inl (cI, 4, .inl (M 4)))] : va_W) = [(h0, .inr (0, [.ref hp, .ref pl, .ref en, .int (((lx_make fo fw md fp ht fe M len rk (nI n)).2).2.2.2.2.2.2.2.2)])), (hp, .inr (1, [.ref ow, .ref wo, .int (nI (((lx_make fo fw md fp ht fe M len rk (nI n)).2).2.2.1))])), (ow, .inl (cI, 48, .inl (((lx_make fo fw md fp ht fe M len rk (nI n)).2).1))), (wo, .inl (cI, 48, .inl (((lx_make fo fw md fp ht fe M len rk (nI n)).2).2.1))), (pl, .inr (2, [.ref po, .int (nI (((lx_make fo fw md fp ht fe M len rk (nI n)).2).2.2.2.2.1))])), (po, .inl (cI, 8, .inl (((lx_make fo fw md fp ht fe M len rk (nI n)).2).2.2.2.1))), (en, .inr (3, [.ref eo, .ref sb, .int (nI (((lx_make fo fw md fp ht fe M len rk (nI n)).2).2.2.2.2.2.2.2.1))])), (eo, .inl (cI, 5, .inl (((lx_make fo fw md fp ht fe M len rk (nI n)).2).2.2.2.2.2.1))), (sb, .inl (cG, 5, .inr (.inr (.inr (.inr (fun uu => some (rr uu))))))), (rr 0, .inl (cI, 4, .inl ((((lx_make fo fw md fp ht fe M len rk (nI n)).2).2.2.2.2.2.2.1) 0))), (rr 1, .inl (cI, 4, .inl ((((lx_make fo fw md fp ht fe M len rk (nI n)).2).2.2.2.2.2.2.1) 1))), (rr 2, .inl (cI, 4, .inl ((((lx_make fo fw md fp ht fe M len rk (nI n)).2).2.2.2.2.2.2.1) 2))), (rr 3, .inl (cI, 4, .inl ((((lx_make fo fw md fp ht fe M len rk (nI n)).2).2.2.2.2.2.2.1) 3))), (rr 4, .inl (cI, 4, .inl ((((lx_make fo fw md fp ht fe M len rk (nI n)).2).2.2.2.2.2.2.1) 4)))] := by first | (simp only [lx_make, e14]; done) | (simp only [lx_make, e14, if_pos e8]; done) | (simp only [lx_make, lx_lay, e14, if_neg e8, h32]; done) | (simp only [lx_make, lx_lay, lx_bring, e14, if_neg e8, h32, h53]; done)
                  exact hret _ _ _ _ d_X_make_81 (zz_toP eW hP) (zz_toD eW hD) hS
                · skip
                  exact absurd c59 (zz_nm1 (by omega))
          · skip
            have hrm := lc_room_spec (by omega) h32
            refine lv_istore_n (lv' := [(2, .int (nI k32)), (0, .ref h0), (1, .int (nI n))]) hx hb d_X_make_35 rfl hl (by decide) rfl (fun ls hl => ?_)
            refine lv_iload_n hx hb d_X_make_36 rfl (lv_at hl 0 rfl) ?_
            refine lv_iconst (v := (-1)) hx hb d_X_make_37 (by decide +kernel) ?_
            refine lv_icmp_ne (tgt := 57) hx hb d_X_make_38 (by decide) (fun c38 => ?_) (fun c38 => ?_)
            · skip
              refine lv_iload_n hx hb d_X_make_57 rfl (lv_at hl 0 rfl) ?_
              refine lv_iconst (v := (-1)) hx hb d_X_make_58 (by decide +kernel) ?_
              refine lv_icmp_ne (tgt := 65) hx hb d_X_make_59 (by decide) (fun c59 => ?_) (fun c59 => ?_)
              · skip
                refine lv_aload_n hx hb d_X_make_65 rfl (lv_at hl 1 rfl) ?_
                refine va_get (D := D) (ci := 0) (v := .ref pl) (C := R_X) (T := F_X) (N := 4) hx hb hts i_X hown hK hP 0 rfl rfl 1 (by decide) (hts _ kw_33) (fun _ h9 => h9) rfl d_X_make_66 ?_
                refine lv_aload_n hx hb d_X_make_69 rfl (lv_at hl 1 rfl) ?_
                refine va_get (D := D) (ci := 0) (v := .ref hp) (C := R_X) (T := F_X) (N := 4) hx hb hts i_X hown hK hP 0 rfl rfl 0 (by decide) (hts _ kw_39) (fun _ h9 => h9) rfl d_X_make_70 ?_
                refine lv_iload_n hx hb d_X_make_73 rfl (lv_at hl 0 rfl) ?_
                refine lv_iload_n hx hb d_X_make_74 rfl (lv_at hl 2 rfl) ?_
                refine zz_callI (np := 2) hx hb hml hown hts hK hP hD hS hA (c_Heap_layNew l D cI hp ow wo fo fw md k32 n (by omega)) (zz_gv kw_122 kw_123 kw_124 kw_6 kc_121) (by decide +kernel) rfl rfl ⟨Nat.le_of_ble_eq_true rfl, Nat.le_of_ble_eq_true rfl⟩ ⟨Nat.zero_le _, Nat.zero_le _⟩ [0] rfl 1 1 rfl rfl rfl [1, 2, 3] [0, 4, 5, 6, 7, 8, 9, 10, 11, 12, 13] [0, 11, 12, 13, 1, 2, 3, 4, 5, 6, 7, 8, 9, 10] rfl (by decide) (wr := [(h0, .inr (0, [.ref hp, .ref pl, .ref en, .int rk])), (pl, .inr (2, [.ref po, .int (nI ht)])), (po, .inl (cI, 8, .inl fp)), (en, .inr (3, [.ref eo, .ref sb, .int (nI len)])), (eo, .inl (cI, 5, .inl fe)), (sb, .inl (cG, 5, .inr (.inr (.inr (.inr (fun uu => some (rr uu))))))), (rr 0, .inl (cI, 4, .inl (M 0))), (rr 1, .inl (cI, 4, .inl (M 1))), (rr 2, .inl (cI, 4, .inl (M 2))), (rr 3, .inl (cI, 4, .inl (M 3))), (rr 4, .inl (cI, 4, .inl (M 4)))]) rfl (by decide) (by decide) (ws' := [(h0, .inr (0, [.ref hp, .ref pl, .ref en, .int rk])), (hp, .inr (1, [.ref ow, .ref wo, .int (nI (md + 1))])), (ow, .inl (cI, 48, .inl (lc_fill fo k32 (n + 1) (nI (md + 1))))), (wo, .inl (cI, 48, .inl (lc_fill fw k32 (n + 1) 0))), (pl, .inr (2, [.ref po, .int (nI ht)])), (po, .inl (cI, 8, .inl fp)), (en, .inr (3, [.ref eo, .ref sb, .int (nI len)])), (eo, .inl (cI, 5, .inl fe)), (sb, .inl (cG, 5, .inr (.inr (.inr (.inr (fun uu => some (rr uu))))))), (rr 0, .inl (cI, 4, .inl (M 0))), (rr 1, .inl (cI, 4, .inl (M 1))), (rr 2, .inl (cI, 4, .inl (M 2))), (rr 3, .inl (cI, 4, .inl (M 3))), (rr 4, .inl (cI, 4, .inl (M 4)))]) rfl (by decide) rfl hl.1 rfl (Nat.le_of_ble_eq_true rfl) d_X_make_75 (fun H locs hP hD hS => ?_)
                refine zz_callI (np := 1) hx hb hml hown hts hK hP hD hS hA (c_Places_push l D cI pl po fp ht (nI (md + 1)) (by omega)) (zz_gv kw_126 kw_127 kw_128 kw_38 kc_125) (by decide +kernel) rfl rfl ⟨Nat.le_of_ble_eq_true rfl, Nat.le_of_ble_eq_true rfl⟩ ⟨Nat.zero_le _, Nat.zero_le _⟩ [0] rfl 4 2 rfl rfl rfl [4, 5] [0, 1, 2, 3, 6, 7, 8, 9, 10, 11, 12, 13] [0, 1, 2, 3, 12, 13, 4, 5, 6, 7, 8, 9, 10, 11] rfl (by decide) (wr := [(h0, .inr (0, [.ref hp, .ref pl, .ref en, .int rk])), (hp, .inr (1, [.ref ow, .ref wo, .int (nI (md + 1))])), (ow, .inl (cI, 48, .inl (lc_fill fo k32 (n + 1) (nI (md + 1))))), (wo, .inl (cI, 48, .inl (lc_fill fw k32 (n + 1) 0))), (en, .inr (3, [.ref eo, .ref sb, .int (nI len)])), (eo, .inl (cI, 5, .inl fe)), (sb, .inl (cG, 5, .inr (.inr (.inr (.inr (fun uu => some (rr uu))))))), (rr 0, .inl (cI, 4, .inl (M 0))), (rr 1, .inl (cI, 4, .inl (M 1))), (rr 2, .inl (cI, 4, .inl (M 2))), (rr 3, .inl (cI, 4, .inl (M 3))), (rr 4, .inl (cI, 4, .inl (M 4)))]) rfl (by decide) (by decide) (ws' := [(h0, .inr (0, [.ref hp, .ref pl, .ref en, .int rk])), (hp, .inr (1, [.ref ow, .ref wo, .int (nI (md + 1))])), (ow, .inl (cI, 48, .inl (lc_fill fo k32 (n + 1) (nI (md + 1))))), (wo, .inl (cI, 48, .inl (lc_fill fw k32 (n + 1) 0))), (pl, .inr (2, [.ref po, .int (nI (ht + 1))])), (po, .inl (cI, 8, .inl (upd fp ht (nI (md + 1))))), (en, .inr (3, [.ref eo, .ref sb, .int (nI len)])), (eo, .inl (cI, 5, .inl fe)), (sb, .inl (cG, 5, .inr (.inr (.inr (.inr (fun uu => some (rr uu))))))), (rr 0, .inl (cI, 4, .inl (M 0))), (rr 1, .inl (cI, 4, .inl (M 1))), (rr 2, .inl (cI, 4, .inl (M 2))), (rr 3, .inl (cI, 4, .inl (M 3))), (rr 4, .inl (cI, 4, .inl (M 4)))]) rfl (by decide) rfl hl.1 rfl (Nat.le_of_ble_eq_true rfl) d_X_make_78 (fun H locs hP hD hS => ?_)
                refine zz_top (z := (lx_make fo fw md fp ht fe M len rk (nI n)).1) (by first | (simp only [lx_make, e14]; done) | (simp only [lx_make, e14, if_pos e8]; done) | (simp only [lx_make, lx_lay, e14, if_neg e8, h32]; done) | (simp only [lx_make, lx_lay, lx_bring, e14, if_neg e8, h32, h53]; done)) ?_
                have eW : ([(h0, .inr (0, [.ref hp, .ref pl, .ref en, .int rk])), (hp, .inr (1, [.ref ow, .ref wo, .int (nI (md + 1))])), (ow, .inl (cI, 48, .inl (lc_fill fo k32 (n + 1) (nI (md + 1))))), (wo, .inl (cI, 48, .inl (lc_fill fw k32 (n + 1) 0))), (pl, .inr (2, [.ref po, .int (nI (ht + 1))])), (po, .inl (cI, 8, .inl (upd fp ht (nI (md + 1))))), (en, .inr (3, [.ref eo, .ref sb, .int (nI len)])), (eo, .inl (cI, 5, .inl fe)), (sb, .inl (cG, 5, .inr (.inr (.inr (.inr (fun uu => some (rr uu))))))), (rr 0, .inl (cI, 4, .inl (M 0))), (rr 1, .inl (cI, 4, .inl (M 1))), (rr 2, .inl (cI, 4, .inl (M 2))), (rr 3, .inl (cI, 4, .inl (M 3))), (rr 4, .inl (cI, 4, .inl (M 4)))] : va_W) = [(h0, .inr (0, [.ref hp, .ref pl, .ref en, .int (((lx_make fo fw md fp ht fe M len rk (nI n)).2).2.2.2.2.2.2.2.2)])), (hp, .inr (1, [.ref ow, .ref wo, .int (nI (((lx_make fo fw md fp ht fe M len rk (nI n)).2).2.2.1))])), (ow, .inl (cI, 48, .inl (((lx_make fo fw md fp ht fe M len rk (nI n)).2).1))), (wo, .inl (cI, 48, .inl (((lx_make fo fw md fp ht fe M len rk (nI n)).2).2.1))), (pl, .inr (2, [.ref po, .int (nI (((lx_make fo fw md fp ht fe M len rk (nI n)).2).2.2.2.2.1))])), (po, .inl (cI, 8, .inl (((lx_make fo fw md fp ht fe M len rk (nI n)).2).2.2.2.1))), (en, .inr (3, [.ref eo, .ref sb, .int (nI (((lx_make fo fw md fp ht fe M len rk (nI n)).2).2.2.2.2.2.2.2.1))])), (eo, .inl (cI, 5, .inl (((lx_make fo fw md fp ht fe M len rk (nI n)).2).2.2.2.2.2.1))), (sb, .inl (cG, 5, .inr (.inr (.inr (.inr (fun uu => some (rr uu))))))), (rr 0, .inl (cI, 4, .inl ((((lx_make fo fw md fp ht fe M len rk (nI n)).2).2.2.2.2.2.2.1) 0))), (rr 1, .inl (cI, 4, .inl ((((lx_make fo fw md fp ht fe M len rk (nI n)).2).2.2.2.2.2.2.1) 1))), (rr 2, .inl (cI, 4, .inl ((((lx_make fo fw md fp ht fe M len rk (nI n)).2).2.2.2.2.2.2.1) 2))), (rr 3, .inl (cI, 4, .inl ((((lx_make fo fw md fp ht fe M len rk (nI n)).2).2.2.2.2.2.2.1) 3))), (rr 4, .inl (cI, 4, .inl ((((lx_make fo fw md fp ht fe M len rk (nI n)).2).2.2.2.2.2.2.1) 4)))] := by first | (simp only [lx_make, e14]; done) | (simp only [lx_make, e14, if_pos e8]; done) | (simp only [lx_make, lx_lay, e14, if_neg e8, h32]; done) | (simp only [lx_make, lx_lay, lx_bring, e14, if_neg e8, h32, h53]; done)
                exact hret _ _ _ _ d_X_make_81 (zz_toP eW hP) (zz_toD eW hD) hS
              · skip
                exact absurd c59 (zz_nm1 (by omega))
            · skip
              exact absurd c38 (zz_nm1 (by omega))
        · skip
          exact absurd c19 (by omega)
    · skip
      have e14 := lc_14_no (Or.inr (Int32.not_le.mp c7))
      refine lv_iconst (v := (-1)) hx hb d_X_make_10 (by decide +kernel) ?_
      refine zz_top (z := (lx_make fo fw md fp ht fe M len rk x).1) (by first | (simp only [lx_make, e14]; done) | (simp only [lx_make, e14, if_pos e8]; done) | (simp only [lx_make, lx_lay, e14, if_neg e8, h32]; done) | (simp only [lx_make, lx_lay, lx_bring, e14, if_neg e8, h32, h53]; done)) ?_
      have eW : ([(h0, .inr (0, [.ref hp, .ref pl, .ref en, .int rk])), (hp, .inr (1, [.ref ow, .ref wo, .int (nI md)])), (ow, .inl (cI, 48, .inl fo)), (wo, .inl (cI, 48, .inl fw)), (pl, .inr (2, [.ref po, .int (nI ht)])), (po, .inl (cI, 8, .inl fp)), (en, .inr (3, [.ref eo, .ref sb, .int (nI len)])), (eo, .inl (cI, 5, .inl fe)), (sb, .inl (cG, 5, .inr (.inr (.inr (.inr (fun uu => some (rr uu))))))), (rr 0, .inl (cI, 4, .inl (M 0))), (rr 1, .inl (cI, 4, .inl (M 1))), (rr 2, .inl (cI, 4, .inl (M 2))), (rr 3, .inl (cI, 4, .inl (M 3))), (rr 4, .inl (cI, 4, .inl (M 4)))] : va_W) = [(h0, .inr (0, [.ref hp, .ref pl, .ref en, .int (((lx_make fo fw md fp ht fe M len rk x).2).2.2.2.2.2.2.2.2)])), (hp, .inr (1, [.ref ow, .ref wo, .int (nI (((lx_make fo fw md fp ht fe M len rk x).2).2.2.1))])), (ow, .inl (cI, 48, .inl (((lx_make fo fw md fp ht fe M len rk x).2).1))), (wo, .inl (cI, 48, .inl (((lx_make fo fw md fp ht fe M len rk x).2).2.1))), (pl, .inr (2, [.ref po, .int (nI (((lx_make fo fw md fp ht fe M len rk x).2).2.2.2.2.1))])), (po, .inl (cI, 8, .inl (((lx_make fo fw md fp ht fe M len rk x).2).2.2.2.1))), (en, .inr (3, [.ref eo, .ref sb, .int (nI (((lx_make fo fw md fp ht fe M len rk x).2).2.2.2.2.2.2.2.1))])), (eo, .inl (cI, 5, .inl (((lx_make fo fw md fp ht fe M len rk x).2).2.2.2.2.2.1))), (sb, .inl (cG, 5, .inr (.inr (.inr (.inr (fun uu => some (rr uu))))))), (rr 0, .inl (cI, 4, .inl ((((lx_make fo fw md fp ht fe M len rk x).2).2.2.2.2.2.2.1) 0))), (rr 1, .inl (cI, 4, .inl ((((lx_make fo fw md fp ht fe M len rk x).2).2.2.2.2.2.2.1) 1))), (rr 2, .inl (cI, 4, .inl ((((lx_make fo fw md fp ht fe M len rk x).2).2.2.2.2.2.2.1) 2))), (rr 3, .inl (cI, 4, .inl ((((lx_make fo fw md fp ht fe M len rk x).2).2.2.2.2.2.2.1) 3))), (rr 4, .inl (cI, 4, .inl ((((lx_make fo fw md fp ht fe M len rk x).2).2.2.2.2.2.2.1) 4)))] := by first | (simp only [lx_make, e14]; done) | (simp only [lx_make, e14, if_pos e8]; done) | (simp only [lx_make, lx_lay, e14, if_neg e8, h32]; done) | (simp only [lx_make, lx_lay, lx_bring, e14, if_neg e8, h32, h53]; done)
      exact hret _ _ _ _ d_X_make_11 (zz_toP eW hP) (zz_toD eW hD) hS
set_option maxHeartbeats 4000000 in
set_option maxRecDepth 100000 in
theorem c_X_copy (l : Launch) (D : va_G) (cI : ClassId) (cG : ClassId) (h0 : Nat) (hp : Nat) (ow : Nat) (wo : Nat) (pl : Nat) (po : Nat) (en : Nat) (eo : Nat) (sb : Nat) (rr : Nat → Nat) (fo : lc_A) (fw : lc_A) (md : Nat) (fp : lc_A) (ht : Nat) (fe : lc_A) (M : Nat → lc_A) (len : Nat) (rk : Int32) (x : Int32) (hht : ht ≤ 8) : zz_MI l y_X_copy b_X_copy 2 .int ({ frames := 1, cells := 0, slots := 0, locals := 21 } : Room) D [(cI, .int), (cG, .array .int)] [.ref h0, .int x] [(h0, .inr (0, [.ref hp, .ref pl, .ref en, .int rk])), (hp, .inr (1, [.ref ow, .ref wo, .int (nI md)])), (ow, .inl (cI, 48, .inl fo)), (wo, .inl (cI, 48, .inl fw)), (pl, .inr (2, [.ref po, .int (nI ht)])), (po, .inl (cI, 8, .inl fp)), (en, .inr (3, [.ref eo, .ref sb, .int (nI len)])), (eo, .inl (cI, 5, .inl fe)), (sb, .inl (cG, 5, .inr (.inr (.inr (.inr (fun uu => some (rr uu))))))), (rr 0, .inl (cI, 4, .inl (M 0))), (rr 1, .inl (cI, 4, .inl (M 1))), (rr 2, .inl (cI, 4, .inl (M 2))), (rr 3, .inl (cI, 4, .inl (M 3))), (rr 4, .inl (cI, 4, .inl (M 4)))] ((lx_copy fp ht x).1) [(h0, .inr (0, [.ref hp, .ref pl, .ref en, .int rk])), (hp, .inr (1, [.ref ow, .ref wo, .int (nI md)])), (ow, .inl (cI, 48, .inl fo)), (wo, .inl (cI, 48, .inl fw)), (pl, .inr (2, [.ref po, .int (nI ((lx_copy fp ht x).2.2))])), (po, .inl (cI, 8, .inl ((lx_copy fp ht x).2.1))), (en, .inr (3, [.ref eo, .ref sb, .int (nI len)])), (eo, .inl (cI, 5, .inl fe)), (sb, .inl (cG, 5, .inr (.inr (.inr (.inr (fun uu => some (rr uu))))))), (rr 0, .inl (cI, 4, .inl (M 0))), (rr 1, .inl (cI, 4, .inl (M 1))), (rr 2, .inl (cI, 4, .inl (M 2))), (rr 3, .inl (cI, 4, .inl (M 3))), (rr 4, .inl (cI, 4, .inl (M 4)))] := by
  refine zz_MI_of (by decide) (Nat.le_of_ble_eq_true rfl) (vp_nar_int _) ?_
  intro p e s m args below meth c A ls Q hx hb hml hown hts hK hP hD hS hA hl hret
  have hown : s.vm.findClass R_X = some m.cls := hown
  have hl : lv_has ls 2 [(0, .ref h0), (1, .int x)] := hl
  refine lv_aload_n hx hb d_X_copy_0 rfl (lv_at hl 0 rfl) ?_
  refine va_get (D := D) (ci := 0) (v := .ref pl) (C := R_X) (T := F_X) (N := 4) hx hb hts i_X hown hK hP 0 rfl rfl 1 (by decide) (hts _ kw_33) (fun _ h9 => h9) rfl d_X_copy_1 ?_
  refine lv_iload_n hx hb d_X_copy_4 rfl (lv_at hl 1 rfl) ?_
  refine zz_callI (np := 1) hx hb hml hown hts hK hP hD hS hA (c_Places_has l D cI pl po fp ht x ) (zz_gv kw_35 kw_36 kw_37 kw_38 kc_34) (by decide +kernel) rfl rfl ⟨Nat.le_of_ble_eq_true rfl, Nat.le_of_ble_eq_true rfl⟩ ⟨Nat.zero_le _, Nat.zero_le _⟩ [0] rfl 4 2 rfl rfl rfl [4, 5] [0, 1, 2, 3, 6, 7, 8, 9, 10, 11, 12, 13] [0, 1, 2, 3, 12, 13, 4, 5, 6, 7, 8, 9, 10, 11] rfl (by decide) (wr := [(h0, .inr (0, [.ref hp, .ref pl, .ref en, .int rk])), (hp, .inr (1, [.ref ow, .ref wo, .int (nI md)])), (ow, .inl (cI, 48, .inl fo)), (wo, .inl (cI, 48, .inl fw)), (en, .inr (3, [.ref eo, .ref sb, .int (nI len)])), (eo, .inl (cI, 5, .inl fe)), (sb, .inl (cG, 5, .inr (.inr (.inr (.inr (fun uu => some (rr uu))))))), (rr 0, .inl (cI, 4, .inl (M 0))), (rr 1, .inl (cI, 4, .inl (M 1))), (rr 2, .inl (cI, 4, .inl (M 2))), (rr 3, .inl (cI, 4, .inl (M 3))), (rr 4, .inl (cI, 4, .inl (M 4)))]) rfl (by decide) (by decide) (ws' := [(h0, .inr (0, [.ref hp, .ref pl, .ref en, .int rk])), (hp, .inr (1, [.ref ow, .ref wo, .int (nI md)])), (ow, .inl (cI, 48, .inl fo)), (wo, .inl (cI, 48, .inl fw)), (pl, .inr (2, [.ref po, .int (nI ht)])), (po, .inl (cI, 8, .inl fp)), (en, .inr (3, [.ref eo, .ref sb, .int (nI len)])), (eo, .inl (cI, 5, .inl fe)), (sb, .inl (cG, 5, .inr (.inr (.inr (.inr (fun uu => some (rr uu))))))), (rr 0, .inl (cI, 4, .inl (M 0))), (rr 1, .inl (cI, 4, .inl (M 1))), (rr 2, .inl (cI, 4, .inl (M 2))), (rr 3, .inl (cI, 4, .inl (M 3))), (rr 4, .inl (cI, 4, .inl (M 4)))]) rfl (by decide) rfl hl.1 rfl (Nat.le_of_ble_eq_true rfl) d_X_copy_5 (fun H locs hP hD hS => ?_)
  refine zz_pl (x := x) (n := ht) (by omega) (fun h5 => ?_) (fun j5 hj5 ex5 h5 => ?_)
  · skip
    refine zz_if_ne (tgt := 13) hx hb (by omega) d_X_copy_8 (by decide) (fun c8 => ?_) (fun c8 => ?_)
    · skip
      exact absurd c8 (by omega)
    · skip
      refine lv_iconst (v := (-1)) hx hb d_X_copy_11 (by decide +kernel) ?_
      refine zz_top (z := (lx_copy fp ht x).1) (by first | (simp only [lx_copy, h5]; done) | (simp only [lx_copy, h5, if_pos e8]; done) | (simp only [lx_copy, h5, if_neg e8]; done)) ?_
      have eW : ([(h0, .inr (0, [.ref hp, .ref pl, .ref en, .int rk])), (hp, .inr (1, [.ref ow, .ref wo, .int (nI md)])), (ow, .inl (cI, 48, .inl fo)), (wo, .inl (cI, 48, .inl fw)), (pl, .inr (2, [.ref po, .int (nI ht)])), (po, .inl (cI, 8, .inl fp)), (en, .inr (3, [.ref eo, .ref sb, .int (nI len)])), (eo, .inl (cI, 5, .inl fe)), (sb, .inl (cG, 5, .inr (.inr (.inr (.inr (fun uu => some (rr uu))))))), (rr 0, .inl (cI, 4, .inl (M 0))), (rr 1, .inl (cI, 4, .inl (M 1))), (rr 2, .inl (cI, 4, .inl (M 2))), (rr 3, .inl (cI, 4, .inl (M 3))), (rr 4, .inl (cI, 4, .inl (M 4)))] : va_W) = [(h0, .inr (0, [.ref hp, .ref pl, .ref en, .int rk])), (hp, .inr (1, [.ref ow, .ref wo, .int (nI md)])), (ow, .inl (cI, 48, .inl fo)), (wo, .inl (cI, 48, .inl fw)), (pl, .inr (2, [.ref po, .int (nI ((lx_copy fp ht x).2.2))])), (po, .inl (cI, 8, .inl ((lx_copy fp ht x).2.1))), (en, .inr (3, [.ref eo, .ref sb, .int (nI len)])), (eo, .inl (cI, 5, .inl fe)), (sb, .inl (cG, 5, .inr (.inr (.inr (.inr (fun uu => some (rr uu))))))), (rr 0, .inl (cI, 4, .inl (M 0))), (rr 1, .inl (cI, 4, .inl (M 1))), (rr 2, .inl (cI, 4, .inl (M 2))), (rr 3, .inl (cI, 4, .inl (M 3))), (rr 4, .inl (cI, 4, .inl (M 4)))] := by first | (simp only [lx_copy, h5]; done) | (simp only [lx_copy, h5, if_pos e8]; done) | (simp only [lx_copy, h5, if_neg e8]; done)
      exact hret _ _ _ _ d_X_copy_12 (zz_toP eW hP) (zz_toD eW hD) hS
  · skip
    subst ex5
    refine zz_if_ne (tgt := 13) hx hb (by omega) d_X_copy_8 (by decide) (fun c8 => ?_) (fun c8 => ?_)
    · skip
      refine lv_aload_n hx hb d_X_copy_13 rfl (lv_at hl 0 rfl) ?_
      refine va_get (D := D) (ci := 0) (v := .ref pl) (C := R_X) (T := F_X) (N := 4) hx hb hts i_X hown hK hP 0 rfl rfl 1 (by decide) (hts _ kw_33) (fun _ h9 => h9) rfl d_X_copy_14 ?_
      refine zz_callI (np := 0) hx hb hml hown hts hK hP hD hS hA (c_Places_areFull l D cI pl po fp ht (by omega)) (zz_gv kw_114 kw_115 kw_116 kw_38 kc_113) (by decide +kernel) rfl rfl ⟨Nat.le_of_ble_eq_true rfl, Nat.le_of_ble_eq_true rfl⟩ ⟨Nat.zero_le _, Nat.zero_le _⟩ [0] rfl 4 2 rfl rfl rfl [4, 5] [0, 1, 2, 3, 6, 7, 8, 9, 10, 11, 12, 13] [0, 1, 2, 3, 12, 13, 4, 5, 6, 7, 8, 9, 10, 11] rfl (by decide) (wr := [(h0, .inr (0, [.ref hp, .ref pl, .ref en, .int rk])), (hp, .inr (1, [.ref ow, .ref wo, .int (nI md)])), (ow, .inl (cI, 48, .inl fo)), (wo, .inl (cI, 48, .inl fw)), (en, .inr (3, [.ref eo, .ref sb, .int (nI len)])), (eo, .inl (cI, 5, .inl fe)), (sb, .inl (cG, 5, .inr (.inr (.inr (.inr (fun uu => some (rr uu))))))), (rr 0, .inl (cI, 4, .inl (M 0))), (rr 1, .inl (cI, 4, .inl (M 1))), (rr 2, .inl (cI, 4, .inl (M 2))), (rr 3, .inl (cI, 4, .inl (M 3))), (rr 4, .inl (cI, 4, .inl (M 4)))]) rfl (by decide) (by decide) (ws' := [(h0, .inr (0, [.ref hp, .ref pl, .ref en, .int rk])), (hp, .inr (1, [.ref ow, .ref wo, .int (nI md)])), (ow, .inl (cI, 48, .inl fo)), (wo, .inl (cI, 48, .inl fw)), (pl, .inr (2, [.ref po, .int (nI ht)])), (po, .inl (cI, 8, .inl fp)), (en, .inr (3, [.ref eo, .ref sb, .int (nI len)])), (eo, .inl (cI, 5, .inl fe)), (sb, .inl (cG, 5, .inr (.inr (.inr (.inr (fun uu => some (rr uu))))))), (rr 0, .inl (cI, 4, .inl (M 0))), (rr 1, .inl (cI, 4, .inl (M 1))), (rr 2, .inl (cI, 4, .inl (M 2))), (rr 3, .inl (cI, 4, .inl (M 3))), (rr 4, .inl (cI, 4, .inl (M 4)))]) rfl (by decide) rfl hl.1 rfl (Nat.le_of_ble_eq_true rfl) d_X_copy_17 (fun H locs hP hD hS => ?_)
      refine zz_bI (fun h17 => ?_) (fun h17 => ?_)
      · skip
        have e8 : ht = 8 := by simpa using h17
        refine zz_if_eq (tgt := 26) hx hb (by omega) d_X_copy_20 (by decide) (fun c20 => ?_) (fun c20 => ?_)
        · skip
          exact absurd c20 (by omega)
        · skip
          refine lv_bipush (v := (-2)) hx hb d_X_copy_23 (by decide +kernel) ?_
          refine zz_top (z := (lx_copy fp ht (nI j5)).1) (by first | (simp only [lx_copy, h5]; done) | (simp only [lx_copy, h5, if_pos e8]; done) | (simp only [lx_copy, h5, if_neg e8]; done)) ?_
          have eW : ([(h0, .inr (0, [.ref hp, .ref pl, .ref en, .int rk])), (hp, .inr (1, [.ref ow, .ref wo, .int (nI md)])), (ow, .inl (cI, 48, .inl fo)), (wo, .inl (cI, 48, .inl fw)), (pl, .inr (2, [.ref po, .int (nI ht)])), (po, .inl (cI, 8, .inl fp)), (en, .inr (3, [.ref eo, .ref sb, .int (nI len)])), (eo, .inl (cI, 5, .inl fe)), (sb, .inl (cG, 5, .inr (.inr (.inr (.inr (fun uu => some (rr uu))))))), (rr 0, .inl (cI, 4, .inl (M 0))), (rr 1, .inl (cI, 4, .inl (M 1))), (rr 2, .inl (cI, 4, .inl (M 2))), (rr 3, .inl (cI, 4, .inl (M 3))), (rr 4, .inl (cI, 4, .inl (M 4)))] : va_W) = [(h0, .inr (0, [.ref hp, .ref pl, .ref en, .int rk])), (hp, .inr (1, [.ref ow, .ref wo, .int (nI md)])), (ow, .inl (cI, 48, .inl fo)), (wo, .inl (cI, 48, .inl fw)), (pl, .inr (2, [.ref po, .int (nI ((lx_copy fp ht (nI j5)).2.2))])), (po, .inl (cI, 8, .inl ((lx_copy fp ht (nI j5)).2.1))), (en, .inr (3, [.ref eo, .ref sb, .int (nI len)])), (eo, .inl (cI, 5, .inl fe)), (sb, .inl (cG, 5, .inr (.inr (.inr (.inr (fun uu => some (rr uu))))))), (rr 0, .inl (cI, 4, .inl (M 0))), (rr 1, .inl (cI, 4, .inl (M 1))), (rr 2, .inl (cI, 4, .inl (M 2))), (rr 3, .inl (cI, 4, .inl (M 3))), (rr 4, .inl (cI, 4, .inl (M 4)))] := by first | (simp only [lx_copy, h5]; done) | (simp only [lx_copy, h5, if_pos e8]; done) | (simp only [lx_copy, h5, if_neg e8]; done)
          exact hret _ _ _ _ d_X_copy_25 (zz_toP eW hP) (zz_toD eW hD) hS
      · skip
        have e8 : ¬ ht = 8 := by simpa using h17
        refine zz_if_eq (tgt := 26) hx hb (by omega) d_X_copy_20 (by decide) (fun c20 => ?_) (fun c20 => ?_)
        · skip
          refine lv_aload_n hx hb d_X_copy_26 rfl (lv_at hl 0 rfl) ?_
          refine va_get (D := D) (ci := 0) (v := .ref pl) (C := R_X) (T := F_X) (N := 4) hx hb hts i_X hown hK hP 0 rfl rfl 1 (by decide) (hts _ kw_33) (fun _ h9 => h9) rfl d_X_copy_27 ?_
          refine lv_aload_n hx hb d_X_copy_30 rfl (lv_at hl 0 rfl) ?_
          refine va_get (D := D) (ci := 0) (v := .ref pl) (C := R_X) (T := F_X) (N := 4) hx hb hts i_X hown hK hP 0 rfl rfl 1 (by decide) (hts _ kw_33) (fun _ h9 => h9) rfl d_X_copy_31 ?_
          refine lv_iload_n hx hb d_X_copy_34 rfl (lv_at hl 1 rfl) ?_
          refine zz_callI (np := 1) hx hb hml hown hts hK hP hD hS hA (c_Places_at l D cI pl po fp ht j5 (by omega)) (zz_gv kw_41 kw_42 kw_43 kw_38 kc_40) (by decide +kernel) rfl rfl ⟨Nat.le_of_ble_eq_true rfl, Nat.le_of_ble_eq_true rfl⟩ ⟨Nat.zero_le _, Nat.zero_le _⟩ [0] rfl 4 2 rfl rfl rfl [4, 5] [0, 1, 2, 3, 6, 7, 8, 9, 10, 11, 12, 13] [0, 1, 2, 3, 12, 13, 4, 5, 6, 7, 8, 9, 10, 11] rfl (by decide) (wr := [(h0, .inr (0, [.ref hp, .ref pl, .ref en, .int rk])), (hp, .inr (1, [.ref ow, .ref wo, .int (nI md)])), (ow, .inl (cI, 48, .inl fo)), (wo, .inl (cI, 48, .inl fw)), (en, .inr (3, [.ref eo, .ref sb, .int (nI len)])), (eo, .inl (cI, 5, .inl fe)), (sb, .inl (cG, 5, .inr (.inr (.inr (.inr (fun uu => some (rr uu))))))), (rr 0, .inl (cI, 4, .inl (M 0))), (rr 1, .inl (cI, 4, .inl (M 1))), (rr 2, .inl (cI, 4, .inl (M 2))), (rr 3, .inl (cI, 4, .inl (M 3))), (rr 4, .inl (cI, 4, .inl (M 4)))]) rfl (by decide) (by decide) (ws' := [(h0, .inr (0, [.ref hp, .ref pl, .ref en, .int rk])), (hp, .inr (1, [.ref ow, .ref wo, .int (nI md)])), (ow, .inl (cI, 48, .inl fo)), (wo, .inl (cI, 48, .inl fw)), (pl, .inr (2, [.ref po, .int (nI ht)])), (po, .inl (cI, 8, .inl fp)), (en, .inr (3, [.ref eo, .ref sb, .int (nI len)])), (eo, .inl (cI, 5, .inl fe)), (sb, .inl (cG, 5, .inr (.inr (.inr (.inr (fun uu => some (rr uu))))))), (rr 0, .inl (cI, 4, .inl (M 0))), (rr 1, .inl (cI, 4, .inl (M 1))), (rr 2, .inl (cI, 4, .inl (M 2))), (rr 3, .inl (cI, 4, .inl (M 3))), (rr 4, .inl (cI, 4, .inl (M 4)))]) rfl (by decide) rfl hl.1 rfl (Nat.le_of_ble_eq_true rfl) d_X_copy_35 (fun H locs hP hD hS => ?_)
          refine zz_callI (np := 1) hx hb hml hown hts hK hP hD hS hA (c_Places_push l D cI pl po fp ht (fp j5) (by omega)) (zz_gv kw_126 kw_127 kw_128 kw_38 kc_125) (by decide +kernel) rfl rfl ⟨Nat.le_of_ble_eq_true rfl, Nat.le_of_ble_eq_true rfl⟩ ⟨Nat.zero_le _, Nat.zero_le _⟩ [0] rfl 4 2 rfl rfl rfl [4, 5] [0, 1, 2, 3, 6, 7, 8, 9, 10, 11, 12, 13] [0, 1, 2, 3, 12, 13, 4, 5, 6, 7, 8, 9, 10, 11] rfl (by decide) (wr := [(h0, .inr (0, [.ref hp, .ref pl, .ref en, .int rk])), (hp, .inr (1, [.ref ow, .ref wo, .int (nI md)])), (ow, .inl (cI, 48, .inl fo)), (wo, .inl (cI, 48, .inl fw)), (en, .inr (3, [.ref eo, .ref sb, .int (nI len)])), (eo, .inl (cI, 5, .inl fe)), (sb, .inl (cG, 5, .inr (.inr (.inr (.inr (fun uu => some (rr uu))))))), (rr 0, .inl (cI, 4, .inl (M 0))), (rr 1, .inl (cI, 4, .inl (M 1))), (rr 2, .inl (cI, 4, .inl (M 2))), (rr 3, .inl (cI, 4, .inl (M 3))), (rr 4, .inl (cI, 4, .inl (M 4)))]) rfl (by decide) (by decide) (ws' := [(h0, .inr (0, [.ref hp, .ref pl, .ref en, .int rk])), (hp, .inr (1, [.ref ow, .ref wo, .int (nI md)])), (ow, .inl (cI, 48, .inl fo)), (wo, .inl (cI, 48, .inl fw)), (pl, .inr (2, [.ref po, .int (nI (ht + 1))])), (po, .inl (cI, 8, .inl (upd fp ht (fp j5)))), (en, .inr (3, [.ref eo, .ref sb, .int (nI len)])), (eo, .inl (cI, 5, .inl fe)), (sb, .inl (cG, 5, .inr (.inr (.inr (.inr (fun uu => some (rr uu))))))), (rr 0, .inl (cI, 4, .inl (M 0))), (rr 1, .inl (cI, 4, .inl (M 1))), (rr 2, .inl (cI, 4, .inl (M 2))), (rr 3, .inl (cI, 4, .inl (M 3))), (rr 4, .inl (cI, 4, .inl (M 4)))]) rfl (by decide) rfl hl.1 rfl (Nat.le_of_ble_eq_true rfl) d_X_copy_38 (fun H locs hP hD hS => ?_)
          refine zz_top (z := (lx_copy fp ht (nI j5)).1) (by first | (simp only [lx_copy, h5]; done) | (simp only [lx_copy, h5, if_pos e8]; done) | (simp only [lx_copy, h5, if_neg e8]; done)) ?_
          have eW : ([(h0, .inr (0, [.ref hp, .ref pl, .ref en, .int rk])), (hp, .inr (1, [.ref ow, .ref wo, .int (nI md)])), (ow, .inl (cI, 48, .inl fo)), (wo, .inl (cI, 48, .inl fw)), (pl, .inr (2, [.ref po, .int (nI (ht + 1))])), (po, .inl (cI, 8, .inl (upd fp ht (fp j5)))), (en, .inr (3, [.ref eo, .ref sb, .int (nI len)])), (eo, .inl (cI, 5, .inl fe)), (sb, .inl (cG, 5, .inr (.inr (.inr (.inr (fun uu => some (rr uu))))))), (rr 0, .inl (cI, 4, .inl (M 0))), (rr 1, .inl (cI, 4, .inl (M 1))), (rr 2, .inl (cI, 4, .inl (M 2))), (rr 3, .inl (cI, 4, .inl (M 3))), (rr 4, .inl (cI, 4, .inl (M 4)))] : va_W) = [(h0, .inr (0, [.ref hp, .ref pl, .ref en, .int rk])), (hp, .inr (1, [.ref ow, .ref wo, .int (nI md)])), (ow, .inl (cI, 48, .inl fo)), (wo, .inl (cI, 48, .inl fw)), (pl, .inr (2, [.ref po, .int (nI ((lx_copy fp ht (nI j5)).2.2))])), (po, .inl (cI, 8, .inl ((lx_copy fp ht (nI j5)).2.1))), (en, .inr (3, [.ref eo, .ref sb, .int (nI len)])), (eo, .inl (cI, 5, .inl fe)), (sb, .inl (cG, 5, .inr (.inr (.inr (.inr (fun uu => some (rr uu))))))), (rr 0, .inl (cI, 4, .inl (M 0))), (rr 1, .inl (cI, 4, .inl (M 1))), (rr 2, .inl (cI, 4, .inl (M 2))), (rr 3, .inl (cI, 4, .inl (M 3))), (rr 4, .inl (cI, 4, .inl (M 4)))] := by first | (simp only [lx_copy, h5]; done) | (simp only [lx_copy, h5, if_pos e8]; done) | (simp only [lx_copy, h5, if_neg e8]; done)
          exact hret _ _ _ _ d_X_copy_41 (zz_toP eW hP) (zz_toD eW hD) hS
        · skip
          exact absurd c20 (by omega)
    · skip
      exact absurd c8 (by omega)
set_option maxHeartbeats 4000000 in
set_option maxRecDepth 100000 in
theorem c_X_load (l : Launch) (D : va_G) (cI : ClassId) (cG : ClassId) (h0 : Nat) (hp : Nat) (ow : Nat) (wo : Nat) (pl : Nat) (po : Nat) (en : Nat) (eo : Nat) (sb : Nat) (rr : Nat → Nat) (fo : lc_A) (fw : lc_A) (md : Nat) (fp : lc_A) (ht : Nat) (fe : lc_A) (M : Nat → lc_A) (len : Nat) (rk : Int32) (x : Int32) (z : Int32) (hht : ht ≤ 8) : zz_MI l y_X_load b_X_load 4 .int ({ frames := 2, cells := 0, slots := 0, locals := 45 } : Room) D [(cI, .int), (cG, .array .int)] [.ref h0, .int x, .int z] [(h0, .inr (0, [.ref hp, .ref pl, .ref en, .int rk])), (hp, .inr (1, [.ref ow, .ref wo, .int (nI md)])), (ow, .inl (cI, 48, .inl fo)), (wo, .inl (cI, 48, .inl fw)), (pl, .inr (2, [.ref po, .int (nI ht)])), (po, .inl (cI, 8, .inl fp)), (en, .inr (3, [.ref eo, .ref sb, .int (nI len)])), (eo, .inl (cI, 5, .inl fe)), (sb, .inl (cG, 5, .inr (.inr (.inr (.inr (fun uu => some (rr uu))))))), (rr 0, .inl (cI, 4, .inl (M 0))), (rr 1, .inl (cI, 4, .inl (M 1))), (rr 2, .inl (cI, 4, .inl (M 2))), (rr 3, .inl (cI, 4, .inl (M 3))), (rr 4, .inl (cI, 4, .inl (M 4)))] ((lx_load fo fw fp ht x z).1) [(h0, .inr (0, [.ref hp, .ref pl, .ref en, .int rk])), (hp, .inr (1, [.ref ow, .ref wo, .int (nI md)])), (ow, .inl (cI, 48, .inl fo)), (wo, .inl (cI, 48, .inl fw)), (pl, .inr (2, [.ref po, .int (nI ((lx_load fo fw fp ht x z).2.2))])), (po, .inl (cI, 8, .inl ((lx_load fo fw fp ht x z).2.1))), (en, .inr (3, [.ref eo, .ref sb, .int (nI len)])), (eo, .inl (cI, 5, .inl fe)), (sb, .inl (cG, 5, .inr (.inr (.inr (.inr (fun uu => some (rr uu))))))), (rr 0, .inl (cI, 4, .inl (M 0))), (rr 1, .inl (cI, 4, .inl (M 1))), (rr 2, .inl (cI, 4, .inl (M 2))), (rr 3, .inl (cI, 4, .inl (M 3))), (rr 4, .inl (cI, 4, .inl (M 4)))] := by
  refine zz_MI_of (by decide) (Nat.le_of_ble_eq_true rfl) (vp_nar_int _) ?_
  intro p e s m args below meth c A ls Q hx hb hml hown hts hK hP hD hS hA hl hret
  have hown : s.vm.findClass R_X = some m.cls := hown
  have hl : lv_has ls 4 [(0, .ref h0), (1, .int x), (2, .int z)] := hl
  refine lv_aload_n hx hb d_X_load_0 rfl (lv_at hl 0 rfl) ?_
  refine lv_iload_n hx hb d_X_load_1 rfl (lv_at hl 1 rfl) ?_
  refine zz_callI (np := 1) hx hb hml hown hts hK hP hD hS hA (c_X_firstCellAt l D cI cG h0 hp ow wo pl po en eo sb rr fo fw md fp ht fe M len rk x (by omega)) (zz_gv kw_130 kw_131 kw_132 kw_58 kc_129) (by decide +kernel) rfl rfl ⟨Nat.le_of_ble_eq_true rfl, Nat.le_of_ble_eq_true rfl⟩ ⟨Nat.zero_le _, Nat.zero_le _⟩ [0, 1] rfl 0 0 rfl rfl rfl [0, 1, 2, 3, 4, 5, 6, 7, 8, 9, 10, 11, 12, 13] [] [0, 1, 2, 3, 4, 5, 6, 7, 8, 9, 10, 11, 12, 13] rfl (by decide) (wr := []) rfl (by decide) (by decide) (ws' := [(h0, .inr (0, [.ref hp, .ref pl, .ref en, .int rk])), (hp, .inr (1, [.ref ow, .ref wo, .int (nI md)])), (ow, .inl (cI, 48, .inl fo)), (wo, .inl (cI, 48, .inl fw)), (pl, .inr (2, [.ref po, .int (nI ht)])), (po, .inl (cI, 8, .inl fp)), (en, .inr (3, [.ref eo, .ref sb, .int (nI len)])), (eo, .inl (cI, 5, .inl fe)), (sb, .inl (cG, 5, .inr (.inr (.inr (.inr (fun uu => some (rr uu))))))), (rr 0, .inl (cI, 4, .inl (M 0))), (rr 1, .inl (cI, 4, .inl (M 1))), (rr 2, .inl (cI, 4, .inl (M 2))), (rr 3, .inl (cI, 4, .inl (M 3))), (rr 4, .inl (cI, 4, .inl (M 4)))]) rfl (by decide) rfl hl.1 rfl (Nat.le_of_ble_eq_true rfl) d_X_load_2 (fun H locs hP hD hS => ?_)
  refine zz_oI (fun h2 => ?_) (fun a h2 => ?_)
  · skip
    refine lv_istore_n (lv' := [(3, .int (-1)), (0, .ref h0), (1, .int x), (2, .int z)]) hx hb d_X_load_5 rfl hl (by decide) rfl (fun ls hl => ?_)
    refine lv_aload_n hx hb d_X_load_6 rfl (lv_at hl 1 rfl) ?_
    refine va_get (D := D) (ci := 0) (v := .ref hp) (C := R_X) (T := F_X) (N := 4) hx hb hts i_X hown hK hP 0 rfl rfl 0 (by decide) (hts _ kw_39) (fun _ h9 => h9) rfl d_X_load_7 ?_
    refine lv_iload_n hx hb d_X_load_10 rfl (lv_at hl 0 rfl) ?_
    refine lv_iload_n hx hb d_X_load_11 rfl (lv_at hl 3 rfl) ?_
    refine zz_callI (np := 2) hx hb hml hown hts hK hP hD hS hA (c_Heap_hasSlot_n l D cI hp ow wo fo fw md z ) (zz_gv kw_134 kw_135 kw_136 kw_6 kc_133) (by decide +kernel) rfl rfl ⟨Nat.le_of_ble_eq_true rfl, Nat.le_of_ble_eq_true rfl⟩ ⟨Nat.zero_le _, Nat.zero_le _⟩ [0] rfl 1 1 rfl rfl rfl [1, 2, 3] [0, 4, 5, 6, 7, 8, 9, 10, 11, 12, 13] [0, 11, 12, 13, 1, 2, 3, 4, 5, 6, 7, 8, 9, 10] rfl (by decide) (wr := [(h0, .inr (0, [.ref hp, .ref pl, .ref en, .int rk])), (pl, .inr (2, [.ref po, .int (nI ht)])), (po, .inl (cI, 8, .inl fp)), (en, .inr (3, [.ref eo, .ref sb, .int (nI len)])), (eo, .inl (cI, 5, .inl fe)), (sb, .inl (cG, 5, .inr (.inr (.inr (.inr (fun uu => some (rr uu))))))), (rr 0, .inl (cI, 4, .inl (M 0))), (rr 1, .inl (cI, 4, .inl (M 1))), (rr 2, .inl (cI, 4, .inl (M 2))), (rr 3, .inl (cI, 4, .inl (M 3))), (rr 4, .inl (cI, 4, .inl (M 4)))]) rfl (by decide) (by decide) (ws' := [(h0, .inr (0, [.ref hp, .ref pl, .ref en, .int rk])), (hp, .inr (1, [.ref ow, .ref wo, .int (nI md)])), (ow, .inl (cI, 48, .inl fo)), (wo, .inl (cI, 48, .inl fw)), (pl, .inr (2, [.ref po, .int (nI ht)])), (po, .inl (cI, 8, .inl fp)), (en, .inr (3, [.ref eo, .ref sb, .int (nI len)])), (eo, .inl (cI, 5, .inl fe)), (sb, .inl (cG, 5, .inr (.inr (.inr (.inr (fun uu => some (rr uu))))))), (rr 0, .inl (cI, 4, .inl (M 0))), (rr 1, .inl (cI, 4, .inl (M 1))), (rr 2, .inl (cI, 4, .inl (M 2))), (rr 3, .inl (cI, 4, .inl (M 3))), (rr 4, .inl (cI, 4, .inl (M 4)))]) rfl (by decide) rfl hl.1 rfl (Nat.le_of_ble_eq_true rfl) d_X_load_12 (fun H locs hP hD hS => ?_)
    refine zz_if_ne (tgt := 20) hx hb (by omega) d_X_load_15 (by decide) (fun c15 => ?_) (fun c15 => ?_)
    · skip
      exact absurd c15 (by omega)
    · skip
      refine lv_iconst (v := (-1)) hx hb d_X_load_18 (by decide +kernel) ?_
      refine zz_top (z := (lx_load fo fw fp ht x z).1) (by first | (simp only [lx_load, h2]; done) | (simp only [lx_load, h2, h12]; done) | (simp only [lx_load, h2, h12, if_pos e8]; done) | (simp only [lx_load, h2, h12, if_neg e8]; done)) ?_
      have eW : ([(h0, .inr (0, [.ref hp, .ref pl, .ref en, .int rk])), (hp, .inr (1, [.ref ow, .ref wo, .int (nI md)])), (ow, .inl (cI, 48, .inl fo)), (wo, .inl (cI, 48, .inl fw)), (pl, .inr (2, [.ref po, .int (nI ht)])), (po, .inl (cI, 8, .inl fp)), (en, .inr (3, [.ref eo, .ref sb, .int (nI len)])), (eo, .inl (cI, 5, .inl fe)), (sb, .inl (cG, 5, .inr (.inr (.inr (.inr (fun uu => some (rr uu))))))), (rr 0, .inl (cI, 4, .inl (M 0))), (rr 1, .inl (cI, 4, .inl (M 1))), (rr 2, .inl (cI, 4, .inl (M 2))), (rr 3, .inl (cI, 4, .inl (M 3))), (rr 4, .inl (cI, 4, .inl (M 4)))] : va_W) = [(h0, .inr (0, [.ref hp, .ref pl, .ref en, .int rk])), (hp, .inr (1, [.ref ow, .ref wo, .int (nI md)])), (ow, .inl (cI, 48, .inl fo)), (wo, .inl (cI, 48, .inl fw)), (pl, .inr (2, [.ref po, .int (nI ((lx_load fo fw fp ht x z).2.2))])), (po, .inl (cI, 8, .inl ((lx_load fo fw fp ht x z).2.1))), (en, .inr (3, [.ref eo, .ref sb, .int (nI len)])), (eo, .inl (cI, 5, .inl fe)), (sb, .inl (cG, 5, .inr (.inr (.inr (.inr (fun uu => some (rr uu))))))), (rr 0, .inl (cI, 4, .inl (M 0))), (rr 1, .inl (cI, 4, .inl (M 1))), (rr 2, .inl (cI, 4, .inl (M 2))), (rr 3, .inl (cI, 4, .inl (M 3))), (rr 4, .inl (cI, 4, .inl (M 4)))] := by first | (simp only [lx_load, h2]; done) | (simp only [lx_load, h2, h12]; done) | (simp only [lx_load, h2, h12, if_pos e8]; done) | (simp only [lx_load, h2, h12, if_neg e8]; done)
      exact hret _ _ _ _ d_X_load_19 (zz_toP eW hP) (zz_toD eW hD) hS
  · skip
    have ha := lc_fca_lt h2
    have hsa := lc_sa_le fo a
    refine lv_istore_n (lv' := [(3, .int (nI a)), (0, .ref h0), (1, .int x), (2, .int z)]) hx hb d_X_load_5 rfl hl (by decide) rfl (fun ls hl => ?_)
    refine lv_aload_n hx hb d_X_load_6 rfl (lv_at hl 1 rfl) ?_
    refine va_get (D := D) (ci := 0) (v := .ref hp) (C := R_X) (T := F_X) (N := 4) hx hb hts i_X hown hK hP 0 rfl rfl 0 (by decide) (hts _ kw_39) (fun _ h9 => h9) rfl d_X_load_7 ?_
    refine lv_iload_n hx hb d_X_load_10 rfl (lv_at hl 0 rfl) ?_
    refine lv_iload_n hx hb d_X_load_11 rfl (lv_at hl 3 rfl) ?_
    refine zz_callI (np := 2) hx hb hml hown hts hK hP hD hS hA (c_Heap_hasSlot_s l D cI hp ow wo fo fw md a z (by omega)) (zz_gv kw_134 kw_135 kw_136 kw_6 kc_133) (by decide +kernel) rfl rfl ⟨Nat.le_of_ble_eq_true rfl, Nat.le_of_ble_eq_true rfl⟩ ⟨Nat.zero_le _, Nat.zero_le _⟩ [0] rfl 1 1 rfl rfl rfl [1, 2, 3] [0, 4, 5, 6, 7, 8, 9, 10, 11, 12, 13] [0, 11, 12, 13, 1, 2, 3, 4, 5, 6, 7, 8, 9, 10] rfl (by decide) (wr := [(h0, .inr (0, [.ref hp, .ref pl, .ref en, .int rk])), (pl, .inr (2, [.ref po, .int (nI ht)])), (po, .inl (cI, 8, .inl fp)), (en, .inr (3, [.ref eo, .ref sb, .int (nI len)])), (eo, .inl (cI, 5, .inl fe)), (sb, .inl (cG, 5, .inr (.inr (.inr (.inr (fun uu => some (rr uu))))))), (rr 0, .inl (cI, 4, .inl (M 0))), (rr 1, .inl (cI, 4, .inl (M 1))), (rr 2, .inl (cI, 4, .inl (M 2))), (rr 3, .inl (cI, 4, .inl (M 3))), (rr 4, .inl (cI, 4, .inl (M 4)))]) rfl (by decide) (by decide) (ws' := [(h0, .inr (0, [.ref hp, .ref pl, .ref en, .int rk])), (hp, .inr (1, [.ref ow, .ref wo, .int (nI md)])), (ow, .inl (cI, 48, .inl fo)), (wo, .inl (cI, 48, .inl fw)), (pl, .inr (2, [.ref po, .int (nI ht)])), (po, .inl (cI, 8, .inl fp)), (en, .inr (3, [.ref eo, .ref sb, .int (nI len)])), (eo, .inl (cI, 5, .inl fe)), (sb, .inl (cG, 5, .inr (.inr (.inr (.inr (fun uu => some (rr uu))))))), (rr 0, .inl (cI, 4, .inl (M 0))), (rr 1, .inl (cI, 4, .inl (M 1))), (rr 2, .inl (cI, 4, .inl (M 2))), (rr 3, .inl (cI, 4, .inl (M 3))), (rr 4, .inl (cI, 4, .inl (M 4)))]) rfl (by decide) rfl hl.1 rfl (Nat.le_of_ble_eq_true rfl) d_X_load_12 (fun H locs hP hD hS => ?_)
    refine zz_pl (x := z) (n := lc_sa fo a) (by omega) (fun h12 => ?_) (fun j hj12 ex12 h12 => ?_)
    · skip
      refine zz_if_ne (tgt := 20) hx hb (by omega) d_X_load_15 (by decide) (fun c15 => ?_) (fun c15 => ?_)
      · skip
        exact absurd c15 (by omega)
      · skip
        refine lv_iconst (v := (-1)) hx hb d_X_load_18 (by decide +kernel) ?_
        refine zz_top (z := (lx_load fo fw fp ht x z).1) (by first | (simp only [lx_load, h2]; done) | (simp only [lx_load, h2, h12]; done) | (simp only [lx_load, h2, h12, if_pos e8]; done) | (simp only [lx_load, h2, h12, if_neg e8]; done)) ?_
        have eW : ([(h0, .inr (0, [.ref hp, .ref pl, .ref en, .int rk])), (hp, .inr (1, [.ref ow, .ref wo, .int (nI md)])), (ow, .inl (cI, 48, .inl fo)), (wo, .inl (cI, 48, .inl fw)), (pl, .inr (2, [.ref po, .int (nI ht)])), (po, .inl (cI, 8, .inl fp)), (en, .inr (3, [.ref eo, .ref sb, .int (nI len)])), (eo, .inl (cI, 5, .inl fe)), (sb, .inl (cG, 5, .inr (.inr (.inr (.inr (fun uu => some (rr uu))))))), (rr 0, .inl (cI, 4, .inl (M 0))), (rr 1, .inl (cI, 4, .inl (M 1))), (rr 2, .inl (cI, 4, .inl (M 2))), (rr 3, .inl (cI, 4, .inl (M 3))), (rr 4, .inl (cI, 4, .inl (M 4)))] : va_W) = [(h0, .inr (0, [.ref hp, .ref pl, .ref en, .int rk])), (hp, .inr (1, [.ref ow, .ref wo, .int (nI md)])), (ow, .inl (cI, 48, .inl fo)), (wo, .inl (cI, 48, .inl fw)), (pl, .inr (2, [.ref po, .int (nI ((lx_load fo fw fp ht x z).2.2))])), (po, .inl (cI, 8, .inl ((lx_load fo fw fp ht x z).2.1))), (en, .inr (3, [.ref eo, .ref sb, .int (nI len)])), (eo, .inl (cI, 5, .inl fe)), (sb, .inl (cG, 5, .inr (.inr (.inr (.inr (fun uu => some (rr uu))))))), (rr 0, .inl (cI, 4, .inl (M 0))), (rr 1, .inl (cI, 4, .inl (M 1))), (rr 2, .inl (cI, 4, .inl (M 2))), (rr 3, .inl (cI, 4, .inl (M 3))), (rr 4, .inl (cI, 4, .inl (M 4)))] := by first | (simp only [lx_load, h2]; done) | (simp only [lx_load, h2, h12]; done) | (simp only [lx_load, h2, h12, if_pos e8]; done) | (simp only [lx_load, h2, h12, if_neg e8]; done)
        exact hret _ _ _ _ d_X_load_19 (zz_toP eW hP) (zz_toD eW hD) hS
    · skip
      subst ex12
      refine zz_if_ne (tgt := 20) hx hb (by omega) d_X_load_15 (by decide) (fun c15 => ?_) (fun c15 => ?_)
      · skip
        refine lv_aload_n hx hb d_X_load_20 rfl (lv_at hl 1 rfl) ?_
        refine va_get (D := D) (ci := 0) (v := .ref pl) (C := R_X) (T := F_X) (N := 4) hx hb hts i_X hown hK hP 0 rfl rfl 1 (by decide) (hts _ kw_33) (fun _ h9 => h9) rfl d_X_load_21 ?_
        refine zz_callI (np := 0) hx hb hml hown hts hK hP hD hS hA (c_Places_areFull l D cI pl po fp ht (by omega)) (zz_gv kw_114 kw_115 kw_116 kw_38 kc_113) (by decide +kernel) rfl rfl ⟨Nat.le_of_ble_eq_true rfl, Nat.le_of_ble_eq_true rfl⟩ ⟨Nat.zero_le _, Nat.zero_le _⟩ [0] rfl 4 2 rfl rfl rfl [4, 5] [0, 1, 2, 3, 6, 7, 8, 9, 10, 11, 12, 13] [0, 1, 2, 3, 12, 13, 4, 5, 6, 7, 8, 9, 10, 11] rfl (by decide) (wr := [(h0, .inr (0, [.ref hp, .ref pl, .ref en, .int rk])), (hp, .inr (1, [.ref ow, .ref wo, .int (nI md)])), (ow, .inl (cI, 48, .inl fo)), (wo, .inl (cI, 48, .inl fw)), (en, .inr (3, [.ref eo, .ref sb, .int (nI len)])), (eo, .inl (cI, 5, .inl fe)), (sb, .inl (cG, 5, .inr (.inr (.inr (.inr (fun uu => some (rr uu))))))), (rr 0, .inl (cI, 4, .inl (M 0))), (rr 1, .inl (cI, 4, .inl (M 1))), (rr 2, .inl (cI, 4, .inl (M 2))), (rr 3, .inl (cI, 4, .inl (M 3))), (rr 4, .inl (cI, 4, .inl (M 4)))]) rfl (by decide) (by decide) (ws' := [(h0, .inr (0, [.ref hp, .ref pl, .ref en, .int rk])), (hp, .inr (1, [.ref ow, .ref wo, .int (nI md)])), (ow, .inl (cI, 48, .inl fo)), (wo, .inl (cI, 48, .inl fw)), (pl, .inr (2, [.ref po, .int (nI ht)])), (po, .inl (cI, 8, .inl fp)), (en, .inr (3, [.ref eo, .ref sb, .int (nI len)])), (eo, .inl (cI, 5, .inl fe)), (sb, .inl (cG, 5, .inr (.inr (.inr (.inr (fun uu => some (rr uu))))))), (rr 0, .inl (cI, 4, .inl (M 0))), (rr 1, .inl (cI, 4, .inl (M 1))), (rr 2, .inl (cI, 4, .inl (M 2))), (rr 3, .inl (cI, 4, .inl (M 3))), (rr 4, .inl (cI, 4, .inl (M 4)))]) rfl (by decide) rfl hl.1 rfl (Nat.le_of_ble_eq_true rfl) d_X_load_24 (fun H locs hP hD hS => ?_)
        refine zz_bI (fun h24 => ?_) (fun h24 => ?_)
        · skip
          have e8 : ht = 8 := by simpa using h24
          refine zz_if_eq (tgt := 33) hx hb (by omega) d_X_load_27 (by decide) (fun c27 => ?_) (fun c27 => ?_)
          · skip
            exact absurd c27 (by omega)
          · skip
            refine lv_bipush (v := (-2)) hx hb d_X_load_30 (by decide +kernel) ?_
            refine zz_top (z := (lx_load fo fw fp ht x (nI j)).1) (by first | (simp only [lx_load, h2]; done) | (simp only [lx_load, h2, h12]; done) | (simp only [lx_load, h2, h12, if_pos e8]; done) | (simp only [lx_load, h2, h12, if_neg e8]; done)) ?_
            have eW : ([(h0, .inr (0, [.ref hp, .ref pl, .ref en, .int rk])), (hp, .inr (1, [.ref ow, .ref wo, .int (nI md)])), (ow, .inl (cI, 48, .inl fo)), (wo, .inl (cI, 48, .inl fw)), (pl, .inr (2, [.ref po, .int (nI ht)])), (po, .inl (cI, 8, .inl fp)), (en, .inr (3, [.ref eo, .ref sb, .int (nI len)])), (eo, .inl (cI, 5, .inl fe)), (sb, .inl (cG, 5, .inr (.inr (.inr (.inr (fun uu => some (rr uu))))))), (rr 0, .inl (cI, 4, .inl (M 0))), (rr 1, .inl (cI, 4, .inl (M 1))), (rr 2, .inl (cI, 4, .inl (M 2))), (rr 3, .inl (cI, 4, .inl (M 3))), (rr 4, .inl (cI, 4, .inl (M 4)))] : va_W) = [(h0, .inr (0, [.ref hp, .ref pl, .ref en, .int rk])), (hp, .inr (1, [.ref ow, .ref wo, .int (nI md)])), (ow, .inl (cI, 48, .inl fo)), (wo, .inl (cI, 48, .inl fw)), (pl, .inr (2, [.ref po, .int (nI ((lx_load fo fw fp ht x (nI j)).2.2))])), (po, .inl (cI, 8, .inl ((lx_load fo fw fp ht x (nI j)).2.1))), (en, .inr (3, [.ref eo, .ref sb, .int (nI len)])), (eo, .inl (cI, 5, .inl fe)), (sb, .inl (cG, 5, .inr (.inr (.inr (.inr (fun uu => some (rr uu))))))), (rr 0, .inl (cI, 4, .inl (M 0))), (rr 1, .inl (cI, 4, .inl (M 1))), (rr 2, .inl (cI, 4, .inl (M 2))), (rr 3, .inl (cI, 4, .inl (M 3))), (rr 4, .inl (cI, 4, .inl (M 4)))] := by first | (simp only [lx_load, h2]; done) | (simp only [lx_load, h2, h12]; done) | (simp only [lx_load, h2, h12, if_pos e8]; done) | (simp only [lx_load, h2, h12, if_neg e8]; done)
            exact hret _ _ _ _ d_X_load_32 (zz_toP eW hP) (zz_toD eW hD) hS
        · skip
          have e8 : ¬ ht = 8 := by simpa using h24
          refine zz_if_eq (tgt := 33) hx hb (by omega) d_X_load_27 (by decide) (fun c27 => ?_) (fun c27 => ?_)
          · skip
            refine lv_aload_n hx hb d_X_load_33 rfl (lv_at hl 1 rfl) ?_
            refine va_get (D := D) (ci := 0) (v := .ref pl) (C := R_X) (T := F_X) (N := 4) hx hb hts i_X hown hK hP 0 rfl rfl 1 (by decide) (hts _ kw_33) (fun _ h9 => h9) rfl d_X_load_34 ?_
            refine lv_aload_n hx hb d_X_load_37 rfl (lv_at hl 1 rfl) ?_
            refine va_get (D := D) (ci := 0) (v := .ref hp) (C := R_X) (T := F_X) (N := 4) hx hb hts i_X hown hK hP 0 rfl rfl 0 (by decide) (hts _ kw_39) (fun _ h9 => h9) rfl d_X_load_38 ?_
            refine lv_iload_n hx hb d_X_load_41 rfl (lv_at hl 0 rfl) ?_
            refine lv_iload_n hx hb d_X_load_42 rfl (lv_at hl 3 rfl) ?_
            refine zz_callI (np := 2) hx hb hml hown hts hK hP hD hS hA (c_Heap_inSlot l D cI hp ow wo fo fw md a j (by omega)) (zz_gv kw_75 kw_22 kw_23 kw_6 kc_20) (by decide +kernel) rfl rfl ⟨Nat.le_of_ble_eq_true rfl, Nat.le_of_ble_eq_true rfl⟩ ⟨Nat.zero_le _, Nat.zero_le _⟩ [0] rfl 1 1 rfl rfl rfl [1, 2, 3] [0, 4, 5, 6, 7, 8, 9, 10, 11, 12, 13] [0, 11, 12, 13, 1, 2, 3, 4, 5, 6, 7, 8, 9, 10] rfl (by decide) (wr := [(h0, .inr (0, [.ref hp, .ref pl, .ref en, .int rk])), (pl, .inr (2, [.ref po, .int (nI ht)])), (po, .inl (cI, 8, .inl fp)), (en, .inr (3, [.ref eo, .ref sb, .int (nI len)])), (eo, .inl (cI, 5, .inl fe)), (sb, .inl (cG, 5, .inr (.inr (.inr (.inr (fun uu => some (rr uu))))))), (rr 0, .inl (cI, 4, .inl (M 0))), (rr 1, .inl (cI, 4, .inl (M 1))), (rr 2, .inl (cI, 4, .inl (M 2))), (rr 3, .inl (cI, 4, .inl (M 3))), (rr 4, .inl (cI, 4, .inl (M 4)))]) rfl (by decide) (by decide) (ws' := [(h0, .inr (0, [.ref hp, .ref pl, .ref en, .int rk])), (hp, .inr (1, [.ref ow, .ref wo, .int (nI md)])), (ow, .inl (cI, 48, .inl fo)), (wo, .inl (cI, 48, .inl fw)), (pl, .inr (2, [.ref po, .int (nI ht)])), (po, .inl (cI, 8, .inl fp)), (en, .inr (3, [.ref eo, .ref sb, .int (nI len)])), (eo, .inl (cI, 5, .inl fe)), (sb, .inl (cG, 5, .inr (.inr (.inr (.inr (fun uu => some (rr uu))))))), (rr 0, .inl (cI, 4, .inl (M 0))), (rr 1, .inl (cI, 4, .inl (M 1))), (rr 2, .inl (cI, 4, .inl (M 2))), (rr 3, .inl (cI, 4, .inl (M 3))), (rr 4, .inl (cI, 4, .inl (M 4)))]) rfl (by decide) rfl hl.1 rfl (Nat.le_of_ble_eq_true rfl) d_X_load_43 (fun H locs hP hD hS => ?_)
            refine zz_callI (np := 1) hx hb hml hown hts hK hP hD hS hA (c_Places_push l D cI pl po fp ht (fw (a + 1 + j)) (by omega)) (zz_gv kw_126 kw_127 kw_128 kw_38 kc_125) (by decide +kernel) rfl rfl ⟨Nat.le_of_ble_eq_true rfl, Nat.le_of_ble_eq_true rfl⟩ ⟨Nat.zero_le _, Nat.zero_le _⟩ [0] rfl 4 2 rfl rfl rfl [4, 5] [0, 1, 2, 3, 6, 7, 8, 9, 10, 11, 12, 13] [0, 1, 2, 3, 12, 13, 4, 5, 6, 7, 8, 9, 10, 11] rfl (by decide) (wr := [(h0, .inr (0, [.ref hp, .ref pl, .ref en, .int rk])), (hp, .inr (1, [.ref ow, .ref wo, .int (nI md)])), (ow, .inl (cI, 48, .inl fo)), (wo, .inl (cI, 48, .inl fw)), (en, .inr (3, [.ref eo, .ref sb, .int (nI len)])), (eo, .inl (cI, 5, .inl fe)), (sb, .inl (cG, 5, .inr (.inr (.inr (.inr (fun uu => some (rr uu))))))), (rr 0, .inl (cI, 4, .inl (M 0))), (rr 1, .inl (cI, 4, .inl (M 1))), (rr 2, .inl (cI, 4, .inl (M 2))), (rr 3, .inl (cI, 4, .inl (M 3))), (rr 4, .inl (cI, 4, .inl (M 4)))]) rfl (by decide) (by decide) (ws' := [(h0, .inr (0, [.ref hp, .ref pl, .ref en, .int rk])), (hp, .inr (1, [.ref ow, .ref wo, .int (nI md)])), (ow, .inl (cI, 48, .inl fo)), (wo, .inl (cI, 48, .inl fw)), (pl, .inr (2, [.ref po, .int (nI (ht + 1))])), (po, .inl (cI, 8, .inl (upd fp ht (fw (a + 1 + j))))), (en, .inr (3, [.ref eo, .ref sb, .int (nI len)])), (eo, .inl (cI, 5, .inl fe)), (sb, .inl (cG, 5, .inr (.inr (.inr (.inr (fun uu => some (rr uu))))))), (rr 0, .inl (cI, 4, .inl (M 0))), (rr 1, .inl (cI, 4, .inl (M 1))), (rr 2, .inl (cI, 4, .inl (M 2))), (rr 3, .inl (cI, 4, .inl (M 3))), (rr 4, .inl (cI, 4, .inl (M 4)))]) rfl (by decide) rfl hl.1 rfl (Nat.le_of_ble_eq_true rfl) d_X_load_46 (fun H locs hP hD hS => ?_)
            refine zz_top (z := (lx_load fo fw fp ht x (nI j)).1) (by first | (simp only [lx_load, h2]; done) | (simp only [lx_load, h2, h12]; done) | (simp only [lx_load, h2, h12, if_pos e8]; done) | (simp only [lx_load, h2, h12, if_neg e8]; done)) ?_
            have eW : ([(h0, .inr (0, [.ref hp, .ref pl, .ref en, .int rk])), (hp, .inr (1, [.ref ow, .ref wo, .int (nI md)])), (ow, .inl (cI, 48, .inl fo)), (wo, .inl (cI, 48, .inl fw)), (pl, .inr (2, [.ref po, .int (nI (ht + 1))])), (po, .inl (cI, 8, .inl (upd fp ht (fw (a + 1 + j))))), (en, .inr (3, [.ref eo, .ref sb, .int (nI len)])), (eo, .inl (cI, 5, .inl fe)), (sb, .inl (cG, 5, .inr (.inr (.inr (.inr (fun uu => some (rr uu))))))), (rr 0, .inl (cI, 4, .inl (M 0))), (rr 1, .inl (cI, 4, .inl (M 1))), (rr 2, .inl (cI, 4, .inl (M 2))), (rr 3, .inl (cI, 4, .inl (M 3))), (rr 4, .inl (cI, 4, .inl (M 4)))] : va_W) = [(h0, .inr (0, [.ref hp, .ref pl, .ref en, .int rk])), (hp, .inr (1, [.ref ow, .ref wo, .int (nI md)])), (ow, .inl (cI, 48, .inl fo)), (wo, .inl (cI, 48, .inl fw)), (pl, .inr (2, [.ref po, .int (nI ((lx_load fo fw fp ht x (nI j)).2.2))])), (po, .inl (cI, 8, .inl ((lx_load fo fw fp ht x (nI j)).2.1))), (en, .inr (3, [.ref eo, .ref sb, .int (nI len)])), (eo, .inl (cI, 5, .inl fe)), (sb, .inl (cG, 5, .inr (.inr (.inr (.inr (fun uu => some (rr uu))))))), (rr 0, .inl (cI, 4, .inl (M 0))), (rr 1, .inl (cI, 4, .inl (M 1))), (rr 2, .inl (cI, 4, .inl (M 2))), (rr 3, .inl (cI, 4, .inl (M 3))), (rr 4, .inl (cI, 4, .inl (M 4)))] := by first | (simp only [lx_load, h2]; done) | (simp only [lx_load, h2, h12]; done) | (simp only [lx_load, h2, h12, if_pos e8]; done) | (simp only [lx_load, h2, h12, if_neg e8]; done)
            exact hret _ _ _ _ d_X_load_49 (zz_toP eW hP) (zz_toD eW hD) hS
          · skip
            exact absurd c27 (by omega)
      · skip
        exact absurd c15 (by omega)
set_option maxHeartbeats 4000000 in
set_option maxRecDepth 100000 in
theorem c_X_store (l : Launch) (D : va_G) (cI : ClassId) (cG : ClassId) (h0 : Nat) (hp : Nat) (ow : Nat) (wo : Nat) (pl : Nat) (po : Nat) (en : Nat) (eo : Nat) (sb : Nat) (rr : Nat → Nat) (fo : lc_A) (fw : lc_A) (md : Nat) (fp : lc_A) (ht : Nat) (fe : lc_A) (M : Nat → lc_A) (len : Nat) (rk : Int32) (x : Int32) (z : Int32) (y : Int32) (hht : ht ≤ 8) (hlen : len ≤ 5) (hc : ∀ k, k < len → lc_sao fo (lc_first fo (fe k)) ≤ 4) (h4 : ∀ a, lc_fca fo fp ht x = some a → lc_sa fo a ≤ 4) (h4b : ∀ a, lc_fca fo fp ht x = some a → len = 5 → lc_sa (lc_bu fo fw fp ht fe M len).1 a ≤ 4) : zz_MI l y_X_store b_X_store 5 .boolean ({ frames := 6, cells := 0, slots := 0, locals := 136 } : Room) D [(cI, .int), (cG, .array .int)] [.ref h0, .int x, .int z, .int y] [(h0, .inr (0, [.ref hp, .ref pl, .ref en, .int rk])), (hp, .inr (1, [.ref ow, .ref wo, .int (nI md)])), (ow, .inl (cI, 48, .inl fo)), (wo, .inl (cI, 48, .inl fw)), (pl, .inr (2, [.ref po, .int (nI ht)])), (po, .inl (cI, 8, .inl fp)), (en, .inr (3, [.ref eo, .ref sb, .int (nI len)])), (eo, .inl (cI, 5, .inl fe)), (sb, .inl (cG, 5, .inr (.inr (.inr (.inr (fun uu => some (rr uu))))))), (rr 0, .inl (cI, 4, .inl (M 0))), (rr 1, .inl (cI, 4, .inl (M 1))), (rr 2, .inl (cI, 4, .inl (M 2))), (rr 3, .inl (cI, 4, .inl (M 3))), (rr 4, .inl (cI, 4, .inl (M 4)))] (lc_bI (lx_store fo fw md fp ht fe M len rk x z y).1) [(h0, .inr (0, [.ref hp, .ref pl, .ref en, .int (((lx_store fo fw md fp ht fe M len rk x z y).2).2.2.2.2.2.2.2.2)])), (hp, .inr (1, [.ref ow, .ref wo, .int (nI (((lx_store fo fw md fp ht fe M len rk x z y).2).2.2.1))])), (ow, .inl (cI, 48, .inl (((lx_store fo fw md fp ht fe M len rk x z y).2).1))), (wo, .inl (cI, 48, .inl (((lx_store fo fw md fp ht fe M len rk x z y).2).2.1))), (pl, .inr (2, [.ref po, .int (nI (((lx_store fo fw md fp ht fe M len rk x z y).2).2.2.2.2.1))])), (po, .inl (cI, 8, .inl (((lx_store fo fw md fp ht fe M len rk x z y).2).2.2.2.1))), (en, .inr (3, [.ref eo, .ref sb, .int (nI (((lx_store fo fw md fp ht fe M len rk x z y).2).2.2.2.2.2.2.2.1))])), (eo, .inl (cI, 5, .inl (((lx_store fo fw md fp ht fe M len rk x z y).2).2.2.2.2.2.1))), (sb, .inl (cG, 5, .inr (.inr (.inr (.inr (fun uu => some (rr uu))))))), (rr 0, .inl (cI, 4, .inl ((((lx_store fo fw md fp ht fe M len rk x z y).2).2.2.2.2.2.2.1) 0))), (rr 1, .inl (cI, 4, .inl ((((lx_store fo fw md fp ht fe M len rk x z y).2).2.2.2.2.2.2.1) 1))), (rr 2, .inl (cI, 4, .inl ((((lx_store fo fw md fp ht fe M len rk x z y).2).2.2.2.2.2.2.1) 2))), (rr 3, .inl (cI, 4, .inl ((((lx_store fo fw md fp ht fe M len rk x z y).2).2.2.2.2.2.2.1) 3))), (rr 4, .inl (cI, 4, .inl ((((lx_store fo fw md fp ht fe M len rk x z y).2).2.2.2.2.2.2.1) 4)))] := by
  refine zz_MI_of (by decide) (Nat.le_of_ble_eq_true rfl) (zz_narB _) ?_
  intro p e s m args below meth c A ls Q hx hb hml hown hts hK hP hD hS hA hl hret
  have hown : s.vm.findClass R_X = some m.cls := hown
  have hl : lv_has ls 5 [(0, .ref h0), (1, .int x), (2, .int z), (3, .int y)] := hl
  refine lv_aload_n hx hb d_X_store_0 rfl (lv_at hl 0 rfl) ?_
  refine lv_iload_n hx hb d_X_store_1 rfl (lv_at hl 1 rfl) ?_
  refine zz_callI (np := 1) hx hb hml hown hts hK hP hD hS hA (c_X_firstCellAt l D cI cG h0 hp ow wo pl po en eo sb rr fo fw md fp ht fe M len rk x (by omega)) (zz_gv kw_130 kw_131 kw_132 kw_58 kc_129) (by decide +kernel) rfl rfl ⟨Nat.le_of_ble_eq_true rfl, Nat.le_of_ble_eq_true rfl⟩ ⟨Nat.zero_le _, Nat.zero_le _⟩ [0, 1] rfl 0 0 rfl rfl rfl [0, 1, 2, 3, 4, 5, 6, 7, 8, 9, 10, 11, 12, 13] [] [0, 1, 2, 3, 4, 5, 6, 7, 8, 9, 10, 11, 12, 13] rfl (by decide) (wr := []) rfl (by decide) (by decide) (ws' := [(h0, .inr (0, [.ref hp, .ref pl, .ref en, .int rk])), (hp, .inr (1, [.ref ow, .ref wo, .int (nI md)])), (ow, .inl (cI, 48, .inl fo)), (wo, .inl (cI, 48, .inl fw)), (pl, .inr (2, [.ref po, .int (nI ht)])), (po, .inl (cI, 8, .inl fp)), (en, .inr (3, [.ref eo, .ref sb, .int (nI len)])), (eo, .inl (cI, 5, .inl fe)), (sb, .inl (cG, 5, .inr (.inr (.inr (.inr (fun uu => some (rr uu))))))), (rr 0, .inl (cI, 4, .inl (M 0))), (rr 1, .inl (cI, 4, .inl (M 1))), (rr 2, .inl (cI, 4, .inl (M 2))), (rr 3, .inl (cI, 4, .inl (M 3))), (rr 4, .inl (cI, 4, .inl (M 4)))]) rfl (by decide) rfl hl.1 rfl (Nat.le_of_ble_eq_true rfl) d_X_store_2 (fun H locs hP hD hS => ?_)
  refine zz_oI (fun h2 => ?_) (fun a h2 => ?_)
  · skip
    refine lv_istore (lv' := [(4, .int (-1)), (0, .ref h0), (1, .int x), (2, .int z), (3, .int y)]) hx hb d_X_store_5 hl (by decide) rfl (fun ls hl => ?_)
    refine lv_aload_n hx hb d_X_store_7 rfl (lv_at hl 1 rfl) ?_
    refine va_get (D := D) (ci := 0) (v := .ref hp) (C := R_X) (T := F_X) (N := 4) hx hb hts i_X hown hK hP 0 rfl rfl 0 (by decide) (hts _ kw_39) (fun _ h9 => h9) rfl d_X_store_8 ?_
    refine lv_iload hx hb d_X_store_11 (lv_at hl 0 rfl) ?_
    refine lv_iload_n hx hb d_X_store_13 rfl (lv_at hl 3 rfl) ?_
    refine zz_callI (np := 2) hx hb hml hown hts hK hP hD hS hA (c_Heap_hasSlot_n l D cI hp ow wo fo fw md z ) (zz_gv kw_134 kw_135 kw_136 kw_6 kc_133) (by decide +kernel) rfl rfl ⟨Nat.le_of_ble_eq_true rfl, Nat.le_of_ble_eq_true rfl⟩ ⟨Nat.zero_le _, Nat.zero_le _⟩ [0] rfl 1 1 rfl rfl rfl [1, 2, 3] [0, 4, 5, 6, 7, 8, 9, 10, 11, 12, 13] [0, 11, 12, 13, 1, 2, 3, 4, 5, 6, 7, 8, 9, 10] rfl (by decide) (wr := [(h0, .inr (0, [.ref hp, .ref pl, .ref en, .int rk])), (pl, .inr (2, [.ref po, .int (nI ht)])), (po, .inl (cI, 8, .inl fp)), (en, .inr (3, [.ref eo, .ref sb, .int (nI len)])), (eo, .inl (cI, 5, .inl fe)), (sb, .inl (cG, 5, .inr (.inr (.inr (.inr (fun uu => some (rr uu))))))), (rr 0, .inl (cI, 4, .inl (M 0))), (rr 1, .inl (cI, 4, .inl (M 1))), (rr 2, .inl (cI, 4, .inl (M 2))), (rr 3, .inl (cI, 4, .inl (M 3))), (rr 4, .inl (cI, 4, .inl (M 4)))]) rfl (by decide) (by decide) (ws' := [(h0, .inr (0, [.ref hp, .ref pl, .ref en, .int rk])), (hp, .inr (1, [.ref ow, .ref wo, .int (nI md)])), (ow, .inl (cI, 48, .inl fo)), (wo, .inl (cI, 48, .inl fw)), (pl, .inr (2, [.ref po, .int (nI ht)])), (po, .inl (cI, 8, .inl fp)), (en, .inr (3, [.ref eo, .ref sb, .int (nI len)])), (eo, .inl (cI, 5, .inl fe)), (sb, .inl (cG, 5, .inr (.inr (.inr (.inr (fun uu => some (rr uu))))))), (rr 0, .inl (cI, 4, .inl (M 0))), (rr 1, .inl (cI, 4, .inl (M 1))), (rr 2, .inl (cI, 4, .inl (M 2))), (rr 3, .inl (cI, 4, .inl (M 3))), (rr 4, .inl (cI, 4, .inl (M 4)))]) rfl (by decide) rfl hl.1 rfl (Nat.le_of_ble_eq_true rfl) d_X_store_14 (fun H locs hP hD hS => ?_)
    refine zz_if_ne (tgt := 22) hx hb (by omega) d_X_store_17 (by decide) (fun c17 => ?_) (fun c17 => ?_)
    · skip
      exact absurd c17 (by omega)
    · skip
      refine lv_iconst (v := nI 0) hx hb d_X_store_20 (by decide +kernel) ?_
      refine zz_top (z := lc_bI (lx_store fo fw md fp ht fe M len rk x z y).1) (by first | (simp only [lx_store, h2] <;> rfl) | (simp only [lx_store, h2, h14] <;> rfl) | (simp only [lx_store, h2, h14, lc_fr0, if_neg c24, h32] <;> rfl) | (simp only [lx_store, h2, h14, ey, lx_setw, lx_note_fp, nI_0] <;> rfl) | (simp only [lx_store, h2, h14, ey, lx_setw, lx_note_fp] <;> rfl)) ?_
      have eW : ([(h0, .inr (0, [.ref hp, .ref pl, .ref en, .int rk])), (hp, .inr (1, [.ref ow, .ref wo, .int (nI md)])), (ow, .inl (cI, 48, .inl fo)), (wo, .inl (cI, 48, .inl fw)), (pl, .inr (2, [.ref po, .int (nI ht)])), (po, .inl (cI, 8, .inl fp)), (en, .inr (3, [.ref eo, .ref sb, .int (nI len)])), (eo, .inl (cI, 5, .inl fe)), (sb, .inl (cG, 5, .inr (.inr (.inr (.inr (fun uu => some (rr uu))))))), (rr 0, .inl (cI, 4, .inl (M 0))), (rr 1, .inl (cI, 4, .inl (M 1))), (rr 2, .inl (cI, 4, .inl (M 2))), (rr 3, .inl (cI, 4, .inl (M 3))), (rr 4, .inl (cI, 4, .inl (M 4)))] : va_W) = [(h0, .inr (0, [.ref hp, .ref pl, .ref en, .int (((lx_store fo fw md fp ht fe M len rk x z y).2).2.2.2.2.2.2.2.2)])), (hp, .inr (1, [.ref ow, .ref wo, .int (nI (((lx_store fo fw md fp ht fe M len rk x z y).2).2.2.1))])), (ow, .inl (cI, 48, .inl (((lx_store fo fw md fp ht fe M len rk x z y).2).1))), (wo, .inl (cI, 48, .inl (((lx_store fo fw md fp ht fe M len rk x z y).2).2.1))), (pl, .inr (2, [.ref po, .int (nI (((lx_store fo fw md fp ht fe M len rk x z y).2).2.2.2.2.1))])), (po, .inl (cI, 8, .inl (((lx_store fo fw md fp ht fe M len rk x z y).2).2.2.2.1))), (en, .inr (3, [.ref eo, .ref sb, .int (nI (((lx_store fo fw md fp ht fe M len rk x z y).2).2.2.2.2.2.2.2.1))])), (eo, .inl (cI, 5, .inl (((lx_store fo fw md fp ht fe M len rk x z y).2).2.2.2.2.2.1))), (sb, .inl (cG, 5, .inr (.inr (.inr (.inr (fun uu => some (rr uu))))))), (rr 0, .inl (cI, 4, .inl ((((lx_store fo fw md fp ht fe M len rk x z y).2).2.2.2.2.2.2.1) 0))), (rr 1, .inl (cI, 4, .inl ((((lx_store fo fw md fp ht fe M len rk x z y).2).2.2.2.2.2.2.1) 1))), (rr 2, .inl (cI, 4, .inl ((((lx_store fo fw md fp ht fe M len rk x z y).2).2.2.2.2.2.2.1) 2))), (rr 3, .inl (cI, 4, .inl ((((lx_store fo fw md fp ht fe M len rk x z y).2).2.2.2.2.2.2.1) 3))), (rr 4, .inl (cI, 4, .inl ((((lx_store fo fw md fp ht fe M len rk x z y).2).2.2.2.2.2.2.1) 4)))] := by first | (simp only [lx_store, h2] <;> rfl) | (simp only [lx_store, h2, h14] <;> rfl) | (simp only [lx_store, h2, h14, lc_fr0, if_neg c24, h32] <;> rfl) | (simp only [lx_store, h2, h14, ey, lx_setw, lx_note_fp, nI_0] <;> rfl) | (simp only [lx_store, h2, h14, ey, lx_setw, lx_note_fp] <;> rfl)
      exact hret _ _ _ _ d_X_store_21 (zz_toP eW hP) (zz_toD eW hD) hS
  · skip
    have ha := lc_fca_lt h2
    have hsa := lc_sa_le fo a
    have h4a := h4 a h2
    have h4ab := h4b a h2
    refine lv_istore (lv' := [(4, .int (nI a)), (0, .ref h0), (1, .int x), (2, .int z), (3, .int y)]) hx hb d_X_store_5 hl (by decide) rfl (fun ls hl => ?_)
    refine lv_aload_n hx hb d_X_store_7 rfl (lv_at hl 1 rfl) ?_
    refine va_get (D := D) (ci := 0) (v := .ref hp) (C := R_X) (T := F_X) (N := 4) hx hb hts i_X hown hK hP 0 rfl rfl 0 (by decide) (hts _ kw_39) (fun _ h9 => h9) rfl d_X_store_8 ?_
    refine lv_iload hx hb d_X_store_11 (lv_at hl 0 rfl) ?_
    refine lv_iload_n hx hb d_X_store_13 rfl (lv_at hl 3 rfl) ?_
    refine zz_callI (np := 2) hx hb hml hown hts hK hP hD hS hA (c_Heap_hasSlot_s l D cI hp ow wo fo fw md a z (by omega)) (zz_gv kw_134 kw_135 kw_136 kw_6 kc_133) (by decide +kernel) rfl rfl ⟨Nat.le_of_ble_eq_true rfl, Nat.le_of_ble_eq_true rfl⟩ ⟨Nat.zero_le _, Nat.zero_le _⟩ [0] rfl 1 1 rfl rfl rfl [1, 2, 3] [0, 4, 5, 6, 7, 8, 9, 10, 11, 12, 13] [0, 11, 12, 13, 1, 2, 3, 4, 5, 6, 7, 8, 9, 10] rfl (by decide) (wr := [(h0, .inr (0, [.ref hp, .ref pl, .ref en, .int rk])), (pl, .inr (2, [.ref po, .int (nI ht)])), (po, .inl (cI, 8, .inl fp)), (en, .inr (3, [.ref eo, .ref sb, .int (nI len)])), (eo, .inl (cI, 5, .inl fe)), (sb, .inl (cG, 5, .inr (.inr (.inr (.inr (fun uu => some (rr uu))))))), (rr 0, .inl (cI, 4, .inl (M 0))), (rr 1, .inl (cI, 4, .inl (M 1))), (rr 2, .inl (cI, 4, .inl (M 2))), (rr 3, .inl (cI, 4, .inl (M 3))), (rr 4, .inl (cI, 4, .inl (M 4)))]) rfl (by decide) (by decide) (ws' := [(h0, .inr (0, [.ref hp, .ref pl, .ref en, .int rk])), (hp, .inr (1, [.ref ow, .ref wo, .int (nI md)])), (ow, .inl (cI, 48, .inl fo)), (wo, .inl (cI, 48, .inl fw)), (pl, .inr (2, [.ref po, .int (nI ht)])), (po, .inl (cI, 8, .inl fp)), (en, .inr (3, [.ref eo, .ref sb, .int (nI len)])), (eo, .inl (cI, 5, .inl fe)), (sb, .inl (cG, 5, .inr (.inr (.inr (.inr (fun uu => some (rr uu))))))), (rr 0, .inl (cI, 4, .inl (M 0))), (rr 1, .inl (cI, 4, .inl (M 1))), (rr 2, .inl (cI, 4, .inl (M 2))), (rr 3, .inl (cI, 4, .inl (M 3))), (rr 4, .inl (cI, 4, .inl (M 4)))]) rfl (by decide) rfl hl.1 rfl (Nat.le_of_ble_eq_true rfl) d_X_store_14 (fun H locs hP hD hS => ?_)
    refine zz_pl (x := z) (n := lc_sa fo a) (by omega) (fun h14 => ?_) (fun j hj14 ex14 h14 => ?_)
    · skip
      refine zz_if_ne (tgt := 22) hx hb (by omega) d_X_store_17 (by decide) (fun c17 => ?_) (fun c17 => ?_)
      · skip
        exact absurd c17 (by omega)
      · skip
        refine lv_iconst (v := nI 0) hx hb d_X_store_20 (by decide +kernel) ?_
        refine zz_top (z := lc_bI (lx_store fo fw md fp ht fe M len rk x z y).1) (by first | (simp only [lx_store, h2] <;> rfl) | (simp only [lx_store, h2, h14] <;> rfl) | (simp only [lx_store, h2, h14, lc_fr0, if_neg c24, h32] <;> rfl) | (simp only [lx_store, h2, h14, ey, lx_setw, lx_note_fp, nI_0] <;> rfl) | (simp only [lx_store, h2, h14, ey, lx_setw, lx_note_fp] <;> rfl)) ?_
        have eW : ([(h0, .inr (0, [.ref hp, .ref pl, .ref en, .int rk])), (hp, .inr (1, [.ref ow, .ref wo, .int (nI md)])), (ow, .inl (cI, 48, .inl fo)), (wo, .inl (cI, 48, .inl fw)), (pl, .inr (2, [.ref po, .int (nI ht)])), (po, .inl (cI, 8, .inl fp)), (en, .inr (3, [.ref eo, .ref sb, .int (nI len)])), (eo, .inl (cI, 5, .inl fe)), (sb, .inl (cG, 5, .inr (.inr (.inr (.inr (fun uu => some (rr uu))))))), (rr 0, .inl (cI, 4, .inl (M 0))), (rr 1, .inl (cI, 4, .inl (M 1))), (rr 2, .inl (cI, 4, .inl (M 2))), (rr 3, .inl (cI, 4, .inl (M 3))), (rr 4, .inl (cI, 4, .inl (M 4)))] : va_W) = [(h0, .inr (0, [.ref hp, .ref pl, .ref en, .int (((lx_store fo fw md fp ht fe M len rk x z y).2).2.2.2.2.2.2.2.2)])), (hp, .inr (1, [.ref ow, .ref wo, .int (nI (((lx_store fo fw md fp ht fe M len rk x z y).2).2.2.1))])), (ow, .inl (cI, 48, .inl (((lx_store fo fw md fp ht fe M len rk x z y).2).1))), (wo, .inl (cI, 48, .inl (((lx_store fo fw md fp ht fe M len rk x z y).2).2.1))), (pl, .inr (2, [.ref po, .int (nI (((lx_store fo fw md fp ht fe M len rk x z y).2).2.2.2.2.1))])), (po, .inl (cI, 8, .inl (((lx_store fo fw md fp ht fe M len rk x z y).2).2.2.2.1))), (en, .inr (3, [.ref eo, .ref sb, .int (nI (((lx_store fo fw md fp ht fe M len rk x z y).2).2.2.2.2.2.2.2.1))])), (eo, .inl (cI, 5, .inl (((lx_store fo fw md fp ht fe M len rk x z y).2).2.2.2.2.2.1))), (sb, .inl (cG, 5, .inr (.inr (.inr (.inr (fun uu => some (rr uu))))))), (rr 0, .inl (cI, 4, .inl ((((lx_store fo fw md fp ht fe M len rk x z y).2).2.2.2.2.2.2.1) 0))), (rr 1, .inl (cI, 4, .inl ((((lx_store fo fw md fp ht fe M len rk x z y).2).2.2.2.2.2.2.1) 1))), (rr 2, .inl (cI, 4, .inl ((((lx_store fo fw md fp ht fe M len rk x z y).2).2.2.2.2.2.2.1) 2))), (rr 3, .inl (cI, 4, .inl ((((lx_store fo fw md fp ht fe M len rk x z y).2).2.2.2.2.2.2.1) 3))), (rr 4, .inl (cI, 4, .inl ((((lx_store fo fw md fp ht fe M len rk x z y).2).2.2.2.2.2.2.1) 4)))] := by first | (simp only [lx_store, h2] <;> rfl) | (simp only [lx_store, h2, h14] <;> rfl) | (simp only [lx_store, h2, h14, lc_fr0, if_neg c24, h32] <;> rfl) | (simp only [lx_store, h2, h14, ey, lx_setw, lx_note_fp, nI_0] <;> rfl) | (simp only [lx_store, h2, h14, ey, lx_setw, lx_note_fp] <;> rfl)
        exact hret _ _ _ _ d_X_store_21 (zz_toP eW hP) (zz_toD eW hD) hS
    · skip
      subst ex14
      refine zz_if_ne (tgt := 22) hx hb (by omega) d_X_store_17 (by decide) (fun c17 => ?_) (fun c17 => ?_)
      · skip
        refine lv_iload_n hx hb d_X_store_22 rfl (lv_at hl 4 rfl) ?_
        refine lv_iconst (v := (-1)) hx hb d_X_store_23 (by decide +kernel) ?_
        refine lv_icmp_eq (tgt := 40) hx hb d_X_store_24 (by decide) (fun c24 => ?_) (fun c24 => ?_)
        · skip
          subst c24
          have ey : lc_fr0 fp ht (-1) = some 0 := by simp [lc_fr0]
          refine lv_aload_n hx hb d_X_store_40 rfl (lv_at hl 1 rfl) ?_
          refine lv_iload hx hb d_X_store_41 (lv_at hl 0 rfl) ?_
          refine zz_callV (np := 1) hx hb hml hown hts hK hP hD hS hA (c_X_note l D cI cG h0 hp ow wo pl po en eo sb rr fo fw md fp ht fe M len rk a ha hht hlen hc h4a h4ab) (zz_gv kw_138 kw_139 kw_140 kw_58 kc_137) (by decide +kernel) rfl rfl ⟨Nat.le_of_ble_eq_true rfl, Nat.le_of_ble_eq_true rfl⟩ ⟨Nat.zero_le _, Nat.zero_le _⟩ [0, 1] rfl 0 0 rfl rfl rfl [0, 1, 2, 3, 4, 5, 6, 7, 8, 9, 10, 11, 12, 13] [] [0, 1, 2, 3, 4, 5, 6, 7, 8, 9, 10, 11, 12, 13] rfl (by decide) (wr := []) rfl (by decide) (by decide) (ws' := [(h0, .inr (0, [.ref hp, .ref pl, .ref en, .int ((lx_note fo fw md fp ht fe M len rk a).2.2.2.2.2.2.2.2)])), (hp, .inr (1, [.ref ow, .ref wo, .int (nI ((lx_note fo fw md fp ht fe M len rk a).2.2.1))])), (ow, .inl (cI, 48, .inl ((lx_note fo fw md fp ht fe M len rk a).1))), (wo, .inl (cI, 48, .inl ((lx_note fo fw md fp ht fe M len rk a).2.1))), (pl, .inr (2, [.ref po, .int (nI ((lx_note fo fw md fp ht fe M len rk a).2.2.2.2.1))])), (po, .inl (cI, 8, .inl ((lx_note fo fw md fp ht fe M len rk a).2.2.2.1))), (en, .inr (3, [.ref eo, .ref sb, .int (nI ((lx_note fo fw md fp ht fe M len rk a).2.2.2.2.2.2.2.1))])), (eo, .inl (cI, 5, .inl ((lx_note fo fw md fp ht fe M len rk a).2.2.2.2.2.1))), (sb, .inl (cG, 5, .inr (.inr (.inr (.inr (fun uu => some (rr uu))))))), (rr 0, .inl (cI, 4, .inl (((lx_note fo fw md fp ht fe M len rk a).2.2.2.2.2.2.1) 0))), (rr 1, .inl (cI, 4, .inl (((lx_note fo fw md fp ht fe M len rk a).2.2.2.2.2.2.1) 1))), (rr 2, .inl (cI, 4, .inl (((lx_note fo fw md fp ht fe M len rk a).2.2.2.2.2.2.1) 2))), (rr 3, .inl (cI, 4, .inl (((lx_note fo fw md fp ht fe M len rk a).2.2.2.2.2.2.1) 3))), (rr 4, .inl (cI, 4, .inl (((lx_note fo fw md fp ht fe M len rk a).2.2.2.2.2.2.1) 4)))]) rfl (by decide) rfl hl.1 rfl (Nat.le_of_ble_eq_true rfl) d_X_store_43 (fun H locs hP hD hS => ?_)
          refine lv_aload_n hx hb d_X_store_46 rfl (lv_at hl 1 rfl) ?_
          refine va_get (D := D) (ci := 0) (v := .ref hp) (C := R_X) (T := F_X) (N := 4) hx hb hts i_X hown hK hP 0 rfl rfl 0 (by decide) (hts _ kw_39) (fun _ h9 => h9) rfl d_X_store_47 ?_
          refine lv_iload hx hb d_X_store_50 (lv_at hl 0 rfl) ?_
          refine lv_iload_n hx hb d_X_store_52 rfl (lv_at hl 3 rfl) ?_
          refine lv_iload_n hx hb d_X_store_53 rfl (lv_at hl 4 rfl) ?_
          refine lv_iconst (v := (-1)) hx hb d_X_store_54 (by decide +kernel) ?_
          refine lv_icmp_ne (tgt := 62) hx hb d_X_store_55 (by decide) (fun c55 => ?_) (fun c55 => ?_)
          · skip
            exact absurd rfl c55
          · skip
            refine lv_iconst (v := nI 0) hx hb d_X_store_58 (by decide +kernel) ?_
            refine lv_goto (tgt := 70) hx hb d_X_store_59 (by decide) ?_
            refine zz_callV (np := 3) hx hb hml hown hts hK hP hD hS hA (c_Heap_setSlot l D cI hp ow wo ((lx_note fo fw md fp ht fe M len rk a).1) ((lx_note fo fw md fp ht fe M len rk a).2.1) ((lx_note fo fw md fp ht fe M len rk a).2.2.1) a j (nI 0) (by omega)) (zz_gv kw_142 kw_143 kw_144 kw_6 kc_141) (by decide +kernel) rfl rfl ⟨Nat.le_of_ble_eq_true rfl, Nat.le_of_ble_eq_true rfl⟩ ⟨Nat.zero_le _, Nat.zero_le _⟩ [0] rfl 1 1 rfl rfl rfl [1, 2, 3] [0, 4, 5, 6, 7, 8, 9, 10, 11, 12, 13] [0, 11, 12, 13, 1, 2, 3, 4, 5, 6, 7, 8, 9, 10] rfl (by decide) (wr := [(h0, .inr (0, [.ref hp, .ref pl, .ref en, .int ((lx_note fo fw md fp ht fe M len rk a).2.2.2.2.2.2.2.2)])), (pl, .inr (2, [.ref po, .int (nI ((lx_note fo fw md fp ht fe M len rk a).2.2.2.2.1))])), (po, .inl (cI, 8, .inl ((lx_note fo fw md fp ht fe M len rk a).2.2.2.1))), (en, .inr (3, [.ref eo, .ref sb, .int (nI ((lx_note fo fw md fp ht fe M len rk a).2.2.2.2.2.2.2.1))])), (eo, .inl (cI, 5, .inl ((lx_note fo fw md fp ht fe M len rk a).2.2.2.2.2.1))), (sb, .inl (cG, 5, .inr (.inr (.inr (.inr (fun uu => some (rr uu))))))), (rr 0, .inl (cI, 4, .inl (((lx_note fo fw md fp ht fe M len rk a).2.2.2.2.2.2.1) 0))), (rr 1, .inl (cI, 4, .inl (((lx_note fo fw md fp ht fe M len rk a).2.2.2.2.2.2.1) 1))), (rr 2, .inl (cI, 4, .inl (((lx_note fo fw md fp ht fe M len rk a).2.2.2.2.2.2.1) 2))), (rr 3, .inl (cI, 4, .inl (((lx_note fo fw md fp ht fe M len rk a).2.2.2.2.2.2.1) 3))), (rr 4, .inl (cI, 4, .inl (((lx_note fo fw md fp ht fe M len rk a).2.2.2.2.2.2.1) 4)))]) rfl (by decide) (by decide) (ws' := [(h0, .inr (0, [.ref hp, .ref pl, .ref en, .int ((lx_note fo fw md fp ht fe M len rk a).2.2.2.2.2.2.2.2)])), (hp, .inr (1, [.ref ow, .ref wo, .int (nI ((lx_note fo fw md fp ht fe M len rk a).2.2.1))])), (ow, .inl (cI, 48, .inl ((lx_note fo fw md fp ht fe M len rk a).1))), (wo, .inl (cI, 48, .inl (upd ((lx_note fo fw md fp ht fe M len rk a).2.1) (a + 1 + j) (nI 0)))), (pl, .inr (2, [.ref po, .int (nI ((lx_note fo fw md fp ht fe M len rk a).2.2.2.2.1))])), (po, .inl (cI, 8, .inl ((lx_note fo fw md fp ht fe M len rk a).2.2.2.1))), (en, .inr (3, [.ref eo, .ref sb, .int (nI ((lx_note fo fw md fp ht fe M len rk a).2.2.2.2.2.2.2.1))])), (eo, .inl (cI, 5, .inl ((lx_note fo fw md fp ht fe M len rk a).2.2.2.2.2.1))), (sb, .inl (cG, 5, .inr (.inr (.inr (.inr (fun uu => some (rr uu))))))), (rr 0, .inl (cI, 4, .inl (((lx_note fo fw md fp ht fe M len rk a).2.2.2.2.2.2.1) 0))), (rr 1, .inl (cI, 4, .inl (((lx_note fo fw md fp ht fe M len rk a).2.2.2.2.2.2.1) 1))), (rr 2, .inl (cI, 4, .inl (((lx_note fo fw md fp ht fe M len rk a).2.2.2.2.2.2.1) 2))), (rr 3, .inl (cI, 4, .inl (((lx_note fo fw md fp ht fe M len rk a).2.2.2.2.2.2.1) 3))), (rr 4, .inl (cI, 4, .inl (((lx_note fo fw md fp ht fe M len rk a).2.2.2.2.2.2.1) 4)))]) rfl (by decide) rfl hl.1 rfl (Nat.le_of_ble_eq_true rfl) d_X_store_70 (fun H locs hP hD hS => ?_)
            refine lv_iconst (v := nI 1) hx hb d_X_store_73 (by decide +kernel) ?_
            refine zz_top (z := lc_bI (lx_store fo fw md fp ht fe M len rk x (nI j) (-1)).1) (by first | (simp only [lx_store, h2] <;> rfl) | (simp only [lx_store, h2, h14] <;> rfl) | (simp only [lx_store, h2, h14, lc_fr0, if_neg c24, h32] <;> rfl) | (simp only [lx_store, h2, h14, ey, lx_setw, lx_note_fp, nI_0] <;> rfl) | (simp only [lx_store, h2, h14, ey, lx_setw, lx_note_fp] <;> rfl)) ?_
            have eW : ([(h0, .inr (0, [.ref hp, .ref pl, .ref en, .int ((lx_note fo fw md fp ht fe M len rk a).2.2.2.2.2.2.2.2)])), (hp, .inr (1, [.ref ow, .ref wo, .int (nI ((lx_note fo fw md fp ht fe M len rk a).2.2.1))])), (ow, .inl (cI, 48, .inl ((lx_note fo fw md fp ht fe M len rk a).1))), (wo, .inl (cI, 48, .inl (upd ((lx_note fo fw md fp ht fe M len rk a).2.1) (a + 1 + j) (nI 0)))), (pl, .inr (2, [.ref po, .int (nI ((lx_note fo fw md fp ht fe M len rk a).2.2.2.2.1))])), (po, .inl (cI, 8, .inl ((lx_note fo fw md fp ht fe M len rk a).2.2.2.1))), (en, .inr (3, [.ref eo, .ref sb, .int (nI ((lx_note fo fw md fp ht fe M len rk a).2.2.2.2.2.2.2.1))])), (eo, .inl (cI, 5, .inl ((lx_note fo fw md fp ht fe M len rk a).2.2.2.2.2.1))), (sb, .inl (cG, 5, .inr (.inr (.inr (.inr (fun uu => some (rr uu))))))), (rr 0, .inl (cI, 4, .inl (((lx_note fo fw md fp ht fe M len rk a).2.2.2.2.2.2.1) 0))), (rr 1, .inl (cI, 4, .inl (((lx_note fo fw md fp ht fe M len rk a).2.2.2.2.2.2.1) 1))), (rr 2, .inl (cI, 4, .inl (((lx_note fo fw md fp ht fe M len rk a).2.2.2.2.2.2.1) 2))), (rr 3, .inl (cI, 4, .inl (((lx_note fo fw md fp ht fe M len rk a).2.2.2.2.2.2.1) 3))), (rr 4, .inl (cI, 4, .inl (((lx_note fo fw md fp ht fe M len rk a).2.2.2.2.2.2.1) 4)))] : va_W) = [(h0, .inr (0, [.ref hp, .ref pl, .ref en, .int (((lx_store fo fw md fp ht fe M len rk x (nI j) (-1)).2).2.2.2.2.2.2.2.2)])), (hp, .inr (1, [.ref ow, .ref wo, .int (nI (((lx_store fo fw md fp ht fe M len rk x (nI j) (-1)).2).2.2.1))])), (ow, .inl (cI, 48, .inl (((lx_store fo fw md fp ht fe M len rk x (nI j) (-1)).2).1))), (wo, .inl (cI, 48, .inl (((lx_store fo fw md fp ht fe M len rk x (nI j) (-1)).2).2.1))), (pl, .inr (2, [.ref po, .int (nI (((lx_store fo fw md fp ht fe M len rk x (nI j) (-1)).2).2.2.2.2.1))])), (po, .inl (cI, 8, .inl (((lx_store fo fw md fp ht fe M len rk x (nI j) (-1)).2).2.2.2.1))), (en, .inr (3, [.ref eo, .ref sb, .int (nI (((lx_store fo fw md fp ht fe M len rk x (nI j) (-1)).2).2.2.2.2.2.2.2.1))])), (eo, .inl (cI, 5, .inl (((lx_store fo fw md fp ht fe M len rk x (nI j) (-1)).2).2.2.2.2.2.1))), (sb, .inl (cG, 5, .inr (.inr (.inr (.inr (fun uu => some (rr uu))))))), (rr 0, .inl (cI, 4, .inl ((((lx_store fo fw md fp ht fe M len rk x (nI j) (-1)).2).2.2.2.2.2.2.1) 0))), (rr 1, .inl (cI, 4, .inl ((((lx_store fo fw md fp ht fe M len rk x (nI j) (-1)).2).2.2.2.2.2.2.1) 1))), (rr 2, .inl (cI, 4, .inl ((((lx_store fo fw md fp ht fe M len rk x (nI j) (-1)).2).2.2.2.2.2.2.1) 2))), (rr 3, .inl (cI, 4, .inl ((((lx_store fo fw md fp ht fe M len rk x (nI j) (-1)).2).2.2.2.2.2.2.1) 3))), (rr 4, .inl (cI, 4, .inl ((((lx_store fo fw md fp ht fe M len rk x (nI j) (-1)).2).2.2.2.2.2.2.1) 4)))] := by first | (simp only [lx_store, h2] <;> rfl) | (simp only [lx_store, h2, h14] <;> rfl) | (simp only [lx_store, h2, h14, lc_fr0, if_neg c24, h32] <;> rfl) | (simp only [lx_store, h2, h14, ey, lx_setw, lx_note_fp, nI_0] <;> rfl) | (simp only [lx_store, h2, h14, ey, lx_setw, lx_note_fp] <;> rfl)
            exact hret _ _ _ _ d_X_store_74 (zz_toP eW hP) (zz_toD eW hD) hS
        · skip
          refine lv_aload_n hx hb d_X_store_27 rfl (lv_at hl 1 rfl) ?_
          refine va_get (D := D) (ci := 0) (v := .ref pl) (C := R_X) (T := F_X) (N := 4) hx hb hts i_X hown hK hP 0 rfl rfl 1 (by decide) (hts _ kw_33) (fun _ h9 => h9) rfl d_X_store_28 ?_
          refine lv_iload_n hx hb d_X_store_31 rfl (lv_at hl 4 rfl) ?_
          refine zz_callI (np := 1) hx hb hml hown hts hK hP hD hS hA (c_Places_has l D cI pl po fp ht y ) (zz_gv kw_35 kw_36 kw_37 kw_38 kc_34) (by decide +kernel) rfl rfl ⟨Nat.le_of_ble_eq_true rfl, Nat.le_of_ble_eq_true rfl⟩ ⟨Nat.zero_le _, Nat.zero_le _⟩ [0] rfl 4 2 rfl rfl rfl [4, 5] [0, 1, 2, 3, 6, 7, 8, 9, 10, 11, 12, 13] [0, 1, 2, 3, 12, 13, 4, 5, 6, 7, 8, 9, 10, 11] rfl (by decide) (wr := [(h0, .inr (0, [.ref hp, .ref pl, .ref en, .int rk])), (hp, .inr (1, [.ref ow, .ref wo, .int (nI md)])), (ow, .inl (cI, 48, .inl fo)), (wo, .inl (cI, 48, .inl fw)), (en, .inr (3, [.ref eo, .ref sb, .int (nI len)])), (eo, .inl (cI, 5, .inl fe)), (sb, .inl (cG, 5, .inr (.inr (.inr (.inr (fun uu => some (rr uu))))))), (rr 0, .inl (cI, 4, .inl (M 0))), (rr 1, .inl (cI, 4, .inl (M 1))), (rr 2, .inl (cI, 4, .inl (M 2))), (rr 3, .inl (cI, 4, .inl (M 3))), (rr 4, .inl (cI, 4, .inl (M 4)))]) rfl (by decide) (by decide) (ws' := [(h0, .inr (0, [.ref hp, .ref pl, .ref en, .int rk])), (hp, .inr (1, [.ref ow, .ref wo, .int (nI md)])), (ow, .inl (cI, 48, .inl fo)), (wo, .inl (cI, 48, .inl fw)), (pl, .inr (2, [.ref po, .int (nI ht)])), (po, .inl (cI, 8, .inl fp)), (en, .inr (3, [.ref eo, .ref sb, .int (nI len)])), (eo, .inl (cI, 5, .inl fe)), (sb, .inl (cG, 5, .inr (.inr (.inr (.inr (fun uu => some (rr uu))))))), (rr 0, .inl (cI, 4, .inl (M 0))), (rr 1, .inl (cI, 4, .inl (M 1))), (rr 2, .inl (cI, 4, .inl (M 2))), (rr 3, .inl (cI, 4, .inl (M 3))), (rr 4, .inl (cI, 4, .inl (M 4)))]) rfl (by decide) rfl hl.1 rfl (Nat.le_of_ble_eq_true rfl) d_X_store_32 (fun H locs hP hD hS => ?_)
          refine zz_pl (x := y) (n := ht) (by omega) (fun h32 => ?_) (fun k hj32 ex32 h32 => ?_)
          · skip
            refine zz_if_ne (tgt := 40) hx hb (by omega) d_X_store_35 (by decide) (fun c35 => ?_) (fun c35 => ?_)
            · skip
              exact absurd c35 (by omega)
            · skip
              refine lv_iconst (v := nI 0) hx hb d_X_store_38 (by decide +kernel) ?_
              refine zz_top (z := lc_bI (lx_store fo fw md fp ht fe M len rk x (nI j) y).1) (by first | (simp only [lx_store, h2] <;> rfl) | (simp only [lx_store, h2, h14] <;> rfl) | (simp only [lx_store, h2, h14, lc_fr0, if_neg c24, h32] <;> rfl) | (simp only [lx_store, h2, h14, ey, lx_setw, lx_note_fp, nI_0] <;> rfl) | (simp only [lx_store, h2, h14, ey, lx_setw, lx_note_fp] <;> rfl)) ?_
              have eW : ([(h0, .inr (0, [.ref hp, .ref pl, .ref en, .int rk])), (hp, .inr (1, [.ref ow, .ref wo, .int (nI md)])), (ow, .inl (cI, 48, .inl fo)), (wo, .inl (cI, 48, .inl fw)), (pl, .inr (2, [.ref po, .int (nI ht)])), (po, .inl (cI, 8, .inl fp)), (en, .inr (3, [.ref eo, .ref sb, .int (nI len)])), (eo, .inl (cI, 5, .inl fe)), (sb, .inl (cG, 5, .inr (.inr (.inr (.inr (fun uu => some (rr uu))))))), (rr 0, .inl (cI, 4, .inl (M 0))), (rr 1, .inl (cI, 4, .inl (M 1))), (rr 2, .inl (cI, 4, .inl (M 2))), (rr 3, .inl (cI, 4, .inl (M 3))), (rr 4, .inl (cI, 4, .inl (M 4)))] : va_W) = [(h0, .inr (0, [.ref hp, .ref pl, .ref en, .int (((lx_store fo fw md fp ht fe M len rk x (nI j) y).2).2.2.2.2.2.2.2.2)])), (hp, .inr (1, [.ref ow, .ref wo, .int (nI (((lx_store fo fw md fp ht fe M len rk x (nI j) y).2).2.2.1))])), (ow, .inl (cI, 48, .inl (((lx_store fo fw md fp ht fe M len rk x (nI j) y).2).1))), (wo, .inl (cI, 48, .inl (((lx_store fo fw md fp ht fe M len rk x (nI j) y).2).2.1))), (pl, .inr (2, [.ref po, .int (nI (((lx_store fo fw md fp ht fe M len rk x (nI j) y).2).2.2.2.2.1))])), (po, .inl (cI, 8, .inl (((lx_store fo fw md fp ht fe M len rk x (nI j) y).2).2.2.2.1))), (en, .inr (3, [.ref eo, .ref sb, .int (nI (((lx_store fo fw md fp ht fe M len rk x (nI j) y).2).2.2.2.2.2.2.2.1))])), (eo, .inl (cI, 5, .inl (((lx_store fo fw md fp ht fe M len rk x (nI j) y).2).2.2.2.2.2.1))), (sb, .inl (cG, 5, .inr (.inr (.inr (.inr (fun uu => some (rr uu))))))), (rr 0, .inl (cI, 4, .inl ((((lx_store fo fw md fp ht fe M len rk x (nI j) y).2).2.2.2.2.2.2.1) 0))), (rr 1, .inl (cI, 4, .inl ((((lx_store fo fw md fp ht fe M len rk x (nI j) y).2).2.2.2.2.2.2.1) 1))), (rr 2, .inl (cI, 4, .inl ((((lx_store fo fw md fp ht fe M len rk x (nI j) y).2).2.2.2.2.2.2.1) 2))), (rr 3, .inl (cI, 4, .inl ((((lx_store fo fw md fp ht fe M len rk x (nI j) y).2).2.2.2.2.2.2.1) 3))), (rr 4, .inl (cI, 4, .inl ((((lx_store fo fw md fp ht fe M len rk x (nI j) y).2).2.2.2.2.2.2.1) 4)))] := by first | (simp only [lx_store, h2] <;> rfl) | (simp only [lx_store, h2, h14] <;> rfl) | (simp only [lx_store, h2, h14, lc_fr0, if_neg c24, h32] <;> rfl) | (simp only [lx_store, h2, h14, ey, lx_setw, lx_note_fp, nI_0] <;> rfl) | (simp only [lx_store, h2, h14, ey, lx_setw, lx_note_fp] <;> rfl)
              exact hret _ _ _ _ d_X_store_39 (zz_toP eW hP) (zz_toD eW hD) hS
          · skip
            subst ex32
            have ey : lc_fr0 fp ht (nI k) = some (fp k) := by simp only [lc_fr0, if_neg c24, h32]
            refine zz_if_ne (tgt := 40) hx hb (by omega) d_X_store_35 (by decide) (fun c35 => ?_) (fun c35 => ?_)
            · skip
              refine lv_aload_n hx hb d_X_store_40 rfl (lv_at hl 1 rfl) ?_
              refine lv_iload hx hb d_X_store_41 (lv_at hl 0 rfl) ?_
              refine zz_callV (np := 1) hx hb hml hown hts hK hP hD hS hA (c_X_note l D cI cG h0 hp ow wo pl po en eo sb rr fo fw md fp ht fe M len rk a ha hht hlen hc h4a h4ab) (zz_gv kw_138 kw_139 kw_140 kw_58 kc_137) (by decide +kernel) rfl rfl ⟨Nat.le_of_ble_eq_true rfl, Nat.le_of_ble_eq_true rfl⟩ ⟨Nat.zero_le _, Nat.zero_le _⟩ [0, 1] rfl 0 0 rfl rfl rfl [0, 1, 2, 3, 4, 5, 6, 7, 8, 9, 10, 11, 12, 13] [] [0, 1, 2, 3, 4, 5, 6, 7, 8, 9, 10, 11, 12, 13] rfl (by decide) (wr := []) rfl (by decide) (by decide) (ws' := [(h0, .inr (0, [.ref hp, .ref pl, .ref en, .int ((lx_note fo fw md fp ht fe M len rk a).2.2.2.2.2.2.2.2)])), (hp, .inr (1, [.ref ow, .ref wo, .int (nI ((lx_note fo fw md fp ht fe M len rk a).2.2.1))])), (ow, .inl (cI, 48, .inl ((lx_note fo fw md fp ht fe M len rk a).1))), (wo, .inl (cI, 48, .inl ((lx_note fo fw md fp ht fe M len rk a).2.1))), (pl, .inr (2, [.ref po, .int (nI ((lx_note fo fw md fp ht fe M len rk a).2.2.2.2.1))])), (po, .inl (cI, 8, .inl ((lx_note fo fw md fp ht fe M len rk a).2.2.2.1))), (en, .inr (3, [.ref eo, .ref sb, .int (nI ((lx_note fo fw md fp ht fe M len rk a).2.2.2.2.2.2.2.1))])), (eo, .inl (cI, 5, .inl ((lx_note fo fw md fp ht fe M len rk a).2.2.2.2.2.1))), (sb, .inl (cG, 5, .inr (.inr (.inr (.inr (fun uu => some (rr uu))))))), (rr 0, .inl (cI, 4, .inl (((lx_note fo fw md fp ht fe M len rk a).2.2.2.2.2.2.1) 0))), (rr 1, .inl (cI, 4, .inl (((lx_note fo fw md fp ht fe M len rk a).2.2.2.2.2.2.1) 1))), (rr 2, .inl (cI, 4, .inl (((lx_note fo fw md fp ht fe M len rk a).2.2.2.2.2.2.1) 2))), (rr 3, .inl (cI, 4, .inl (((lx_note fo fw md fp ht fe M len rk a).2.2.2.2.2.2.1) 3))), (rr 4, .inl (cI, 4, .inl (((lx_note fo fw md fp ht fe M len rk a).2.2.2.2.2.2.1) 4)))]) rfl (by decide) rfl hl.1 rfl (Nat.le_of_ble_eq_true rfl) d_X_store_43 (fun H locs hP hD hS => ?_)
              refine lv_aload_n hx hb d_X_store_46 rfl (lv_at hl 1 rfl) ?_
              refine va_get (D := D) (ci := 0) (v := .ref hp) (C := R_X) (T := F_X) (N := 4) hx hb hts i_X hown hK hP 0 rfl rfl 0 (by decide) (hts _ kw_39) (fun _ h9 => h9) rfl d_X_store_47 ?_
              refine lv_iload hx hb d_X_store_50 (lv_at hl 0 rfl) ?_
              refine lv_iload_n hx hb d_X_store_52 rfl (lv_at hl 3 rfl) ?_
              refine lv_iload_n hx hb d_X_store_53 rfl (lv_at hl 4 rfl) ?_
              refine lv_iconst (v := (-1)) hx hb d_X_store_54 (by decide +kernel) ?_
              refine lv_icmp_ne (tgt := 62) hx hb d_X_store_55 (by decide) (fun c55 => ?_) (fun c55 => ?_)
              · skip
                refine lv_aload_n hx hb d_X_store_62 rfl (lv_at hl 1 rfl) ?_
                refine va_get (D := D) (ci := 0) (v := .ref pl) (C := R_X) (T := F_X) (N := 4) hx hb hts i_X hown hK hP 0 rfl rfl 1 (by decide) (hts _ kw_33) (fun _ h9 => h9) rfl d_X_store_63 ?_
                refine lv_iload_n hx hb d_X_store_66 rfl (lv_at hl 4 rfl) ?_
                refine zz_callI (np := 1) hx hb hml hown hts hK hP hD hS hA (c_Places_at l D cI pl po ((lx_note fo fw md fp ht fe M len rk a).2.2.2.1) ((lx_note fo fw md fp ht fe M len rk a).2.2.2.2.1) k (by omega)) (zz_gv kw_41 kw_42 kw_43 kw_38 kc_40) (by decide +kernel) rfl rfl ⟨Nat.le_of_ble_eq_true rfl, Nat.le_of_ble_eq_true rfl⟩ ⟨Nat.zero_le _, Nat.zero_le _⟩ [0] rfl 4 2 rfl rfl rfl [4, 5] [0, 1, 2, 3, 6, 7, 8, 9, 10, 11, 12, 13] [0, 1, 2, 3, 12, 13, 4, 5, 6, 7, 8, 9, 10, 11] rfl (by decide) (wr := [(h0, .inr (0, [.ref hp, .ref pl, .ref en, .int ((lx_note fo fw md fp ht fe M len rk a).2.2.2.2.2.2.2.2)])), (hp, .inr (1, [.ref ow, .ref wo, .int (nI ((lx_note fo fw md fp ht fe M len rk a).2.2.1))])), (ow, .inl (cI, 48, .inl ((lx_note fo fw md fp ht fe M len rk a).1))), (wo, .inl (cI, 48, .inl ((lx_note fo fw md fp ht fe M len rk a).2.1))), (en, .inr (3, [.ref eo, .ref sb, .int (nI ((lx_note fo fw md fp ht fe M len rk a).2.2.2.2.2.2.2.1))])), (eo, .inl (cI, 5, .inl ((lx_note fo fw md fp ht fe M len rk a).2.2.2.2.2.1))), (sb, .inl (cG, 5, .inr (.inr (.inr (.inr (fun uu => some (rr uu))))))), (rr 0, .inl (cI, 4, .inl (((lx_note fo fw md fp ht fe M len rk a).2.2.2.2.2.2.1) 0))), (rr 1, .inl (cI, 4, .inl (((lx_note fo fw md fp ht fe M len rk a).2.2.2.2.2.2.1) 1))), (rr 2, .inl (cI, 4, .inl (((lx_note fo fw md fp ht fe M len rk a).2.2.2.2.2.2.1) 2))), (rr 3, .inl (cI, 4, .inl (((lx_note fo fw md fp ht fe M len rk a).2.2.2.2.2.2.1) 3))), (rr 4, .inl (cI, 4, .inl (((lx_note fo fw md fp ht fe M len rk a).2.2.2.2.2.2.1) 4)))]) rfl (by decide) (by decide) (ws' := [(h0, .inr (0, [.ref hp, .ref pl, .ref en, .int ((lx_note fo fw md fp ht fe M len rk a).2.2.2.2.2.2.2.2)])), (hp, .inr (1, [.ref ow, .ref wo, .int (nI ((lx_note fo fw md fp ht fe M len rk a).2.2.1))])), (ow, .inl (cI, 48, .inl ((lx_note fo fw md fp ht fe M len rk a).1))), (wo, .inl (cI, 48, .inl ((lx_note fo fw md fp ht fe M len rk a).2.1))), (pl, .inr (2, [.ref po, .int (nI ((lx_note fo fw md fp ht fe M len rk a).2.2.2.2.1))])), (po, .inl (cI, 8, .inl ((lx_note fo fw md fp ht fe M len rk a).2.2.2.1))), (en, .inr (3, [.ref eo, .ref sb, .int (nI ((lx_note fo fw md fp ht fe M len rk a).2.2.2.2.2.2.2.1))])), (eo, .inl (cI, 5, .inl ((lx_note fo fw md fp ht fe M len rk a).2.2.2.2.2.1))), (sb, .inl (cG, 5, .inr (.inr (.inr (.inr (fun uu => some (rr uu))))))), (rr 0, .inl (cI, 4, .inl (((lx_note fo fw md fp ht fe M len rk a).2.2.2.2.2.2.1) 0))), (rr 1, .inl (cI, 4, .inl (((lx_note fo fw md fp ht fe M len rk a).2.2.2.2.2.2.1) 1))), (rr 2, .inl (cI, 4, .inl (((lx_note fo fw md fp ht fe M len rk a).2.2.2.2.2.2.1) 2))), (rr 3, .inl (cI, 4, .inl (((lx_note fo fw md fp ht fe M len rk a).2.2.2.2.2.2.1) 3))), (rr 4, .inl (cI, 4, .inl (((lx_note fo fw md fp ht fe M len rk a).2.2.2.2.2.2.1) 4)))]) rfl (by decide) rfl hl.1 rfl (Nat.le_of_ble_eq_true rfl) d_X_store_67 (fun H locs hP hD hS => ?_)
                refine zz_callV (np := 3) hx hb hml hown hts hK hP hD hS hA (c_Heap_setSlot l D cI hp ow wo ((lx_note fo fw md fp ht fe M len rk a).1) ((lx_note fo fw md fp ht fe M len rk a).2.1) ((lx_note fo fw md fp ht fe M len rk a).2.2.1) a j (((lx_note fo fw md fp ht fe M len rk a).2.2.2.1) k) (by omega)) (zz_gv kw_142 kw_143 kw_144 kw_6 kc_141) (by decide +kernel) rfl rfl ⟨Nat.le_of_ble_eq_true rfl, Nat.le_of_ble_eq_true rfl⟩ ⟨Nat.zero_le _, Nat.zero_le _⟩ [0] rfl 1 1 rfl rfl rfl [1, 2, 3] [0, 4, 5, 6, 7, 8, 9, 10, 11, 12, 13] [0, 11, 12, 13, 1, 2, 3, 4, 5, 6, 7, 8, 9, 10] rfl (by decide) (wr := [(h0, .inr (0, [.ref hp, .ref pl, .ref en, .int ((lx_note fo fw md fp ht fe M len rk a).2.2.2.2.2.2.2.2)])), (pl, .inr (2, [.ref po, .int (nI ((lx_note fo fw md fp ht fe M len rk a).2.2.2.2.1))])), (po, .inl (cI, 8, .inl ((lx_note fo fw md fp ht fe M len rk a).2.2.2.1))), (en, .inr (3, [.ref eo, .ref sb, .int (nI ((lx_note fo fw md fp ht fe M len rk a).2.2.2.2.2.2.2.1))])), (eo, .inl (cI, 5, .inl ((lx_note fo fw md fp ht fe M len rk a).2.2.2.2.2.1))), (sb, .inl (cG, 5, .inr (.inr (.inr (.inr (fun uu => some (rr uu))))))), (rr 0, .inl (cI, 4, .inl (((lx_note fo fw md fp ht fe M len rk a).2.2.2.2.2.2.1) 0))), (rr 1, .inl (cI, 4, .inl (((lx_note fo fw md fp ht fe M len rk a).2.2.2.2.2.2.1) 1))), (rr 2, .inl (cI, 4, .inl (((lx_note fo fw md fp ht fe M len rk a).2.2.2.2.2.2.1) 2))), (rr 3, .inl (cI, 4, .inl (((lx_note fo fw md fp ht fe M len rk a).2.2.2.2.2.2.1) 3))), (rr 4, .inl (cI, 4, .inl (((lx_note fo fw md fp ht fe M len rk a).2.2.2.2.2.2.1) 4)))]) rfl (by decide) (by decide) (ws' := [(h0, .inr (0, [.ref hp, .ref pl, .ref en, .int ((lx_note fo fw md fp ht fe M len rk a).2.2.2.2.2.2.2.2)])), (hp, .inr (1, [.ref ow, .ref wo, .int (nI ((lx_note fo fw md fp ht fe M len rk a).2.2.1))])), (ow, .inl (cI, 48, .inl ((lx_note fo fw md fp ht fe M len rk a).1))), (wo, .inl (cI, 48, .inl (upd ((lx_note fo fw md fp ht fe M len rk a).2.1) (a + 1 + j) (((lx_note fo fw md fp ht fe M len rk a).2.2.2.1) k)))), (pl, .inr (2, [.ref po, .int (nI ((lx_note fo fw md fp ht fe M len rk a).2.2.2.2.1))])), (po, .inl (cI, 8, .inl ((lx_note fo fw md fp ht fe M len rk a).2.2.2.1))), (en, .inr (3, [.ref eo, .ref sb, .int (nI ((lx_note fo fw md fp ht fe M len rk a).2.2.2.2.2.2.2.1))])), (eo, .inl (cI, 5, .inl ((lx_note fo fw md fp ht fe M len rk a).2.2.2.2.2.1))), (sb, .inl (cG, 5, .inr (.inr (.inr (.inr (fun uu => some (rr uu))))))), (rr 0, .inl (cI, 4, .inl (((lx_note fo fw md fp ht fe M len rk a).2.2.2.2.2.2.1) 0))), (rr 1, .inl (cI, 4, .inl (((lx_note fo fw md fp ht fe M len rk a).2.2.2.2.2.2.1) 1))), (rr 2, .inl (cI, 4, .inl (((lx_note fo fw md fp ht fe M len rk a).2.2.2.2.2.2.1) 2))), (rr 3, .inl (cI, 4, .inl (((lx_note fo fw md fp ht fe M len rk a).2.2.2.2.2.2.1) 3))), (rr 4, .inl (cI, 4, .inl (((lx_note fo fw md fp ht fe M len rk a).2.2.2.2.2.2.1) 4)))]) rfl (by decide) rfl hl.1 rfl (Nat.le_of_ble_eq_true rfl) d_X_store_70 (fun H locs hP hD hS => ?_)
                refine lv_iconst (v := nI 1) hx hb d_X_store_73 (by decide +kernel) ?_
                refine zz_top (z := lc_bI (lx_store fo fw md fp ht fe M len rk x (nI j) (nI k)).1) (by first | (simp only [lx_store, h2] <;> rfl) | (simp only [lx_store, h2, h14] <;> rfl) | (simp only [lx_store, h2, h14, lc_fr0, if_neg c24, h32] <;> rfl) | (simp only [lx_store, h2, h14, ey, lx_setw, lx_note_fp, nI_0] <;> rfl) | (simp only [lx_store, h2, h14, ey, lx_setw, lx_note_fp] <;> rfl)) ?_
                have eW : ([(h0, .inr (0, [.ref hp, .ref pl, .ref en, .int ((lx_note fo fw md fp ht fe M len rk a).2.2.2.2.2.2.2.2)])), (hp, .inr (1, [.ref ow, .ref wo, .int (nI ((lx_note fo fw md fp ht fe M len rk a).2.2.1))])), (ow, .inl (cI, 48, .inl ((lx_note fo fw md fp ht fe M len rk a).1))), (wo, .inl (cI, 48, .inl (upd ((lx_note fo fw md fp ht fe M len rk a).2.1) (a + 1 + j) (((lx_note fo fw md fp ht fe M len rk a).2.2.2.1) k)))), (pl, .inr (2, [.ref po, .int (nI ((lx_note fo fw md fp ht fe M len rk a).2.2.2.2.1))])), (po, .inl (cI, 8, .inl ((lx_note fo fw md fp ht fe M len rk a).2.2.2.1))), (en, .inr (3, [.ref eo, .ref sb, .int (nI ((lx_note fo fw md fp ht fe M len rk a).2.2.2.2.2.2.2.1))])), (eo, .inl (cI, 5, .inl ((lx_note fo fw md fp ht fe M len rk a).2.2.2.2.2.1))), (sb, .inl (cG, 5, .inr (.inr (.inr (.inr (fun uu => some (rr uu))))))), (rr 0, .inl (cI, 4, .inl (((lx_note fo fw md fp ht fe M len rk a).2.2.2.2.2.2.1) 0))), (rr 1, .inl (cI, 4, .inl (((lx_note fo fw md fp ht fe M len rk a).2.2.2.2.2.2.1) 1))), (rr 2, .inl (cI, 4, .inl (((lx_note fo fw md fp ht fe M len rk a).2.2.2.2.2.2.1) 2))), (rr 3, .inl (cI, 4, .inl (((lx_note fo fw md fp ht fe M len rk a).2.2.2.2.2.2.1) 3))), (rr 4, .inl (cI, 4, .inl (((lx_note fo fw md fp ht fe M len rk a).2.2.2.2.2.2.1) 4)))] : va_W) = [(h0, .inr (0, [.ref hp, .ref pl, .ref en, .int (((lx_store fo fw md fp ht fe M len rk x (nI j) (nI k)).2).2.2.2.2.2.2.2.2)])), (hp, .inr (1, [.ref ow, .ref wo, .int (nI (((lx_store fo fw md fp ht fe M len rk x (nI j) (nI k)).2).2.2.1))])), (ow, .inl (cI, 48, .inl (((lx_store fo fw md fp ht fe M len rk x (nI j) (nI k)).2).1))), (wo, .inl (cI, 48, .inl (((lx_store fo fw md fp ht fe M len rk x (nI j) (nI k)).2).2.1))), (pl, .inr (2, [.ref po, .int (nI (((lx_store fo fw md fp ht fe M len rk x (nI j) (nI k)).2).2.2.2.2.1))])), (po, .inl (cI, 8, .inl (((lx_store fo fw md fp ht fe M len rk x (nI j) (nI k)).2).2.2.2.1))), (en, .inr (3, [.ref eo, .ref sb, .int (nI (((lx_store fo fw md fp ht fe M len rk x (nI j) (nI k)).2).2.2.2.2.2.2.2.1))])), (eo, .inl (cI, 5, .inl (((lx_store fo fw md fp ht fe M len rk x (nI j) (nI k)).2).2.2.2.2.2.1))), (sb, .inl (cG, 5, .inr (.inr (.inr (.inr (fun uu => some (rr uu))))))), (rr 0, .inl (cI, 4, .inl ((((lx_store fo fw md fp ht fe M len rk x (nI j) (nI k)).2).2.2.2.2.2.2.1) 0))), (rr 1, .inl (cI, 4, .inl ((((lx_store fo fw md fp ht fe M len rk x (nI j) (nI k)).2).2.2.2.2.2.2.1) 1))), (rr 2, .inl (cI, 4, .inl ((((lx_store fo fw md fp ht fe M len rk x (nI j) (nI k)).2).2.2.2.2.2.2.1) 2))), (rr 3, .inl (cI, 4, .inl ((((lx_store fo fw md fp ht fe M len rk x (nI j) (nI k)).2).2.2.2.2.2.2.1) 3))), (rr 4, .inl (cI, 4, .inl ((((lx_store fo fw md fp ht fe M len rk x (nI j) (nI k)).2).2.2.2.2.2.2.1) 4)))] := by first | (simp only [lx_store, h2] <;> rfl) | (simp only [lx_store, h2, h14] <;> rfl) | (simp only [lx_store, h2, h14, lc_fr0, if_neg c24, h32] <;> rfl) | (simp only [lx_store, h2, h14, ey, lx_setw, lx_note_fp, nI_0] <;> rfl) | (simp only [lx_store, h2, h14, ey, lx_setw, lx_note_fp] <;> rfl)
                exact hret _ _ _ _ d_X_store_74 (zz_toP eW hP) (zz_toD eW hD) hS
              · skip
                exact absurd c55 (zz_nm1 (by omega))
            · skip
              exact absurd c35 (by omega)
      · skip
        exact absurd c17 (by omega)
set_option maxHeartbeats 4000000 in
set_option maxRecDepth 100000 in
theorem c_X_drop (l : Launch) (D : va_G) (cI : ClassId) (cG : ClassId) (h0 : Nat) (hp : Nat) (ow : Nat) (wo : Nat) (pl : Nat) (po : Nat) (en : Nat) (eo : Nat) (sb : Nat) (rr : Nat → Nat) (fo : lc_A) (fw : lc_A) (md : Nat) (fp : lc_A) (ht : Nat) (fe : lc_A) (M : Nat → lc_A) (len : Nat) (rk : Int32) (hht : ht ≤ 8) : zz_MI l y_X_drop b_X_drop 1 .int ({ frames := 1, cells := 0, slots := 0, locals := 20 } : Room) D [(cI, .int), (cG, .array .int)] [.ref h0] [(h0, .inr (0, [.ref hp, .ref pl, .ref en, .int rk])), (hp, .inr (1, [.ref ow, .ref wo, .int (nI md)])), (ow, .inl (cI, 48, .inl fo)), (wo, .inl (cI, 48, .inl fw)), (pl, .inr (2, [.ref po, .int (nI ht)])), (po, .inl (cI, 8, .inl fp)), (en, .inr (3, [.ref eo, .ref sb, .int (nI len)])), (eo, .inl (cI, 5, .inl fe)), (sb, .inl (cG, 5, .inr (.inr (.inr (.inr (fun uu => some (rr uu))))))), (rr 0, .inl (cI, 4, .inl (M 0))), (rr 1, .inl (cI, 4, .inl (M 1))), (rr 2, .inl (cI, 4, .inl (M 2))), (rr 3, .inl (cI, 4, .inl (M 3))), (rr 4, .inl (cI, 4, .inl (M 4)))] ((lx_drop fp ht).1) [(h0, .inr (0, [.ref hp, .ref pl, .ref en, .int rk])), (hp, .inr (1, [.ref ow, .ref wo, .int (nI md)])), (ow, .inl (cI, 48, .inl fo)), (wo, .inl (cI, 48, .inl fw)), (pl, .inr (2, [.ref po, .int (nI ((lx_drop fp ht).2))])), (po, .inl (cI, 8, .inl fp)), (en, .inr (3, [.ref eo, .ref sb, .int (nI len)])), (eo, .inl (cI, 5, .inl fe)), (sb, .inl (cG, 5, .inr (.inr (.inr (.inr (fun uu => some (rr uu))))))), (rr 0, .inl (cI, 4, .inl (M 0))), (rr 1, .inl (cI, 4, .inl (M 1))), (rr 2, .inl (cI, 4, .inl (M 2))), (rr 3, .inl (cI, 4, .inl (M 3))), (rr 4, .inl (cI, 4, .inl (M 4)))] := by
  refine zz_MI_of (by decide) (Nat.le_of_ble_eq_true rfl) (vp_nar_int _) ?_
  intro p e s m args below meth c A ls Q hx hb hml hown hts hK hP hD hS hA hl hret
  have hown : s.vm.findClass R_X = some m.cls := hown
  have hl : lv_has ls 1 [(0, .ref h0)] := hl
  refine lv_aload_n hx hb d_X_drop_0 rfl (lv_at hl 0 rfl) ?_
  refine va_get (D := D) (ci := 0) (v := .ref pl) (C := R_X) (T := F_X) (N := 4) hx hb hts i_X hown hK hP 0 rfl rfl 1 (by decide) (hts _ kw_33) (fun _ h9 => h9) rfl d_X_drop_1 ?_
  refine zz_callI (np := 0) hx hb hml hown hts hK hP hD hS hA (c_Places_size l D cI pl po fp ht ) (zz_gv kw_146 kw_147 kw_148 kw_38 kc_145) (by decide +kernel) rfl rfl ⟨Nat.le_of_ble_eq_true rfl, Nat.le_of_ble_eq_true rfl⟩ ⟨Nat.zero_le _, Nat.zero_le _⟩ [0] rfl 4 2 rfl rfl rfl [4, 5] [0, 1, 2, 3, 6, 7, 8, 9, 10, 11, 12, 13] [0, 1, 2, 3, 12, 13, 4, 5, 6, 7, 8, 9, 10, 11] rfl (by decide) (wr := [(h0, .inr (0, [.ref hp, .ref pl, .ref en, .int rk])), (hp, .inr (1, [.ref ow, .ref wo, .int (nI md)])), (ow, .inl (cI, 48, .inl fo)), (wo, .inl (cI, 48, .inl fw)), (en, .inr (3, [.ref eo, .ref sb, .int (nI len)])), (eo, .inl (cI, 5, .inl fe)), (sb, .inl (cG, 5, .inr (.inr (.inr (.inr (fun uu => some (rr uu))))))), (rr 0, .inl (cI, 4, .inl (M 0))), (rr 1, .inl (cI, 4, .inl (M 1))), (rr 2, .inl (cI, 4, .inl (M 2))), (rr 3, .inl (cI, 4, .inl (M 3))), (rr 4, .inl (cI, 4, .inl (M 4)))]) rfl (by decide) (by decide) (ws' := [(h0, .inr (0, [.ref hp, .ref pl, .ref en, .int rk])), (hp, .inr (1, [.ref ow, .ref wo, .int (nI md)])), (ow, .inl (cI, 48, .inl fo)), (wo, .inl (cI, 48, .inl fw)), (pl, .inr (2, [.ref po, .int (nI ht)])), (po, .inl (cI, 8, .inl fp)), (en, .inr (3, [.ref eo, .ref sb, .int (nI len)])), (eo, .inl (cI, 5, .inl fe)), (sb, .inl (cG, 5, .inr (.inr (.inr (.inr (fun uu => some (rr uu))))))), (rr 0, .inl (cI, 4, .inl (M 0))), (rr 1, .inl (cI, 4, .inl (M 1))), (rr 2, .inl (cI, 4, .inl (M 2))), (rr 3, .inl (cI, 4, .inl (M 3))), (rr 4, .inl (cI, 4, .inl (M 4)))]) rfl (by decide) rfl hl.1 rfl (Nat.le_of_ble_eq_true rfl) d_X_drop_4 (fun H locs hP hD hS => ?_)
  refine zz_if_ne (tgt := 12) hx hb (by omega) d_X_drop_7 (by decide) (fun c7 => ?_) (fun c7 => ?_)
  · skip
    refine lv_aload_n hx hb d_X_drop_12 rfl (lv_at hl 0 rfl) ?_
    refine va_get (D := D) (ci := 0) (v := .ref pl) (C := R_X) (T := F_X) (N := 4) hx hb hts i_X hown hK hP 0 rfl rfl 1 (by decide) (hts _ kw_33) (fun _ h9 => h9) rfl d_X_drop_13 ?_
    refine zz_callI (np := 0) hx hb hml hown hts hK hP hD hS hA (c_Places_pop l D cI pl po fp ht (by omega) (by omega)) (zz_gv kw_150 kw_151 kw_152 kw_38 kc_149) (by decide +kernel) rfl rfl ⟨Nat.le_of_ble_eq_true rfl, Nat.le_of_ble_eq_true rfl⟩ ⟨Nat.zero_le _, Nat.zero_le _⟩ [0] rfl 4 2 rfl rfl rfl [4, 5] [0, 1, 2, 3, 6, 7, 8, 9, 10, 11, 12, 13] [0, 1, 2, 3, 12, 13, 4, 5, 6, 7, 8, 9, 10, 11] rfl (by decide) (wr := [(h0, .inr (0, [.ref hp, .ref pl, .ref en, .int rk])), (hp, .inr (1, [.ref ow, .ref wo, .int (nI md)])), (ow, .inl (cI, 48, .inl fo)), (wo, .inl (cI, 48, .inl fw)), (en, .inr (3, [.ref eo, .ref sb, .int (nI len)])), (eo, .inl (cI, 5, .inl fe)), (sb, .inl (cG, 5, .inr (.inr (.inr (.inr (fun uu => some (rr uu))))))), (rr 0, .inl (cI, 4, .inl (M 0))), (rr 1, .inl (cI, 4, .inl (M 1))), (rr 2, .inl (cI, 4, .inl (M 2))), (rr 3, .inl (cI, 4, .inl (M 3))), (rr 4, .inl (cI, 4, .inl (M 4)))]) rfl (by decide) (by decide) (ws' := [(h0, .inr (0, [.ref hp, .ref pl, .ref en, .int rk])), (hp, .inr (1, [.ref ow, .ref wo, .int (nI md)])), (ow, .inl (cI, 48, .inl fo)), (wo, .inl (cI, 48, .inl fw)), (pl, .inr (2, [.ref po, .int (nI (ht - 1))])), (po, .inl (cI, 8, .inl fp)), (en, .inr (3, [.ref eo, .ref sb, .int (nI len)])), (eo, .inl (cI, 5, .inl fe)), (sb, .inl (cG, 5, .inr (.inr (.inr (.inr (fun uu => some (rr uu))))))), (rr 0, .inl (cI, 4, .inl (M 0))), (rr 1, .inl (cI, 4, .inl (M 1))), (rr 2, .inl (cI, 4, .inl (M 2))), (rr 3, .inl (cI, 4, .inl (M 3))), (rr 4, .inl (cI, 4, .inl (M 4)))]) rfl (by decide) rfl hl.1 rfl (Nat.le_of_ble_eq_true rfl) d_X_drop_16 (fun H locs hP hD hS => ?_)
    refine zz_top (z := (lx_drop fp ht).1) (by first | (simp only [lx_drop, if_pos c7]; done) | (simp only [lx_drop, if_neg (Nat.pos_iff_ne_zero.mp c7)]; done)) ?_
    have eW : ([(h0, .inr (0, [.ref hp, .ref pl, .ref en, .int rk])), (hp, .inr (1, [.ref ow, .ref wo, .int (nI md)])), (ow, .inl (cI, 48, .inl fo)), (wo, .inl (cI, 48, .inl fw)), (pl, .inr (2, [.ref po, .int (nI (ht - 1))])), (po, .inl (cI, 8, .inl fp)), (en, .inr (3, [.ref eo, .ref sb, .int (nI len)])), (eo, .inl (cI, 5, .inl fe)), (sb, .inl (cG, 5, .inr (.inr (.inr (.inr (fun uu => some (rr uu))))))), (rr 0, .inl (cI, 4, .inl (M 0))), (rr 1, .inl (cI, 4, .inl (M 1))), (rr 2, .inl (cI, 4, .inl (M 2))), (rr 3, .inl (cI, 4, .inl (M 3))), (rr 4, .inl (cI, 4, .inl (M 4)))] : va_W) = [(h0, .inr (0, [.ref hp, .ref pl, .ref en, .int rk])), (hp, .inr (1, [.ref ow, .ref wo, .int (nI md)])), (ow, .inl (cI, 48, .inl fo)), (wo, .inl (cI, 48, .inl fw)), (pl, .inr (2, [.ref po, .int (nI ((lx_drop fp ht).2))])), (po, .inl (cI, 8, .inl fp)), (en, .inr (3, [.ref eo, .ref sb, .int (nI len)])), (eo, .inl (cI, 5, .inl fe)), (sb, .inl (cG, 5, .inr (.inr (.inr (.inr (fun uu => some (rr uu))))))), (rr 0, .inl (cI, 4, .inl (M 0))), (rr 1, .inl (cI, 4, .inl (M 1))), (rr 2, .inl (cI, 4, .inl (M 2))), (rr 3, .inl (cI, 4, .inl (M 3))), (rr 4, .inl (cI, 4, .inl (M 4)))] := by first | (simp only [lx_drop, if_pos c7]; done) | (simp only [lx_drop, if_neg (Nat.pos_iff_ne_zero.mp c7)]; done)
    exact hret _ _ _ _ d_X_drop_19 (zz_toP eW hP) (zz_toD eW hD) hS
  · skip
    refine lv_iconst (v := (-1)) hx hb d_X_drop_10 (by decide +kernel) ?_
    refine zz_top (z := (lx_drop fp ht).1) (by first | (simp only [lx_drop, if_pos c7]; done) | (simp only [lx_drop, if_neg (Nat.pos_iff_ne_zero.mp c7)]; done)) ?_
    have eW : ([(h0, .inr (0, [.ref hp, .ref pl, .ref en, .int rk])), (hp, .inr (1, [.ref ow, .ref wo, .int (nI md)])), (ow, .inl (cI, 48, .inl fo)), (wo, .inl (cI, 48, .inl fw)), (pl, .inr (2, [.ref po, .int (nI ht)])), (po, .inl (cI, 8, .inl fp)), (en, .inr (3, [.ref eo, .ref sb, .int (nI len)])), (eo, .inl (cI, 5, .inl fe)), (sb, .inl (cG, 5, .inr (.inr (.inr (.inr (fun uu => some (rr uu))))))), (rr 0, .inl (cI, 4, .inl (M 0))), (rr 1, .inl (cI, 4, .inl (M 1))), (rr 2, .inl (cI, 4, .inl (M 2))), (rr 3, .inl (cI, 4, .inl (M 3))), (rr 4, .inl (cI, 4, .inl (M 4)))] : va_W) = [(h0, .inr (0, [.ref hp, .ref pl, .ref en, .int rk])), (hp, .inr (1, [.ref ow, .ref wo, .int (nI md)])), (ow, .inl (cI, 48, .inl fo)), (wo, .inl (cI, 48, .inl fw)), (pl, .inr (2, [.ref po, .int (nI ((lx_drop fp ht).2))])), (po, .inl (cI, 8, .inl fp)), (en, .inr (3, [.ref eo, .ref sb, .int (nI len)])), (eo, .inl (cI, 5, .inl fe)), (sb, .inl (cG, 5, .inr (.inr (.inr (.inr (fun uu => some (rr uu))))))), (rr 0, .inl (cI, 4, .inl (M 0))), (rr 1, .inl (cI, 4, .inl (M 1))), (rr 2, .inl (cI, 4, .inl (M 2))), (rr 3, .inl (cI, 4, .inl (M 3))), (rr 4, .inl (cI, 4, .inl (M 4)))] := by first | (simp only [lx_drop, if_pos c7]; done) | (simp only [lx_drop, if_neg (Nat.pos_iff_ne_zero.mp c7)]; done)
    exact hret _ _ _ _ d_X_drop_11 (zz_toP eW hP) (zz_toD eW hD) hS
set_option maxHeartbeats 4000000 in
set_option maxRecDepth 100000 in
theorem c_X_reckon (l : Launch) (D : va_G) (cI : ClassId) (cG : ClassId) (h0 : Nat) (hp : Nat) (ow : Nat) (wo : Nat) (pl : Nat) (po : Nat) (en : Nat) (eo : Nat) (sb : Nat) (rr : Nat → Nat) (fo : lc_A) (fw : lc_A) (md : Nat) (fp : lc_A) (ht : Nat) (fe : lc_A) (M : Nat → lc_A) (len : Nat) (rk : Int32) (hht : ht ≤ 8) (hlen : len ≤ 5) (hc : ∀ k, k < len → lc_sao fo (lc_first fo (fe k)) ≤ 4) : zz_MI l y_X_reckon b_X_reckon 1 .int ({ frames := 5, cells := 0, slots := 0, locals := 111 } : Room) D [(cI, .int), (cG, .array .int)] [.ref h0] [(h0, .inr (0, [.ref hp, .ref pl, .ref en, .int rk])), (hp, .inr (1, [.ref ow, .ref wo, .int (nI md)])), (ow, .inl (cI, 48, .inl fo)), (wo, .inl (cI, 48, .inl fw)), (pl, .inr (2, [.ref po, .int (nI ht)])), (po, .inl (cI, 8, .inl fp)), (en, .inr (3, [.ref eo, .ref sb, .int (nI len)])), (eo, .inl (cI, 5, .inl fe)), (sb, .inl (cG, 5, .inr (.inr (.inr (.inr (fun uu => some (rr uu))))))), (rr 0, .inl (cI, 4, .inl (M 0))), (rr 1, .inl (cI, 4, .inl (M 1))), (rr 2, .inl (cI, 4, .inl (M 2))), (rr 3, .inl (cI, 4, .inl (M 3))), (rr 4, .inl (cI, 4, .inl (M 4)))] (nI ((lc_bu fo fw fp ht fe M len).2.2)) [(h0, .inr (0, [.ref hp, .ref pl, .ref en, .int (rk + nI 1)])), (hp, .inr (1, [.ref ow, .ref wo, .int (nI md)])), (ow, .inl (cI, 48, .inl ((lc_bu fo fw fp ht fe M len).1))), (wo, .inl (cI, 48, .inl ((lc_bu fo fw fp ht fe M len).2.1))), (pl, .inr (2, [.ref po, .int (nI ht)])), (po, .inl (cI, 8, .inl fp)), (en, .inr (3, [.ref eo, .ref sb, .int (nI 0)])), (eo, .inl (cI, 5, .inl fe)), (sb, .inl (cG, 5, .inr (.inr (.inr (.inr (fun uu => some (rr uu))))))), (rr 0, .inl (cI, 4, .inl (M 0))), (rr 1, .inl (cI, 4, .inl (M 1))), (rr 2, .inl (cI, 4, .inl (M 2))), (rr 3, .inl (cI, 4, .inl (M 3))), (rr 4, .inl (cI, 4, .inl (M 4)))] := by
  refine zz_MI_of (by decide) (Nat.le_of_ble_eq_true rfl) (vp_nar_int _) ?_
  intro p e s m args below meth c A ls Q hx hb hml hown hts hK hP hD hS hA hl hret
  have hown : s.vm.findClass R_X = some m.cls := hown
  have hl : lv_has ls 1 [(0, .ref h0)] := hl
  refine lv_aload_n hx hb d_X_reckon_0 rfl (lv_at hl 0 rfl) ?_
  refine zz_callI (np := 0) hx hb hml hown hts hK hP hD hS hA (c_X_bringUpToDate l D cI cG h0 hp ow wo pl po en eo sb rr fo fw md fp ht fe M len rk hht hlen hc) (zz_gv kw_102 kw_103 kw_104 kw_58 kc_101) (by decide +kernel) rfl rfl ⟨Nat.le_of_ble_eq_true rfl, Nat.le_of_ble_eq_true rfl⟩ ⟨Nat.zero_le _, Nat.zero_le _⟩ [0, 1] rfl 0 0 rfl rfl rfl [0, 1, 2, 3, 4, 5, 6, 7, 8, 9, 10, 11, 12, 13] [] [0, 1, 2, 3, 4, 5, 6, 7, 8, 9, 10, 11, 12, 13] rfl (by decide) (wr := []) rfl (by decide) (by decide) (ws' := [(h0, .inr (0, [.ref hp, .ref pl, .ref en, .int (rk + nI 1)])), (hp, .inr (1, [.ref ow, .ref wo, .int (nI md)])), (ow, .inl (cI, 48, .inl ((lc_bu fo fw fp ht fe M len).1))), (wo, .inl (cI, 48, .inl ((lc_bu fo fw fp ht fe M len).2.1))), (pl, .inr (2, [.ref po, .int (nI ht)])), (po, .inl (cI, 8, .inl fp)), (en, .inr (3, [.ref eo, .ref sb, .int (nI 0)])), (eo, .inl (cI, 5, .inl fe)), (sb, .inl (cG, 5, .inr (.inr (.inr (.inr (fun uu => some (rr uu))))))), (rr 0, .inl (cI, 4, .inl (M 0))), (rr 1, .inl (cI, 4, .inl (M 1))), (rr 2, .inl (cI, 4, .inl (M 2))), (rr 3, .inl (cI, 4, .inl (M 3))), (rr 4, .inl (cI, 4, .inl (M 4)))]) rfl (by decide) rfl hl.1 rfl (Nat.le_of_ble_eq_true rfl) d_X_reckon_1 (fun H locs hP hD hS => ?_)
  exact hret _ _ _ _ d_X_reckon_4 hP hD hS
set_option maxHeartbeats 4000000 in
set_option maxRecDepth 100000 in
theorem c_X_stack (l : Launch) (D : va_G) (cI : ClassId) (cG : ClassId) (h0 : Nat) (hp : Nat) (ow : Nat) (wo : Nat) (pl : Nat) (po : Nat) (en : Nat) (eo : Nat) (sb : Nat) (rr : Nat → Nat) (fo : lc_A) (fw : lc_A) (md : Nat) (fp : lc_A) (ht : Nat) (fe : lc_A) (M : Nat → lc_A) (len : Nat) (rk : Int32)  : zz_MI l y_X_stack b_X_stack 1 .int ({ frames := 1, cells := 0, slots := 0, locals := 20 } : Room) D [(cI, .int), (cG, .array .int)] [.ref h0] [(h0, .inr (0, [.ref hp, .ref pl, .ref en, .int rk])), (hp, .inr (1, [.ref ow, .ref wo, .int (nI md)])), (ow, .inl (cI, 48, .inl fo)), (wo, .inl (cI, 48, .inl fw)), (pl, .inr (2, [.ref po, .int (nI ht)])), (po, .inl (cI, 8, .inl fp)), (en, .inr (3, [.ref eo, .ref sb, .int (nI len)])), (eo, .inl (cI, 5, .inl fe)), (sb, .inl (cG, 5, .inr (.inr (.inr (.inr (fun uu => some (rr uu))))))), (rr 0, .inl (cI, 4, .inl (M 0))), (rr 1, .inl (cI, 4, .inl (M 1))), (rr 2, .inl (cI, 4, .inl (M 2))), (rr 3, .inl (cI, 4, .inl (M 3))), (rr 4, .inl (cI, 4, .inl (M 4)))] (nI ht) [(h0, .inr (0, [.ref hp, .ref pl, .ref en, .int rk])), (hp, .inr (1, [.ref ow, .ref wo, .int (nI md)])), (ow, .inl (cI, 48, .inl fo)), (wo, .inl (cI, 48, .inl fw)), (pl, .inr (2, [.ref po, .int (nI ht)])), (po, .inl (cI, 8, .inl fp)), (en, .inr (3, [.ref eo, .ref sb, .int (nI len)])), (eo, .inl (cI, 5, .inl fe)), (sb, .inl (cG, 5, .inr (.inr (.inr (.inr (fun uu => some (rr uu))))))), (rr 0, .inl (cI, 4, .inl (M 0))), (rr 1, .inl (cI, 4, .inl (M 1))), (rr 2, .inl (cI, 4, .inl (M 2))), (rr 3, .inl (cI, 4, .inl (M 3))), (rr 4, .inl (cI, 4, .inl (M 4)))] := by
  refine zz_MI_of (by decide) (Nat.le_of_ble_eq_true rfl) (vp_nar_int _) ?_
  intro p e s m args below meth c A ls Q hx hb hml hown hts hK hP hD hS hA hl hret
  have hown : s.vm.findClass R_X = some m.cls := hown
  have hl : lv_has ls 1 [(0, .ref h0)] := hl
  refine lv_aload_n hx hb d_X_stack_0 rfl (lv_at hl 0 rfl) ?_
  refine va_get (D := D) (ci := 0) (v := .ref pl) (C := R_X) (T := F_X) (N := 4) hx hb hts i_X hown hK hP 0 rfl rfl 1 (by decide) (hts _ kw_33) (fun _ h9 => h9) rfl d_X_stack_1 ?_
  refine zz_callI (np := 0) hx hb hml hown hts hK hP hD hS hA (c_Places_size l D cI pl po fp ht ) (zz_gv kw_146 kw_147 kw_148 kw_38 kc_145) (by decide +kernel) rfl rfl ⟨Nat.le_of_ble_eq_true rfl, Nat.le_of_ble_eq_true rfl⟩ ⟨Nat.zero_le _, Nat.zero_le _⟩ [0] rfl 4 2 rfl rfl rfl [4, 5] [0, 1, 2, 3, 6, 7, 8, 9, 10, 11, 12, 13] [0, 1, 2, 3, 12, 13, 4, 5, 6, 7, 8, 9, 10, 11] rfl (by decide) (wr := [(h0, .inr (0, [.ref hp, .ref pl, .ref en, .int rk])), (hp, .inr (1, [.ref ow, .ref wo, .int (nI md)])), (ow, .inl (cI, 48, .inl fo)), (wo, .inl (cI, 48, .inl fw)), (en, .inr (3, [.ref eo, .ref sb, .int (nI len)])), (eo, .inl (cI, 5, .inl fe)), (sb, .inl (cG, 5, .inr (.inr (.inr (.inr (fun uu => some (rr uu))))))), (rr 0, .inl (cI, 4, .inl (M 0))), (rr 1, .inl (cI, 4, .inl (M 1))), (rr 2, .inl (cI, 4, .inl (M 2))), (rr 3, .inl (cI, 4, .inl (M 3))), (rr 4, .inl (cI, 4, .inl (M 4)))]) rfl (by decide) (by decide) (ws' := [(h0, .inr (0, [.ref hp, .ref pl, .ref en, .int rk])), (hp, .inr (1, [.ref ow, .ref wo, .int (nI md)])), (ow, .inl (cI, 48, .inl fo)), (wo, .inl (cI, 48, .inl fw)), (pl, .inr (2, [.ref po, .int (nI ht)])), (po, .inl (cI, 8, .inl fp)), (en, .inr (3, [.ref eo, .ref sb, .int (nI len)])), (eo, .inl (cI, 5, .inl fe)), (sb, .inl (cG, 5, .inr (.inr (.inr (.inr (fun uu => some (rr uu))))))), (rr 0, .inl (cI, 4, .inl (M 0))), (rr 1, .inl (cI, 4, .inl (M 1))), (rr 2, .inl (cI, 4, .inl (M 2))), (rr 3, .inl (cI, 4, .inl (M 3))), (rr 4, .inl (cI, 4, .inl (M 4)))]) rfl (by decide) rfl hl.1 rfl (Nat.le_of_ble_eq_true rfl) d_X_stack_4 (fun H locs hP hD hS => ?_)
  exact hret _ _ _ _ d_X_stack_7 hP hD hS
set_option maxHeartbeats 4000000 in
set_option maxRecDepth 100000 in
theorem c_X_held (l : Launch) (D : va_G) (cI : ClassId) (cG : ClassId) (h0 : Nat) (hp : Nat) (ow : Nat) (wo : Nat) (pl : Nat) (po : Nat) (en : Nat) (eo : Nat) (sb : Nat) (rr : Nat → Nat) (fo : lc_A) (fw : lc_A) (md : Nat) (fp : lc_A) (ht : Nat) (fe : lc_A) (M : Nat → lc_A) (len : Nat) (rk : Int32) (x : Int32) (hht : ht ≤ 8) : zz_MI l y_X_held b_X_held 2 .int ({ frames := 1, cells := 0, slots := 0, locals := 21 } : Room) D [(cI, .int), (cG, .array .int)] [.ref h0, .int x] [(h0, .inr (0, [.ref hp, .ref pl, .ref en, .int rk])), (hp, .inr (1, [.ref ow, .ref wo, .int (nI md)])), (ow, .inl (cI, 48, .inl fo)), (wo, .inl (cI, 48, .inl fw)), (pl, .inr (2, [.ref po, .int (nI ht)])), (po, .inl (cI, 8, .inl fp)), (en, .inr (3, [.ref eo, .ref sb, .int (nI len)])), (eo, .inl (cI, 5, .inl fe)), (sb, .inl (cG, 5, .inr (.inr (.inr (.inr (fun uu => some (rr uu))))))), (rr 0, .inl (cI, 4, .inl (M 0))), (rr 1, .inl (cI, 4, .inl (M 1))), (rr 2, .inl (cI, 4, .inl (M 2))), (rr 3, .inl (cI, 4, .inl (M 3))), (rr 4, .inl (cI, 4, .inl (M 4)))] (ax_held fp ht x) [(h0, .inr (0, [.ref hp, .ref pl, .ref en, .int rk])), (hp, .inr (1, [.ref ow, .ref wo, .int (nI md)])), (ow, .inl (cI, 48, .inl fo)), (wo, .inl (cI, 48, .inl fw)), (pl, .inr (2, [.ref po, .int (nI ht)])), (po, .inl (cI, 8, .inl fp)), (en, .inr (3, [.ref eo, .ref sb, .int (nI len)])), (eo, .inl (cI, 5, .inl fe)), (sb, .inl (cG, 5, .inr (.inr (.inr (.inr (fun uu => some (rr uu))))))), (rr 0, .inl (cI, 4, .inl (M 0))), (rr 1, .inl (cI, 4, .inl (M 1))), (rr 2, .inl (cI, 4, .inl (M 2))), (rr 3, .inl (cI, 4, .inl (M 3))), (rr 4, .inl (cI, 4, .inl (M 4)))] := by
  refine zz_MI_of (by decide) (Nat.le_of_ble_eq_true rfl) (vp_nar_int _) ?_
  intro p e s m args below meth c A ls Q hx hb hml hown hts hK hP hD hS hA hl hret
  have hown : s.vm.findClass R_X = some m.cls := hown
  have hl : lv_has ls 2 [(0, .ref h0), (1, .int x)] := hl
  refine lv_aload_n hx hb d_X_held_0 rfl (lv_at hl 0 rfl) ?_
  refine va_get (D := D) (ci := 0) (v := .ref pl) (C := R_X) (T := F_X) (N := 4) hx hb hts i_X hown hK hP 0 rfl rfl 1 (by decide) (hts _ kw_33) (fun _ h9 => h9) rfl d_X_held_1 ?_
  refine lv_iload_n hx hb d_X_held_4 rfl (lv_at hl 1 rfl) ?_
  refine zz_callI (np := 1) hx hb hml hown hts hK hP hD hS hA (c_Places_has l D cI pl po fp ht x ) (zz_gv kw_35 kw_36 kw_37 kw_38 kc_34) (by decide +kernel) rfl rfl ⟨Nat.le_of_ble_eq_true rfl, Nat.le_of_ble_eq_true rfl⟩ ⟨Nat.zero_le _, Nat.zero_le _⟩ [0] rfl 4 2 rfl rfl rfl [4, 5] [0, 1, 2, 3, 6, 7, 8, 9, 10, 11, 12, 13] [0, 1, 2, 3, 12, 13, 4, 5, 6, 7, 8, 9, 10, 11] rfl (by decide) (wr := [(h0, .inr (0, [.ref hp, .ref pl, .ref en, .int rk])), (hp, .inr (1, [.ref ow, .ref wo, .int (nI md)])), (ow, .inl (cI, 48, .inl fo)), (wo, .inl (cI, 48, .inl fw)), (en, .inr (3, [.ref eo, .ref sb, .int (nI len)])), (eo, .inl (cI, 5, .inl fe)), (sb, .inl (cG, 5, .inr (.inr (.inr (.inr (fun uu => some (rr uu))))))), (rr 0, .inl (cI, 4, .inl (M 0))), (rr 1, .inl (cI, 4, .inl (M 1))), (rr 2, .inl (cI, 4, .inl (M 2))), (rr 3, .inl (cI, 4, .inl (M 3))), (rr 4, .inl (cI, 4, .inl (M 4)))]) rfl (by decide) (by decide) (ws' := [(h0, .inr (0, [.ref hp, .ref pl, .ref en, .int rk])), (hp, .inr (1, [.ref ow, .ref wo, .int (nI md)])), (ow, .inl (cI, 48, .inl fo)), (wo, .inl (cI, 48, .inl fw)), (pl, .inr (2, [.ref po, .int (nI ht)])), (po, .inl (cI, 8, .inl fp)), (en, .inr (3, [.ref eo, .ref sb, .int (nI len)])), (eo, .inl (cI, 5, .inl fe)), (sb, .inl (cG, 5, .inr (.inr (.inr (.inr (fun uu => some (rr uu))))))), (rr 0, .inl (cI, 4, .inl (M 0))), (rr 1, .inl (cI, 4, .inl (M 1))), (rr 2, .inl (cI, 4, .inl (M 2))), (rr 3, .inl (cI, 4, .inl (M 3))), (rr 4, .inl (cI, 4, .inl (M 4)))]) rfl (by decide) rfl hl.1 rfl (Nat.le_of_ble_eq_true rfl) d_X_held_5 (fun H locs hP hD hS => ?_)
  refine zz_pl (x := x) (n := ht) (by omega) (fun h5 => ?_) (fun j5 hj5 ex5 h5 => ?_)
  · skip
    refine zz_if_eq (tgt := 22) hx hb (by omega) d_X_held_8 (by decide) (fun c8 => ?_) (fun c8 => ?_)
    · skip
      refine lv_iconst (v := (-1)) hx hb d_X_held_22 (by decide +kernel) ?_
      refine zz_top (z := ax_held fp ht x) (by simp only [ax_held, *]) ?_
      exact hret _ _ _ _ d_X_held_23 hP hD hS
    · skip
      exact absurd c8 (by omega)
  · skip
    subst ex5
    refine zz_if_eq (tgt := 22) hx hb (by omega) d_X_held_8 (by decide) (fun c8 => ?_) (fun c8 => ?_)
    · skip
      exact absurd c8 (by omega)
    · skip
      refine lv_aload_n hx hb d_X_held_11 rfl (lv_at hl 0 rfl) ?_
      refine va_get (D := D) (ci := 0) (v := .ref pl) (C := R_X) (T := F_X) (N := 4) hx hb hts i_X hown hK hP 0 rfl rfl 1 (by decide) (hts _ kw_33) (fun _ h9 => h9) rfl d_X_held_12 ?_
      refine lv_iload_n hx hb d_X_held_15 rfl (lv_at hl 1 rfl) ?_
      refine zz_callI (np := 1) hx hb hml hown hts hK hP hD hS hA (c_Places_at l D cI pl po fp ht j5 (by omega)) (zz_gv kw_41 kw_42 kw_43 kw_38 kc_40) (by decide +kernel) rfl rfl ⟨Nat.le_of_ble_eq_true rfl, Nat.le_of_ble_eq_true rfl⟩ ⟨Nat.zero_le _, Nat.zero_le _⟩ [0] rfl 4 2 rfl rfl rfl [4, 5] [0, 1, 2, 3, 6, 7, 8, 9, 10, 11, 12, 13] [0, 1, 2, 3, 12, 13, 4, 5, 6, 7, 8, 9, 10, 11] rfl (by decide) (wr := [(h0, .inr (0, [.ref hp, .ref pl, .ref en, .int rk])), (hp, .inr (1, [.ref ow, .ref wo, .int (nI md)])), (ow, .inl (cI, 48, .inl fo)), (wo, .inl (cI, 48, .inl fw)), (en, .inr (3, [.ref eo, .ref sb, .int (nI len)])), (eo, .inl (cI, 5, .inl fe)), (sb, .inl (cG, 5, .inr (.inr (.inr (.inr (fun uu => some (rr uu))))))), (rr 0, .inl (cI, 4, .inl (M 0))), (rr 1, .inl (cI, 4, .inl (M 1))), (rr 2, .inl (cI, 4, .inl (M 2))), (rr 3, .inl (cI, 4, .inl (M 3))), (rr 4, .inl (cI, 4, .inl (M 4)))]) rfl (by decide) (by decide) (ws' := [(h0, .inr (0, [.ref hp, .ref pl, .ref en, .int rk])), (hp, .inr (1, [.ref ow, .ref wo, .int (nI md)])), (ow, .inl (cI, 48, .inl fo)), (wo, .inl (cI, 48, .inl fw)), (pl, .inr (2, [.ref po, .int (nI ht)])), (po, .inl (cI, 8, .inl fp)), (en, .inr (3, [.ref eo, .ref sb, .int (nI len)])), (eo, .inl (cI, 5, .inl fe)), (sb, .inl (cG, 5, .inr (.inr (.inr (.inr (fun uu => some (rr uu))))))), (rr 0, .inl (cI, 4, .inl (M 0))), (rr 1, .inl (cI, 4, .inl (M 1))), (rr 2, .inl (cI, 4, .inl (M 2))), (rr 3, .inl (cI, 4, .inl (M 3))), (rr 4, .inl (cI, 4, .inl (M 4)))]) rfl (by decide) rfl hl.1 rfl (Nat.le_of_ble_eq_true rfl) d_X_held_16 (fun H locs hP hD hS => ?_)
      refine lv_goto (tgt := 23) hx hb d_X_held_19 (by decide) ?_
      refine zz_top (z := ax_held fp ht (nI j5)) (by simp only [ax_held, *]) ?_
      exact hret _ _ _ _ d_X_held_23 hP hD hS
set_option maxHeartbeats 4000000 in
set_option maxRecDepth 100000 in
theorem c_X_alive (l : Launch) (D : va_G) (cI : ClassId) (cG : ClassId) (h0 : Nat) (hp : Nat) (ow : Nat) (wo : Nat) (pl : Nat) (po : Nat) (en : Nat) (eo : Nat) (sb : Nat) (rr : Nat → Nat) (fo : lc_A) (fw : lc_A) (md : Nat) (fp : lc_A) (ht : Nat) (fe : lc_A) (M : Nat → lc_A) (len : Nat) (rk : Int32)  : zz_MI l y_X_alive b_X_alive 1 .int ({ frames := 2, cells := 0, slots := 0, locals := 43 } : Room) D [(cI, .int), (cG, .array .int)] [.ref h0] [(h0, .inr (0, [.ref hp, .ref pl, .ref en, .int rk])), (hp, .inr (1, [.ref ow, .ref wo, .int (nI md)])), (ow, .inl (cI, 48, .inl fo)), (wo, .inl (cI, 48, .inl fw)), (pl, .inr (2, [.ref po, .int (nI ht)])), (po, .inl (cI, 8, .inl fp)), (en, .inr (3, [.ref eo, .ref sb, .int (nI len)])), (eo, .inl (cI, 5, .inl fe)), (sb, .inl (cG, 5, .inr (.inr (.inr (.inr (fun uu => some (rr uu))))))), (rr 0, .inl (cI, 4, .inl (M 0))), (rr 1, .inl (cI, 4, .inl (M 1))), (rr 2, .inl (cI, 4, .inl (M 2))), (rr 3, .inl (cI, 4, .inl (M 3))), (rr 4, .inl (cI, 4, .inl (M 4)))] (nI (lc_ct (lc_isF fo) 48)) [(h0, .inr (0, [.ref hp, .ref pl, .ref en, .int rk])), (hp, .inr (1, [.ref ow, .ref wo, .int (nI md)])), (ow, .inl (cI, 48, .inl fo)), (wo, .inl (cI, 48, .inl fw)), (pl, .inr (2, [.ref po, .int (nI ht)])), (po, .inl (cI, 8, .inl fp)), (en, .inr (3, [.ref eo, .ref sb, .int (nI len)])), (eo, .inl (cI, 5, .inl fe)), (sb, .inl (cG, 5, .inr (.inr (.inr (.inr (fun uu => some (rr uu))))))), (rr 0, .inl (cI, 4, .inl (M 0))), (rr 1, .inl (cI, 4, .inl (M 1))), (rr 2, .inl (cI, 4, .inl (M 2))), (rr 3, .inl (cI, 4, .inl (M 3))), (rr 4, .inl (cI, 4, .inl (M 4)))] := by
  refine zz_MI_of (by decide) (Nat.le_of_ble_eq_true rfl) (vp_nar_int _) ?_
  intro p e s m args below meth c A ls Q hx hb hml hown hts hK hP hD hS hA hl hret
  have hown : s.vm.findClass R_X = some m.cls := hown
  have hl : lv_has ls 1 [(0, .ref h0)] := hl
  refine lv_aload_n hx hb d_X_alive_0 rfl (lv_at hl 0 rfl) ?_
  refine va_get (D := D) (ci := 0) (v := .ref hp) (C := R_X) (T := F_X) (N := 4) hx hb hts i_X hown hK hP 0 rfl rfl 0 (by decide) (hts _ kw_39) (fun _ h9 => h9) rfl d_X_alive_1 ?_
  refine zz_callI (np := 0) hx hb hml hown hts hK hP hD hS hA (c_Heap_objects l D cI hp ow wo fo fw md ) (zz_gv kw_154 kw_155 kw_156 kw_6 kc_153) (by decide +kernel) rfl rfl ⟨Nat.le_of_ble_eq_true rfl, Nat.le_of_ble_eq_true rfl⟩ ⟨Nat.zero_le _, Nat.zero_le _⟩ [0] rfl 1 1 rfl rfl rfl [1, 2, 3] [0, 4, 5, 6, 7, 8, 9, 10, 11, 12, 13] [0, 11, 12, 13, 1, 2, 3, 4, 5, 6, 7, 8, 9, 10] rfl (by decide) (wr := [(h0, .inr (0, [.ref hp, .ref pl, .ref en, .int rk])), (pl, .inr (2, [.ref po, .int (nI ht)])), (po, .inl (cI, 8, .inl fp)), (en, .inr (3, [.ref eo, .ref sb, .int (nI len)])), (eo, .inl (cI, 5, .inl fe)), (sb, .inl (cG, 5, .inr (.inr (.inr (.inr (fun uu => some (rr uu))))))), (rr 0, .inl (cI, 4, .inl (M 0))), (rr 1, .inl (cI, 4, .inl (M 1))), (rr 2, .inl (cI, 4, .inl (M 2))), (rr 3, .inl (cI, 4, .inl (M 3))), (rr 4, .inl (cI, 4, .inl (M 4)))]) rfl (by decide) (by decide) (ws' := [(h0, .inr (0, [.ref hp, .ref pl, .ref en, .int rk])), (hp, .inr (1, [.ref ow, .ref wo, .int (nI md)])), (ow, .inl (cI, 48, .inl fo)), (wo, .inl (cI, 48, .inl fw)), (pl, .inr (2, [.ref po, .int (nI ht)])), (po, .inl (cI, 8, .inl fp)), (en, .inr (3, [.ref eo, .ref sb, .int (nI len)])), (eo, .inl (cI, 5, .inl fe)), (sb, .inl (cG, 5, .inr (.inr (.inr (.inr (fun uu => some (rr uu))))))), (rr 0, .inl (cI, 4, .inl (M 0))), (rr 1, .inl (cI, 4, .inl (M 1))), (rr 2, .inl (cI, 4, .inl (M 2))), (rr 3, .inl (cI, 4, .inl (M 3))), (rr 4, .inl (cI, 4, .inl (M 4)))]) rfl (by decide) rfl hl.1 rfl (Nat.le_of_ble_eq_true rfl) d_X_alive_4 (fun H locs hP hD hS => ?_)
  exact hret _ _ _ _ d_X_alive_7 hP hD hS
set_option maxHeartbeats 4000000 in
set_option maxRecDepth 100000 in
theorem c_X_count (l : Launch) (D : va_G) (cI : ClassId) (cG : ClassId) (h0 : Nat) (hp : Nat) (ow : Nat) (wo : Nat) (pl : Nat) (po : Nat) (en : Nat) (eo : Nat) (sb : Nat) (rr : Nat → Nat) (fo : lc_A) (fw : lc_A) (md : Nat) (fp : lc_A) (ht : Nat) (fe : lc_A) (M : Nat → lc_A) (len : Nat) (rk : Int32) (x : Int32)  : zz_MI l y_X_count b_X_count 3 .int ({ frames := 1, cells := 0, slots := 0, locals := 22 } : Room) D [(cI, .int), (cG, .array .int)] [.ref h0, .int x] [(h0, .inr (0, [.ref hp, .ref pl, .ref en, .int rk])), (hp, .inr (1, [.ref ow, .ref wo, .int (nI md)])), (ow, .inl (cI, 48, .inl fo)), (wo, .inl (cI, 48, .inl fw)), (pl, .inr (2, [.ref po, .int (nI ht)])), (po, .inl (cI, 8, .inl fp)), (en, .inr (3, [.ref eo, .ref sb, .int (nI len)])), (eo, .inl (cI, 5, .inl fe)), (sb, .inl (cG, 5, .inr (.inr (.inr (.inr (fun uu => some (rr uu))))))), (rr 0, .inl (cI, 4, .inl (M 0))), (rr 1, .inl (cI, 4, .inl (M 1))), (rr 2, .inl (cI, 4, .inl (M 2))), (rr 3, .inl (cI, 4, .inl (M 3))), (rr 4, .inl (cI, 4, .inl (M 4)))] (ax_count fo fw x) [(h0, .inr (0, [.ref hp, .ref pl, .ref en, .int rk])), (hp, .inr (1, [.ref ow, .ref wo, .int (nI md)])), (ow, .inl (cI, 48, .inl fo)), (wo, .inl (cI, 48, .inl fw)), (pl, .inr (2, [.ref po, .int (nI ht)])), (po, .inl (cI, 8, .inl fp)), (en, .inr (3, [.ref eo, .ref sb, .int (nI len)])), (eo, .inl (cI, 5, .inl fe)), (sb, .inl (cG, 5, .inr (.inr (.inr (.inr (fun uu => some (rr uu))))))), (rr 0, .inl (cI, 4, .inl (M 0))), (rr 1, .inl (cI, 4, .inl (M 1))), (rr 2, .inl (cI, 4, .inl (M 2))), (rr 3, .inl (cI, 4, .inl (M 3))), (rr 4, .inl (cI, 4, .inl (M 4)))] := by
  refine zz_MI_of (by decide) (Nat.le_of_ble_eq_true rfl) (vp_nar_int _) ?_
  intro p e s m args below meth c A ls Q hx hb hml hown hts hK hP hD hS hA hl hret
  have hown : s.vm.findClass R_X = some m.cls := hown
  have hl : lv_has ls 3 [(0, .ref h0), (1, .int x)] := hl
  refine lv_aload_n hx hb d_X_count_0 rfl (lv_at hl 0 rfl) ?_
  refine va_get (D := D) (ci := 0) (v := .ref hp) (C := R_X) (T := F_X) (N := 4) hx hb hts i_X hown hK hP 0 rfl rfl 0 (by decide) (hts _ kw_39) (fun _ h9 => h9) rfl d_X_count_1 ?_
  refine lv_iload_n hx hb d_X_count_4 rfl (lv_at hl 1 rfl) ?_
  refine zz_callI (np := 1) hx hb hml hown hts hK hP hD hS hA (c_Heap_firstCellOf l D cI hp ow wo fo fw md x ) (zz_gv kw_44 kw_17 kw_18 kw_6 kc_15) (by decide +kernel) rfl rfl ⟨Nat.le_of_ble_eq_true rfl, Nat.le_of_ble_eq_true rfl⟩ ⟨Nat.zero_le _, Nat.zero_le _⟩ [0] rfl 1 1 rfl rfl rfl [1, 2, 3] [0, 4, 5, 6, 7, 8, 9, 10, 11, 12, 13] [0, 11, 12, 13, 1, 2, 3, 4, 5, 6, 7, 8, 9, 10] rfl (by decide) (wr := [(h0, .inr (0, [.ref hp, .ref pl, .ref en, .int rk])), (pl, .inr (2, [.ref po, .int (nI ht)])), (po, .inl (cI, 8, .inl fp)), (en, .inr (3, [.ref eo, .ref sb, .int (nI len)])), (eo, .inl (cI, 5, .inl fe)), (sb, .inl (cG, 5, .inr (.inr (.inr (.inr (fun uu => some (rr uu))))))), (rr 0, .inl (cI, 4, .inl (M 0))), (rr 1, .inl (cI, 4, .inl (M 1))), (rr 2, .inl (cI, 4, .inl (M 2))), (rr 3, .inl (cI, 4, .inl (M 3))), (rr 4, .inl (cI, 4, .inl (M 4)))]) rfl (by decide) (by decide) (ws' := [(h0, .inr (0, [.ref hp, .ref pl, .ref en, .int rk])), (hp, .inr (1, [.ref ow, .ref wo, .int (nI md)])), (ow, .inl (cI, 48, .inl fo)), (wo, .inl (cI, 48, .inl fw)), (pl, .inr (2, [.ref po, .int (nI ht)])), (po, .inl (cI, 8, .inl fp)), (en, .inr (3, [.ref eo, .ref sb, .int (nI len)])), (eo, .inl (cI, 5, .inl fe)), (sb, .inl (cG, 5, .inr (.inr (.inr (.inr (fun uu => some (rr uu))))))), (rr 0, .inl (cI, 4, .inl (M 0))), (rr 1, .inl (cI, 4, .inl (M 1))), (rr 2, .inl (cI, 4, .inl (M 2))), (rr 3, .inl (cI, 4, .inl (M 3))), (rr 4, .inl (cI, 4, .inl (M 4)))]) rfl (by decide) rfl hl.1 rfl (Nat.le_of_ble_eq_true rfl) d_X_count_5 (fun H locs hP hD hS => ?_)
  refine zz_oI (fun h5 => ?_) (fun a h5 => ?_)
  · skip
    refine lv_istore_n (lv' := [(2, .int (-1)), (0, .ref h0), (1, .int x)]) hx hb d_X_count_8 rfl hl (by decide) rfl (fun ls hl => ?_)
    refine lv_iload_n hx hb d_X_count_9 rfl (lv_at hl 0 rfl) ?_
    refine lv_iconst (v := (-1)) hx hb d_X_count_10 (by decide +kernel) ?_
    refine lv_icmp_ne (tgt := 19) hx hb d_X_count_11 (by decide) (fun c11 => ?_) (fun c11 => ?_)
    · skip
      exact absurd rfl c11
    · skip
      refine lv_bipush (v := (-3)) hx hb d_X_count_14 (by decide +kernel) ?_
      refine lv_goto (tgt := 27) hx hb d_X_count_16 (by decide) ?_
      refine zz_top (z := ax_count fo fw x) (by simp only [ax_count, *]) ?_
      exact hret _ _ _ _ d_X_count_27 hP hD hS
  · skip
    have ha := (lc_first_lt h5).1
    have hsa := lc_sa_le fo a
    refine lv_istore_n (lv' := [(2, .int (nI a)), (0, .ref h0), (1, .int x)]) hx hb d_X_count_8 rfl hl (by decide) rfl (fun ls hl => ?_)
    refine lv_iload_n hx hb d_X_count_9 rfl (lv_at hl 0 rfl) ?_
    refine lv_iconst (v := (-1)) hx hb d_X_count_10 (by decide +kernel) ?_
    refine lv_icmp_ne (tgt := 19) hx hb d_X_count_11 (by decide) (fun c11 => ?_) (fun c11 => ?_)
    · skip
      refine lv_aload_n hx hb d_X_count_19 rfl (lv_at hl 1 rfl) ?_
      refine va_get (D := D) (ci := 0) (v := .ref hp) (C := R_X) (T := F_X) (N := 4) hx hb hts i_X hown hK hP 0 rfl rfl 0 (by decide) (hts _ kw_39) (fun _ h9 => h9) rfl d_X_count_20 ?_
      refine lv_iload_n hx hb d_X_count_23 rfl (lv_at hl 0 rfl) ?_
      refine zz_callI (np := 1) hx hb hml hown hts hK hP hD hS hA (c_Heap_countAt l D cI hp ow wo fo fw md a (by omega)) (zz_gv kw_158 kw_159 kw_160 kw_6 kc_157) (by decide +kernel) rfl rfl ⟨Nat.le_of_ble_eq_true rfl, Nat.le_of_ble_eq_true rfl⟩ ⟨Nat.zero_le _, Nat.zero_le _⟩ [0] rfl 1 1 rfl rfl rfl [1, 2, 3] [0, 4, 5, 6, 7, 8, 9, 10, 11, 12, 13] [0, 11, 12, 13, 1, 2, 3, 4, 5, 6, 7, 8, 9, 10] rfl (by decide) (wr := [(h0, .inr (0, [.ref hp, .ref pl, .ref en, .int rk])), (pl, .inr (2, [.ref po, .int (nI ht)])), (po, .inl (cI, 8, .inl fp)), (en, .inr (3, [.ref eo, .ref sb, .int (nI len)])), (eo, .inl (cI, 5, .inl fe)), (sb, .inl (cG, 5, .inr (.inr (.inr (.inr (fun uu => some (rr uu))))))), (rr 0, .inl (cI, 4, .inl (M 0))), (rr 1, .inl (cI, 4, .inl (M 1))), (rr 2, .inl (cI, 4, .inl (M 2))), (rr 3, .inl (cI, 4, .inl (M 3))), (rr 4, .inl (cI, 4, .inl (M 4)))]) rfl (by decide) (by decide) (ws' := [(h0, .inr (0, [.ref hp, .ref pl, .ref en, .int rk])), (hp, .inr (1, [.ref ow, .ref wo, .int (nI md)])), (ow, .inl (cI, 48, .inl fo)), (wo, .inl (cI, 48, .inl fw)), (pl, .inr (2, [.ref po, .int (nI ht)])), (po, .inl (cI, 8, .inl fp)), (en, .inr (3, [.ref eo, .ref sb, .int (nI len)])), (eo, .inl (cI, 5, .inl fe)), (sb, .inl (cG, 5, .inr (.inr (.inr (.inr (fun uu => some (rr uu))))))), (rr 0, .inl (cI, 4, .inl (M 0))), (rr 1, .inl (cI, 4, .inl (M 1))), (rr 2, .inl (cI, 4, .inl (M 2))), (rr 3, .inl (cI, 4, .inl (M 3))), (rr 4, .inl (cI, 4, .inl (M 4)))]) rfl (by decide) rfl hl.1 rfl (Nat.le_of_ble_eq_true rfl) d_X_count_24 (fun H locs hP hD hS => ?_)
      refine zz_top (z := ax_count fo fw x) (by simp only [ax_count, *]) ?_
      exact hret _ _ _ _ d_X_count_27 hP hD hS
    · skip
      exact absurd c11 (zz_nm1 (by omega))
set_option maxHeartbeats 4000000 in
set_option maxRecDepth 100000 in
theorem c_X_cell (l : Launch) (D : va_G) (cI : ClassId) (cG : ClassId) (h0 : Nat) (hp : Nat) (ow : Nat) (wo : Nat) (pl : Nat) (po : Nat) (en : Nat) (eo : Nat) (sb : Nat) (rr : Nat → Nat) (fo : lc_A) (fw : lc_A) (md : Nat) (fp : lc_A) (ht : Nat) (fe : lc_A) (M : Nat → lc_A) (len : Nat) (rk : Int32) (x : Int32)  : zz_MI l y_X_cell b_X_cell 3 .int ({ frames := 1, cells := 0, slots := 0, locals := 22 } : Room) D [(cI, .int), (cG, .array .int)] [.ref h0, .int x] [(h0, .inr (0, [.ref hp, .ref pl, .ref en, .int rk])), (hp, .inr (1, [.ref ow, .ref wo, .int (nI md)])), (ow, .inl (cI, 48, .inl fo)), (wo, .inl (cI, 48, .inl fw)), (pl, .inr (2, [.ref po, .int (nI ht)])), (po, .inl (cI, 8, .inl fp)), (en, .inr (3, [.ref eo, .ref sb, .int (nI len)])), (eo, .inl (cI, 5, .inl fe)), (sb, .inl (cG, 5, .inr (.inr (.inr (.inr (fun uu => some (rr uu))))))), (rr 0, .inl (cI, 4, .inl (M 0))), (rr 1, .inl (cI, 4, .inl (M 1))), (rr 2, .inl (cI, 4, .inl (M 2))), (rr 3, .inl (cI, 4, .inl (M 3))), (rr 4, .inl (cI, 4, .inl (M 4)))] (ax_cell fo x) [(h0, .inr (0, [.ref hp, .ref pl, .ref en, .int rk])), (hp, .inr (1, [.ref ow, .ref wo, .int (nI md)])), (ow, .inl (cI, 48, .inl fo)), (wo, .inl (cI, 48, .inl fw)), (pl, .inr (2, [.ref po, .int (nI ht)])), (po, .inl (cI, 8, .inl fp)), (en, .inr (3, [.ref eo, .ref sb, .int (nI len)])), (eo, .inl (cI, 5, .inl fe)), (sb, .inl (cG, 5, .inr (.inr (.inr (.inr (fun uu => some (rr uu))))))), (rr 0, .inl (cI, 4, .inl (M 0))), (rr 1, .inl (cI, 4, .inl (M 1))), (rr 2, .inl (cI, 4, .inl (M 2))), (rr 3, .inl (cI, 4, .inl (M 3))), (rr 4, .inl (cI, 4, .inl (M 4)))] := by
  refine zz_MI_of (by decide) (Nat.le_of_ble_eq_true rfl) (vp_nar_int _) ?_
  intro p e s m args below meth c A ls Q hx hb hml hown hts hK hP hD hS hA hl hret
  have hown : s.vm.findClass R_X = some m.cls := hown
  have hl : lv_has ls 3 [(0, .ref h0), (1, .int x)] := hl
  refine lv_aload_n hx hb d_X_cell_0 rfl (lv_at hl 0 rfl) ?_
  refine va_get (D := D) (ci := 0) (v := .ref hp) (C := R_X) (T := F_X) (N := 4) hx hb hts i_X hown hK hP 0 rfl rfl 0 (by decide) (hts _ kw_39) (fun _ h9 => h9) rfl d_X_cell_1 ?_
  refine lv_iload_n hx hb d_X_cell_4 rfl (lv_at hl 1 rfl) ?_
  refine zz_callI (np := 1) hx hb hml hown hts hK hP hD hS hA (c_Heap_firstCellOf l D cI hp ow wo fo fw md x ) (zz_gv kw_44 kw_17 kw_18 kw_6 kc_15) (by decide +kernel) rfl rfl ⟨Nat.le_of_ble_eq_true rfl, Nat.le_of_ble_eq_true rfl⟩ ⟨Nat.zero_le _, Nat.zero_le _⟩ [0] rfl 1 1 rfl rfl rfl [1, 2, 3] [0, 4, 5, 6, 7, 8, 9, 10, 11, 12, 13] [0, 11, 12, 13, 1, 2, 3, 4, 5, 6, 7, 8, 9, 10] rfl (by decide) (wr := [(h0, .inr (0, [.ref hp, .ref pl, .ref en, .int rk])), (pl, .inr (2, [.ref po, .int (nI ht)])), (po, .inl (cI, 8, .inl fp)), (en, .inr (3, [.ref eo, .ref sb, .int (nI len)])), (eo, .inl (cI, 5, .inl fe)), (sb, .inl (cG, 5, .inr (.inr (.inr (.inr (fun uu => some (rr uu))))))), (rr 0, .inl (cI, 4, .inl (M 0))), (rr 1, .inl (cI, 4, .inl (M 1))), (rr 2, .inl (cI, 4, .inl (M 2))), (rr 3, .inl (cI, 4, .inl (M 3))), (rr 4, .inl (cI, 4, .inl (M 4)))]) rfl (by decide) (by decide) (ws' := [(h0, .inr (0, [.ref hp, .ref pl, .ref en, .int rk])), (hp, .inr (1, [.ref ow, .ref wo, .int (nI md)])), (ow, .inl (cI, 48, .inl fo)), (wo, .inl (cI, 48, .inl fw)), (pl, .inr (2, [.ref po, .int (nI ht)])), (po, .inl (cI, 8, .inl fp)), (en, .inr (3, [.ref eo, .ref sb, .int (nI len)])), (eo, .inl (cI, 5, .inl fe)), (sb, .inl (cG, 5, .inr (.inr (.inr (.inr (fun uu => some (rr uu))))))), (rr 0, .inl (cI, 4, .inl (M 0))), (rr 1, .inl (cI, 4, .inl (M 1))), (rr 2, .inl (cI, 4, .inl (M 2))), (rr 3, .inl (cI, 4, .inl (M 3))), (rr 4, .inl (cI, 4, .inl (M 4)))]) rfl (by decide) rfl hl.1 rfl (Nat.le_of_ble_eq_true rfl) d_X_cell_5 (fun H locs hP hD hS => ?_)
  refine zz_oI (fun h5 => ?_) (fun a h5 => ?_)
  · skip
    refine lv_istore_n (lv' := [(2, .int (-1)), (0, .ref h0), (1, .int x)]) hx hb d_X_cell_8 rfl hl (by decide) rfl (fun ls hl => ?_)
    refine lv_iload_n hx hb d_X_cell_9 rfl (lv_at hl 0 rfl) ?_
    refine lv_iconst (v := (-1)) hx hb d_X_cell_10 (by decide +kernel) ?_
    refine lv_icmp_ne (tgt := 19) hx hb d_X_cell_11 (by decide) (fun c11 => ?_) (fun c11 => ?_)
    · skip
      exact absurd rfl c11
    · skip
      refine lv_bipush (v := (-3)) hx hb d_X_cell_14 (by decide +kernel) ?_
      refine lv_goto (tgt := 20) hx hb d_X_cell_16 (by decide) ?_
      refine zz_top (z := ax_cell fo x) (by simp only [ax_cell, *]) ?_
      exact hret _ _ _ _ d_X_cell_20 hP hD hS
  · skip
    have ha := (lc_first_lt h5).1
    have hsa := lc_sa_le fo a
    refine lv_istore_n (lv' := [(2, .int (nI a)), (0, .ref h0), (1, .int x)]) hx hb d_X_cell_8 rfl hl (by decide) rfl (fun ls hl => ?_)
    refine lv_iload_n hx hb d_X_cell_9 rfl (lv_at hl 0 rfl) ?_
    refine lv_iconst (v := (-1)) hx hb d_X_cell_10 (by decide +kernel) ?_
    refine lv_icmp_ne (tgt := 19) hx hb d_X_cell_11 (by decide) (fun c11 => ?_) (fun c11 => ?_)
    · skip
      refine lv_iload_n hx hb d_X_cell_19 rfl (lv_at hl 0 rfl) ?_
      refine zz_top (z := ax_cell fo x) (by simp only [ax_cell, *]) ?_
      exact hret _ _ _ _ d_X_cell_20 hP hD hS
    · skip
      exact absurd c11 (zz_nm1 (by omega))
set_option maxHeartbeats 4000000 in
set_option maxRecDepth 100000 in
theorem c_X_slot (l : Launch) (D : va_G) (cI : ClassId) (cG : ClassId) (h0 : Nat) (hp : Nat) (ow : Nat) (wo : Nat) (pl : Nat) (po : Nat) (en : Nat) (eo : Nat) (sb : Nat) (rr : Nat → Nat) (fo : lc_A) (fw : lc_A) (md : Nat) (fp : lc_A) (ht : Nat) (fe : lc_A) (M : Nat → lc_A) (len : Nat) (rk : Int32) (x : Int32) (z : Int32)  : zz_MI l y_X_slot b_X_slot 4 .int ({ frames := 2, cells := 0, slots := 0, locals := 45 } : Room) D [(cI, .int), (cG, .array .int)] [.ref h0, .int x, .int z] [(h0, .inr (0, [.ref hp, .ref pl, .ref en, .int rk])), (hp, .inr (1, [.ref ow, .ref wo, .int (nI md)])), (ow, .inl (cI, 48, .inl fo)), (wo, .inl (cI, 48, .inl fw)), (pl, .inr (2, [.ref po, .int (nI ht)])), (po, .inl (cI, 8, .inl fp)), (en, .inr (3, [.ref eo, .ref sb, .int (nI len)])), (eo, .inl (cI, 5, .inl fe)), (sb, .inl (cG, 5, .inr (.inr (.inr (.inr (fun uu => some (rr uu))))))), (rr 0, .inl (cI, 4, .inl (M 0))), (rr 1, .inl (cI, 4, .inl (M 1))), (rr 2, .inl (cI, 4, .inl (M 2))), (rr 3, .inl (cI, 4, .inl (M 3))), (rr 4, .inl (cI, 4, .inl (M 4)))] (ax_slot fo fw x z) [(h0, .inr (0, [.ref hp, .ref pl, .ref en, .int rk])), (hp, .inr (1, [.ref ow, .ref wo, .int (nI md)])), (ow, .inl (cI, 48, .inl fo)), (wo, .inl (cI, 48, .inl fw)), (pl, .inr (2, [.ref po, .int (nI ht)])), (po, .inl (cI, 8, .inl fp)), (en, .inr (3, [.ref eo, .ref sb, .int (nI len)])), (eo, .inl (cI, 5, .inl fe)), (sb, .inl (cG, 5, .inr (.inr (.inr (.inr (fun uu => some (rr uu))))))), (rr 0, .inl (cI, 4, .inl (M 0))), (rr 1, .inl (cI, 4, .inl (M 1))), (rr 2, .inl (cI, 4, .inl (M 2))), (rr 3, .inl (cI, 4, .inl (M 3))), (rr 4, .inl (cI, 4, .inl (M 4)))] := by
  refine zz_MI_of (by decide) (Nat.le_of_ble_eq_true rfl) (vp_nar_int _) ?_
  intro p e s m args below meth c A ls Q hx hb hml hown hts hK hP hD hS hA hl hret
  have hown : s.vm.findClass R_X = some m.cls := hown
  have hl : lv_has ls 4 [(0, .ref h0), (1, .int x), (2, .int z)] := hl
  refine lv_aload_n hx hb d_X_slot_0 rfl (lv_at hl 0 rfl) ?_
  refine va_get (D := D) (ci := 0) (v := .ref hp) (C := R_X) (T := F_X) (N := 4) hx hb hts i_X hown hK hP 0 rfl rfl 0 (by decide) (hts _ kw_39) (fun _ h9 => h9) rfl d_X_slot_1 ?_
  refine lv_iload_n hx hb d_X_slot_4 rfl (lv_at hl 1 rfl) ?_
  refine zz_callI (np := 1) hx hb hml hown hts hK hP hD hS hA (c_Heap_firstCellOf l D cI hp ow wo fo fw md x ) (zz_gv kw_44 kw_17 kw_18 kw_6 kc_15) (by decide +kernel) rfl rfl ⟨Nat.le_of_ble_eq_true rfl, Nat.le_of_ble_eq_true rfl⟩ ⟨Nat.zero_le _, Nat.zero_le _⟩ [0] rfl 1 1 rfl rfl rfl [1, 2, 3] [0, 4, 5, 6, 7, 8, 9, 10, 11, 12, 13] [0, 11, 12, 13, 1, 2, 3, 4, 5, 6, 7, 8, 9, 10] rfl (by decide) (wr := [(h0, .inr (0, [.ref hp, .ref pl, .ref en, .int rk])), (pl, .inr (2, [.ref po, .int (nI ht)])), (po, .inl (cI, 8, .inl fp)), (en, .inr (3, [.ref eo, .ref sb, .int (nI len)])), (eo, .inl (cI, 5, .inl fe)), (sb, .inl (cG, 5, .inr (.inr (.inr (.inr (fun uu => some (rr uu))))))), (rr 0, .inl (cI, 4, .inl (M 0))), (rr 1, .inl (cI, 4, .inl (M 1))), (rr 2, .inl (cI, 4, .inl (M 2))), (rr 3, .inl (cI, 4, .inl (M 3))), (rr 4, .inl (cI, 4, .inl (M 4)))]) rfl (by decide) (by decide) (ws' := [(h0, .inr (0, [.ref hp, .ref pl, .ref en, .int rk])), (hp, .inr (1, [.ref ow, .ref wo, .int (nI md)])), (ow, .inl (cI, 48, .inl fo)), (wo, .inl (cI, 48, .inl fw)), (pl, .inr (2, [.ref po, .int (nI ht)])), (po, .inl (cI, 8, .inl fp)), (en, .inr (3, [.ref eo, .ref sb, .int (nI len)])), (eo, .inl (cI, 5, .inl fe)), (sb, .inl (cG, 5, .inr (.inr (.inr (.inr (fun uu => some (rr uu))))))), (rr 0, .inl (cI, 4, .inl (M 0))), (rr 1, .inl (cI, 4, .inl (M 1))), (rr 2, .inl (cI, 4, .inl (M 2))), (rr 3, .inl (cI, 4, .inl (M 3))), (rr 4, .inl (cI, 4, .inl (M 4)))]) rfl (by decide) rfl hl.1 rfl (Nat.le_of_ble_eq_true rfl) d_X_slot_5 (fun H locs hP hD hS => ?_)
  refine zz_oI (fun h5 => ?_) (fun a h5 => ?_)
  · skip
    refine lv_istore_n (lv' := [(3, .int (-1)), (0, .ref h0), (1, .int x), (2, .int z)]) hx hb d_X_slot_8 rfl hl (by decide) rfl (fun ls hl => ?_)
    refine lv_iload_n hx hb d_X_slot_9 rfl (lv_at hl 0 rfl) ?_
    refine lv_iconst (v := (-1)) hx hb d_X_slot_10 (by decide +kernel) ?_
    refine lv_icmp_ne (tgt := 17) hx hb d_X_slot_11 (by decide) (fun c11 => ?_) (fun c11 => ?_)
    · skip
      exact absurd rfl c11
    · skip
      refine lv_bipush (v := (-3)) hx hb d_X_slot_14 (by decide +kernel) ?_
      refine zz_top (z := ax_slot fo fw x z) (by simp only [ax_slot, *]) ?_
      exact hret _ _ _ _ d_X_slot_16 hP hD hS
  · skip
    have ha := (lc_first_lt h5).1
    have hsa := lc_sa_le fo a
    refine lv_istore_n (lv' := [(3, .int (nI a)), (0, .ref h0), (1, .int x), (2, .int z)]) hx hb d_X_slot_8 rfl hl (by decide) rfl (fun ls hl => ?_)
    refine lv_iload_n hx hb d_X_slot_9 rfl (lv_at hl 0 rfl) ?_
    refine lv_iconst (v := (-1)) hx hb d_X_slot_10 (by decide +kernel) ?_
    refine lv_icmp_ne (tgt := 17) hx hb d_X_slot_11 (by decide) (fun c11 => ?_) (fun c11 => ?_)
    · skip
      refine lv_aload_n hx hb d_X_slot_17 rfl (lv_at hl 1 rfl) ?_
      refine va_get (D := D) (ci := 0) (v := .ref hp) (C := R_X) (T := F_X) (N := 4) hx hb hts i_X hown hK hP 0 rfl rfl 0 (by decide) (hts _ kw_39) (fun _ h9 => h9) rfl d_X_slot_18 ?_
      refine lv_iload_n hx hb d_X_slot_21 rfl (lv_at hl 0 rfl) ?_
      refine lv_iload_n hx hb d_X_slot_22 rfl (lv_at hl 3 rfl) ?_
      refine zz_callI (np := 2) hx hb hml hown hts hK hP hD hS hA (c_Heap_hasSlot_s l D cI hp ow wo fo fw md a z (by omega)) (zz_gv kw_134 kw_135 kw_136 kw_6 kc_133) (by decide +kernel) rfl rfl ⟨Nat.le_of_ble_eq_true rfl, Nat.le_of_ble_eq_true rfl⟩ ⟨Nat.zero_le _, Nat.zero_le _⟩ [0] rfl 1 1 rfl rfl rfl [1, 2, 3] [0, 4, 5, 6, 7, 8, 9, 10, 11, 12, 13] [0, 11, 12, 13, 1, 2, 3, 4, 5, 6, 7, 8, 9, 10] rfl (by decide) (wr := [(h0, .inr (0, [.ref hp, .ref pl, .ref en, .int rk])), (pl, .inr (2, [.ref po, .int (nI ht)])), (po, .inl (cI, 8, .inl fp)), (en, .inr (3, [.ref eo, .ref sb, .int (nI len)])), (eo, .inl (cI, 5, .inl fe)), (sb, .inl (cG, 5, .inr (.inr (.inr (.inr (fun uu => some (rr uu))))))), (rr 0, .inl (cI, 4, .inl (M 0))), (rr 1, .inl (cI, 4, .inl (M 1))), (rr 2, .inl (cI, 4, .inl (M 2))), (rr 3, .inl (cI, 4, .inl (M 3))), (rr 4, .inl (cI, 4, .inl (M 4)))]) rfl (by decide) (by decide) (ws' := [(h0, .inr (0, [.ref hp, .ref pl, .ref en, .int rk])), (hp, .inr (1, [.ref ow, .ref wo, .int (nI md)])), (ow, .inl (cI, 48, .inl fo)), (wo, .inl (cI, 48, .inl fw)), (pl, .inr (2, [.ref po, .int (nI ht)])), (po, .inl (cI, 8, .inl fp)), (en, .inr (3, [.ref eo, .ref sb, .int (nI len)])), (eo, .inl (cI, 5, .inl fe)), (sb, .inl (cG, 5, .inr (.inr (.inr (.inr (fun uu => some (rr uu))))))), (rr 0, .inl (cI, 4, .inl (M 0))), (rr 1, .inl (cI, 4, .inl (M 1))), (rr 2, .inl (cI, 4, .inl (M 2))), (rr 3, .inl (cI, 4, .inl (M 3))), (rr 4, .inl (cI, 4, .inl (M 4)))]) rfl (by decide) rfl hl.1 rfl (Nat.le_of_ble_eq_true rfl) d_X_slot_23 (fun H locs hP hD hS => ?_)
      refine zz_pl (x := z) (n := lc_sa fo a) (by omega) (fun h23 => ?_) (fun j hj23 ex23 h23 => ?_)
      · skip
        refine zz_if_eq (tgt := 41) hx hb (by omega) d_X_slot_26 (by decide) (fun c26 => ?_) (fun c26 => ?_)
        · skip
          refine lv_iconst (v := (-1)) hx hb d_X_slot_41 (by decide +kernel) ?_
          refine zz_top (z := ax_slot fo fw x z) (by simp only [ax_slot, *]) ?_
          exact hret _ _ _ _ d_X_slot_42 hP hD hS
        · skip
          exact absurd c26 (by omega)
      · skip
        subst ex23
        refine zz_if_eq (tgt := 41) hx hb (by omega) d_X_slot_26 (by decide) (fun c26 => ?_) (fun c26 => ?_)
        · skip
          exact absurd c26 (by omega)
        · skip
          refine lv_aload_n hx hb d_X_slot_29 rfl (lv_at hl 1 rfl) ?_
          refine va_get (D := D) (ci := 0) (v := .ref hp) (C := R_X) (T := F_X) (N := 4) hx hb hts i_X hown hK hP 0 rfl rfl 0 (by decide) (hts _ kw_39) (fun _ h9 => h9) rfl d_X_slot_30 ?_
          refine lv_iload_n hx hb d_X_slot_33 rfl (lv_at hl 0 rfl) ?_
          refine lv_iload_n hx hb d_X_slot_34 rfl (lv_at hl 3 rfl) ?_
          refine zz_callI (np := 2) hx hb hml hown hts hK hP hD hS hA (c_Heap_inSlot l D cI hp ow wo fo fw md a j (by omega)) (zz_gv kw_75 kw_22 kw_23 kw_6 kc_20) (by decide +kernel) rfl rfl ⟨Nat.le_of_ble_eq_true rfl, Nat.le_of_ble_eq_true rfl⟩ ⟨Nat.zero_le _, Nat.zero_le _⟩ [0] rfl 1 1 rfl rfl rfl [1, 2, 3] [0, 4, 5, 6, 7, 8, 9, 10, 11, 12, 13] [0, 11, 12, 13, 1, 2, 3, 4, 5, 6, 7, 8, 9, 10] rfl (by decide) (wr := [(h0, .inr (0, [.ref hp, .ref pl, .ref en, .int rk])), (pl, .inr (2, [.ref po, .int (nI ht)])), (po, .inl (cI, 8, .inl fp)), (en, .inr (3, [.ref eo, .ref sb, .int (nI len)])), (eo, .inl (cI, 5, .inl fe)), (sb, .inl (cG, 5, .inr (.inr (.inr (.inr (fun uu => some (rr uu))))))), (rr 0, .inl (cI, 4, .inl (M 0))), (rr 1, .inl (cI, 4, .inl (M 1))), (rr 2, .inl (cI, 4, .inl (M 2))), (rr 3, .inl (cI, 4, .inl (M 3))), (rr 4, .inl (cI, 4, .inl (M 4)))]) rfl (by decide) (by decide) (ws' := [(h0, .inr (0, [.ref hp, .ref pl, .ref en, .int rk])), (hp, .inr (1, [.ref ow, .ref wo, .int (nI md)])), (ow, .inl (cI, 48, .inl fo)), (wo, .inl (cI, 48, .inl fw)), (pl, .inr (2, [.ref po, .int (nI ht)])), (po, .inl (cI, 8, .inl fp)), (en, .inr (3, [.ref eo, .ref sb, .int (nI len)])), (eo, .inl (cI, 5, .inl fe)), (sb, .inl (cG, 5, .inr (.inr (.inr (.inr (fun uu => some (rr uu))))))), (rr 0, .inl (cI, 4, .inl (M 0))), (rr 1, .inl (cI, 4, .inl (M 1))), (rr 2, .inl (cI, 4, .inl (M 2))), (rr 3, .inl (cI, 4, .inl (M 3))), (rr 4, .inl (cI, 4, .inl (M 4)))]) rfl (by decide) rfl hl.1 rfl (Nat.le_of_ble_eq_true rfl) d_X_slot_35 (fun H locs hP hD hS => ?_)
          refine lv_goto (tgt := 42) hx hb d_X_slot_38 (by decide) ?_
          refine zz_top (z := ax_slot fo fw x (nI j)) (by simp only [ax_slot, *]) ?_
          exact hret _ _ _ _ d_X_slot_42 hP hD hS
    · skip
      exact absurd c11 (zz_nm1 (by omega))
set_option maxHeartbeats 4000000 in
set_option maxRecDepth 100000 in
theorem c_X_table (l : Launch) (D : va_G) (cI : ClassId) (cG : ClassId) (h0 : Nat) (hp : Nat) (ow : Nat) (wo : Nat) (pl : Nat) (po : Nat) (en : Nat) (eo : Nat) (sb : Nat) (rr : Nat → Nat) (fo : lc_A) (fw : lc_A) (md : Nat) (fp : lc_A) (ht : Nat) (fe : lc_A) (M : Nat → lc_A) (len : Nat) (rk : Int32)  : zz_MI l y_X_table b_X_table 1 .int ({ frames := 3, cells := 0, slots := 0, locals := 64 } : Room) D [(cI, .int), (cG, .array .int)] [.ref h0] [(h0, .inr (0, [.ref hp, .ref pl, .ref en, .int rk])), (hp, .inr (1, [.ref ow, .ref wo, .int (nI md)])), (ow, .inl (cI, 48, .inl fo)), (wo, .inl (cI, 48, .inl fw)), (pl, .inr (2, [.ref po, .int (nI ht)])), (po, .inl (cI, 8, .inl fp)), (en, .inr (3, [.ref eo, .ref sb, .int (nI len)])), (eo, .inl (cI, 5, .inl fe)), (sb, .inl (cG, 5, .inr (.inr (.inr (.inr (fun uu => some (rr uu))))))), (rr 0, .inl (cI, 4, .inl (M 0))), (rr 1, .inl (cI, 4, .inl (M 1))), (rr 2, .inl (cI, 4, .inl (M 2))), (rr 3, .inl (cI, 4, .inl (M 3))), (rr 4, .inl (cI, 4, .inl (M 4)))] (nI (lc_ct (lc_isU fo fw) 48)) [(h0, .inr (0, [.ref hp, .ref pl, .ref en, .int rk])), (hp, .inr (1, [.ref ow, .ref wo, .int (nI md)])), (ow, .inl (cI, 48, .inl fo)), (wo, .inl (cI, 48, .inl fw)), (pl, .inr (2, [.ref po, .int (nI ht)])), (po, .inl (cI, 8, .inl fp)), (en, .inr (3, [.ref eo, .ref sb, .int (nI len)])), (eo, .inl (cI, 5, .inl fe)), (sb, .inl (cG, 5, .inr (.inr (.inr (.inr (fun uu => some (rr uu))))))), (rr 0, .inl (cI, 4, .inl (M 0))), (rr 1, .inl (cI, 4, .inl (M 1))), (rr 2, .inl (cI, 4, .inl (M 2))), (rr 3, .inl (cI, 4, .inl (M 3))), (rr 4, .inl (cI, 4, .inl (M 4)))] := by
  refine zz_MI_of (by decide) (Nat.le_of_ble_eq_true rfl) (vp_nar_int _) ?_
  intro p e s m args below meth c A ls Q hx hb hml hown hts hK hP hD hS hA hl hret
  have hown : s.vm.findClass R_X = some m.cls := hown
  have hl : lv_has ls 1 [(0, .ref h0)] := hl
  refine lv_aload_n hx hb d_X_table_0 rfl (lv_at hl 0 rfl) ?_
  refine va_get (D := D) (ci := 0) (v := .ref hp) (C := R_X) (T := F_X) (N := 4) hx hb hts i_X hown hK hP 0 rfl rfl 0 (by decide) (hts _ kw_39) (fun _ h9 => h9) rfl d_X_table_1 ?_
  refine zz_callI (np := 0) hx hb hml hown hts hK hP hD hS hA (c_Heap_uncountedObjects l D cI hp ow wo fo fw md ) (zz_gv kw_162 kw_163 kw_164 kw_6 kc_161) (by decide +kernel) rfl rfl ⟨Nat.le_of_ble_eq_true rfl, Nat.le_of_ble_eq_true rfl⟩ ⟨Nat.zero_le _, Nat.zero_le _⟩ [0] rfl 1 1 rfl rfl rfl [1, 2, 3] [0, 4, 5, 6, 7, 8, 9, 10, 11, 12, 13] [0, 11, 12, 13, 1, 2, 3, 4, 5, 6, 7, 8, 9, 10] rfl (by decide) (wr := [(h0, .inr (0, [.ref hp, .ref pl, .ref en, .int rk])), (pl, .inr (2, [.ref po, .int (nI ht)])), (po, .inl (cI, 8, .inl fp)), (en, .inr (3, [.ref eo, .ref sb, .int (nI len)])), (eo, .inl (cI, 5, .inl fe)), (sb, .inl (cG, 5, .inr (.inr (.inr (.inr (fun uu => some (rr uu))))))), (rr 0, .inl (cI, 4, .inl (M 0))), (rr 1, .inl (cI, 4, .inl (M 1))), (rr 2, .inl (cI, 4, .inl (M 2))), (rr 3, .inl (cI, 4, .inl (M 3))), (rr 4, .inl (cI, 4, .inl (M 4)))]) rfl (by decide) (by decide) (ws' := [(h0, .inr (0, [.ref hp, .ref pl, .ref en, .int rk])), (hp, .inr (1, [.ref ow, .ref wo, .int (nI md)])), (ow, .inl (cI, 48, .inl fo)), (wo, .inl (cI, 48, .inl fw)), (pl, .inr (2, [.ref po, .int (nI ht)])), (po, .inl (cI, 8, .inl fp)), (en, .inr (3, [.ref eo, .ref sb, .int (nI len)])), (eo, .inl (cI, 5, .inl fe)), (sb, .inl (cG, 5, .inr (.inr (.inr (.inr (fun uu => some (rr uu))))))), (rr 0, .inl (cI, 4, .inl (M 0))), (rr 1, .inl (cI, 4, .inl (M 1))), (rr 2, .inl (cI, 4, .inl (M 2))), (rr 3, .inl (cI, 4, .inl (M 3))), (rr 4, .inl (cI, 4, .inl (M 4)))]) rfl (by decide) rfl hl.1 rfl (Nat.le_of_ble_eq_true rfl) d_X_table_4 (fun H locs hP hD hS => ?_)
  exact hret _ _ _ _ d_X_table_7 hP hD hS
set_option maxHeartbeats 4000000 in
set_option maxRecDepth 100000 in
theorem c_X_state (l : Launch) (D : va_G) (cI : ClassId) (cG : ClassId) (h0 : Nat) (hp : Nat) (ow : Nat) (wo : Nat) (pl : Nat) (po : Nat) (en : Nat) (eo : Nat) (sb : Nat) (rr : Nat → Nat) (fo : lc_A) (fw : lc_A) (md : Nat) (fp : lc_A) (ht : Nat) (fe : lc_A) (M : Nat → lc_A) (len : Nat) (rk : Int32) (x : Int32) (hlen : len ≤ 5) : zz_MI l y_X_state b_X_state 5 .int ({ frames := 2, cells := 0, slots := 0, locals := 42 } : Room) D [(cI, .int), (cG, .array .int)] [.ref h0, .int x] [(h0, .inr (0, [.ref hp, .ref pl, .ref en, .int rk])), (hp, .inr (1, [.ref ow, .ref wo, .int (nI md)])), (ow, .inl (cI, 48, .inl fo)), (wo, .inl (cI, 48, .inl fw)), (pl, .inr (2, [.ref po, .int (nI ht)])), (po, .inl (cI, 8, .inl fp)), (en, .inr (3, [.ref eo, .ref sb, .int (nI len)])), (eo, .inl (cI, 5, .inl fe)), (sb, .inl (cG, 5, .inr (.inr (.inr (.inr (fun uu => some (rr uu))))))), (rr 0, .inl (cI, 4, .inl (M 0))), (rr 1, .inl (cI, 4, .inl (M 1))), (rr 2, .inl (cI, 4, .inl (M 2))), (rr 3, .inl (cI, 4, .inl (M 3))), (rr 4, .inl (cI, 4, .inl (M 4)))] (ax_state fo fw fe len x) [(h0, .inr (0, [.ref hp, .ref pl, .ref en, .int rk])), (hp, .inr (1, [.ref ow, .ref wo, .int (nI md)])), (ow, .inl (cI, 48, .inl fo)), (wo, .inl (cI, 48, .inl fw)), (pl, .inr (2, [.ref po, .int (nI ht)])), (po, .inl (cI, 8, .inl fp)), (en, .inr (3, [.ref eo, .ref sb, .int (nI len)])), (eo, .inl (cI, 5, .inl fe)), (sb, .inl (cG, 5, .inr (.inr (.inr (.inr (fun uu => some (rr uu))))))), (rr 0, .inl (cI, 4, .inl (M 0))), (rr 1, .inl (cI, 4, .inl (M 1))), (rr 2, .inl (cI, 4, .inl (M 2))), (rr 3, .inl (cI, 4, .inl (M 3))), (rr 4, .inl (cI, 4, .inl (M 4)))] := by
  refine zz_MI_of (by decide) (Nat.le_of_ble_eq_true rfl) (vp_nar_int _) ?_
  intro p e s m args below meth c A ls Q hx hb hml hown hts hK hP hD hS hA hl hret
  have hown : s.vm.findClass R_X = some m.cls := hown
  have hl : lv_has ls 5 [(0, .ref h0), (1, .int x)] := hl
  refine lv_aload_n hx hb d_X_state_0 rfl (lv_at hl 0 rfl) ?_
  refine va_get (D := D) (ci := 0) (v := .ref hp) (C := R_X) (T := F_X) (N := 4) hx hb hts i_X hown hK hP 0 rfl rfl 0 (by decide) (hts _ kw_39) (fun _ h9 => h9) rfl d_X_state_1 ?_
  refine lv_iload_n hx hb d_X_state_4 rfl (lv_at hl 1 rfl) ?_
  refine zz_callI (np := 1) hx hb hml hown hts hK hP hD hS hA (c_Heap_firstCellOf l D cI hp ow wo fo fw md x ) (zz_gv kw_44 kw_17 kw_18 kw_6 kc_15) (by decide +kernel) rfl rfl ⟨Nat.le_of_ble_eq_true rfl, Nat.le_of_ble_eq_true rfl⟩ ⟨Nat.zero_le _, Nat.zero_le _⟩ [0] rfl 1 1 rfl rfl rfl [1, 2, 3] [0, 4, 5, 6, 7, 8, 9, 10, 11, 12, 13] [0, 11, 12, 13, 1, 2, 3, 4, 5, 6, 7, 8, 9, 10] rfl (by decide) (wr := [(h0, .inr (0, [.ref hp, .ref pl, .ref en, .int rk])), (pl, .inr (2, [.ref po, .int (nI ht)])), (po, .inl (cI, 8, .inl fp)), (en, .inr (3, [.ref eo, .ref sb, .int (nI len)])), (eo, .inl (cI, 5, .inl fe)), (sb, .inl (cG, 5, .inr (.inr (.inr (.inr (fun uu => some (rr uu))))))), (rr 0, .inl (cI, 4, .inl (M 0))), (rr 1, .inl (cI, 4, .inl (M 1))), (rr 2, .inl (cI, 4, .inl (M 2))), (rr 3, .inl (cI, 4, .inl (M 3))), (rr 4, .inl (cI, 4, .inl (M 4)))]) rfl (by decide) (by decide) (ws' := [(h0, .inr (0, [.ref hp, .ref pl, .ref en, .int rk])), (hp, .inr (1, [.ref ow, .ref wo, .int (nI md)])), (ow, .inl (cI, 48, .inl fo)), (wo, .inl (cI, 48, .inl fw)), (pl, .inr (2, [.ref po, .int (nI ht)])), (po, .inl (cI, 8, .inl fp)), (en, .inr (3, [.ref eo, .ref sb, .int (nI len)])), (eo, .inl (cI, 5, .inl fe)), (sb, .inl (cG, 5, .inr (.inr (.inr (.inr (fun uu => some (rr uu))))))), (rr 0, .inl (cI, 4, .inl (M 0))), (rr 1, .inl (cI, 4, .inl (M 1))), (rr 2, .inl (cI, 4, .inl (M 2))), (rr 3, .inl (cI, 4, .inl (M 3))), (rr 4, .inl (cI, 4, .inl (M 4)))]) rfl (by decide) rfl hl.1 rfl (Nat.le_of_ble_eq_true rfl) d_X_state_5 (fun H locs hP hD hS => ?_)
  refine zz_oI (fun h5 => ?_) (fun a h5 => ?_)
  · skip
    refine lv_istore_n (lv' := [(2, .int (-1)), (0, .ref h0), (1, .int x)]) hx hb d_X_state_8 rfl hl (by decide) rfl (fun ls hl => ?_)
    refine lv_iload_n hx hb d_X_state_9 rfl (lv_at hl 0 rfl) ?_
    refine lv_iconst (v := (-1)) hx hb d_X_state_10 (by decide +kernel) ?_
    refine lv_icmp_ne (tgt := 16) hx hb d_X_state_11 (by decide) (fun c11 => ?_) (fun c11 => ?_)
    · skip
      exact absurd rfl c11
    · skip
      refine lv_iconst (v := nI 0) hx hb d_X_state_14 (by decide +kernel) ?_
      refine zz_top (z := ax_state fo fw fe len x) (by simp [ax_state, *]) ?_
      exact hret _ _ _ _ d_X_state_15 hP hD hS
  · skip
    have ha := (lc_first_lt h5).1
    have hsa := lc_sa_le fo a
    refine lv_istore_n (lv' := [(2, .int (nI a)), (0, .ref h0), (1, .int x)]) hx hb d_X_state_8 rfl hl (by decide) rfl (fun ls hl => ?_)
    refine lv_iload_n hx hb d_X_state_9 rfl (lv_at hl 0 rfl) ?_
    refine lv_iconst (v := (-1)) hx hb d_X_state_10 (by decide +kernel) ?_
    refine lv_icmp_ne (tgt := 16) hx hb d_X_state_11 (by decide) (fun c11 => ?_) (fun c11 => ?_)
    · skip
      refine lv_aload_n hx hb d_X_state_16 rfl (lv_at hl 1 rfl) ?_
      refine va_get (D := D) (ci := 0) (v := .ref hp) (C := R_X) (T := F_X) (N := 4) hx hb hts i_X hown hK hP 0 rfl rfl 0 (by decide) (hts _ kw_39) (fun _ h9 => h9) rfl d_X_state_17 ?_
      refine lv_iload_n hx hb d_X_state_20 rfl (lv_at hl 0 rfl) ?_
      refine zz_callI (np := 1) hx hb hml hown hts hK hP hD hS hA (c_Heap_isUncounted l D cI hp ow wo fo fw md a (by omega)) (zz_gv kw_45 kw_13 kw_14 kw_6 kc_11) (by decide +kernel) rfl rfl ⟨Nat.le_of_ble_eq_true rfl, Nat.le_of_ble_eq_true rfl⟩ ⟨Nat.zero_le _, Nat.zero_le _⟩ [0] rfl 1 1 rfl rfl rfl [1, 2, 3] [0, 4, 5, 6, 7, 8, 9, 10, 11, 12, 13] [0, 11, 12, 13, 1, 2, 3, 4, 5, 6, 7, 8, 9, 10] rfl (by decide) (wr := [(h0, .inr (0, [.ref hp, .ref pl, .ref en, .int rk])), (pl, .inr (2, [.ref po, .int (nI ht)])), (po, .inl (cI, 8, .inl fp)), (en, .inr (3, [.ref eo, .ref sb, .int (nI len)])), (eo, .inl (cI, 5, .inl fe)), (sb, .inl (cG, 5, .inr (.inr (.inr (.inr (fun uu => some (rr uu))))))), (rr 0, .inl (cI, 4, .inl (M 0))), (rr 1, .inl (cI, 4, .inl (M 1))), (rr 2, .inl (cI, 4, .inl (M 2))), (rr 3, .inl (cI, 4, .inl (M 3))), (rr 4, .inl (cI, 4, .inl (M 4)))]) rfl (by decide) (by decide) (ws' := [(h0, .inr (0, [.ref hp, .ref pl, .ref en, .int rk])), (hp, .inr (1, [.ref ow, .ref wo, .int (nI md)])), (ow, .inl (cI, 48, .inl fo)), (wo, .inl (cI, 48, .inl fw)), (pl, .inr (2, [.ref po, .int (nI ht)])), (po, .inl (cI, 8, .inl fp)), (en, .inr (3, [.ref eo, .ref sb, .int (nI len)])), (eo, .inl (cI, 5, .inl fe)), (sb, .inl (cG, 5, .inr (.inr (.inr (.inr (fun uu => some (rr uu))))))), (rr 0, .inl (cI, 4, .inl (M 0))), (rr 1, .inl (cI, 4, .inl (M 1))), (rr 2, .inl (cI, 4, .inl (M 2))), (rr 3, .inl (cI, 4, .inl (M 3))), (rr 4, .inl (cI, 4, .inl (M 4)))]) rfl (by decide) rfl hl.1 rfl (Nat.le_of_ble_eq_true rfl) d_X_state_21 (fun H locs hP hD hS => ?_)
      refine zz_bI (fun h21 => ?_) (fun h21 => ?_)
      · skip
        refine zz_if_eq (tgt := 31) hx hb (by omega) d_X_state_24 (by decide) (fun c24 => ?_) (fun c24 => ?_)
        · skip
          exact absurd c24 (by omega)
        · skip
          refine lv_iconst (v := nI 1) hx hb d_X_state_27 (by decide +kernel) ?_
          refine lv_goto (tgt := 32) hx hb d_X_state_28 (by decide) ?_
          refine lv_istore_n (lv' := [(3, .int (nI 1)), (2, .int (nI a)), (0, .ref h0), (1, .int x)]) hx hb d_X_state_32 rfl hl (by decide) rfl (fun ls hl => ?_)
          refine lv_aload_n hx hb d_X_state_33 rfl (lv_at hl 2 rfl) ?_
          refine va_get (D := D) (ci := 0) (v := .ref en) (C := R_X) (T := F_X) (N := 4) hx hb hts i_X hown hK hP 0 rfl rfl 2 (by decide) (hts _ kw_63) (fun _ h9 => h9) rfl d_X_state_34 ?_
          refine lv_iload_n hx hb d_X_state_37 rfl (lv_at hl 3 rfl) ?_
          refine zz_callI (np := 1) hx hb hml hown hts hK hP hD hS hA (c_Entries_tellOf l D cI cG en eo sb rr fe M len x (by omega)) (zz_gv kw_94 kw_95 kw_96 kw_68 kc_93) (by decide +kernel) rfl rfl ⟨Nat.le_of_ble_eq_true rfl, Nat.le_of_ble_eq_true rfl⟩ ⟨Nat.zero_le _, Nat.zero_le _⟩ [0, 1] rfl 6 3 rfl rfl rfl [6, 7, 8, 9, 10, 11, 12, 13] [0, 1, 2, 3, 4, 5] [0, 1, 2, 3, 4, 5, 6, 7, 8, 9, 10, 11, 12, 13] rfl (by decide) (wr := [(h0, .inr (0, [.ref hp, .ref pl, .ref en, .int rk])), (hp, .inr (1, [.ref ow, .ref wo, .int (nI md)])), (ow, .inl (cI, 48, .inl fo)), (wo, .inl (cI, 48, .inl fw)), (pl, .inr (2, [.ref po, .int (nI ht)])), (po, .inl (cI, 8, .inl fp))]) rfl (by decide) (by decide) (ws' := [(h0, .inr (0, [.ref hp, .ref pl, .ref en, .int rk])), (hp, .inr (1, [.ref ow, .ref wo, .int (nI md)])), (ow, .inl (cI, 48, .inl fo)), (wo, .inl (cI, 48, .inl fw)), (pl, .inr (2, [.ref po, .int (nI ht)])), (po, .inl (cI, 8, .inl fp)), (en, .inr (3, [.ref eo, .ref sb, .int (nI len)])), (eo, .inl (cI, 5, .inl fe)), (sb, .inl (cG, 5, .inr (.inr (.inr (.inr (fun uu => some (rr uu))))))), (rr 0, .inl (cI, 4, .inl (M 0))), (rr 1, .inl (cI, 4, .inl (M 1))), (rr 2, .inl (cI, 4, .inl (M 2))), (rr 3, .inl (cI, 4, .inl (M 3))), (rr 4, .inl (cI, 4, .inl (M 4)))]) rfl (by decide) rfl hl.1 rfl (Nat.le_of_ble_eq_true rfl) d_X_state_38 (fun H locs hP hD hS => ?_)
          refine zz_bI (fun h38 => ?_) (fun h38 => ?_)
          · skip
            refine zz_if_eq (tgt := 48) hx hb (by omega) d_X_state_41 (by decide) (fun c41 => ?_) (fun c41 => ?_)
            · skip
              exact absurd c41 (by omega)
            · skip
              refine lv_iconst (v := nI 2) hx hb d_X_state_44 (by decide +kernel) ?_
              refine lv_goto (tgt := 49) hx hb d_X_state_45 (by decide) ?_
              refine lv_istore (lv' := [(4, .int (nI 2)), (3, .int (nI 1)), (2, .int (nI a)), (0, .ref h0), (1, .int x)]) hx hb d_X_state_49 hl (by decide) rfl (fun ls hl => ?_)
              refine lv_iload_n hx hb d_X_state_51 rfl (lv_at hl 1 rfl) ?_
              refine lv_iload hx hb d_X_state_52 (lv_at hl 0 rfl) ?_
              refine zz_iadd hx hb d_X_state_54 ?_
              refine zz_top (z := ax_state fo fw fe len x) (by simp [ax_state, *]) ?_
              exact hret _ _ _ _ d_X_state_55 hP hD hS
          · skip
            refine zz_if_eq (tgt := 48) hx hb (by omega) d_X_state_41 (by decide) (fun c41 => ?_) (fun c41 => ?_)
            · skip
              refine lv_iconst (v := nI 0) hx hb d_X_state_48 (by decide +kernel) ?_
              refine lv_istore (lv' := [(4, .int (nI 0)), (3, .int (nI 1)), (2, .int (nI a)), (0, .ref h0), (1, .int x)]) hx hb d_X_state_49 hl (by decide) rfl (fun ls hl => ?_)
              refine lv_iload_n hx hb d_X_state_51 rfl (lv_at hl 1 rfl) ?_
              refine lv_iload hx hb d_X_state_52 (lv_at hl 0 rfl) ?_
              refine zz_iadd hx hb d_X_state_54 ?_
              refine zz_top (z := ax_state fo fw fe len x) (by simp [ax_state, *]) ?_
              exact hret _ _ _ _ d_X_state_55 hP hD hS
            · skip
              exact absurd c41 (by omega)
      · skip
        refine zz_if_eq (tgt := 31) hx hb (by omega) d_X_state_24 (by decide) (fun c24 => ?_) (fun c24 => ?_)
        · skip
          refine lv_iconst (v := nI 0) hx hb d_X_state_31 (by decide +kernel) ?_
          refine lv_istore_n (lv' := [(3, .int (nI 0)), (2, .int (nI a)), (0, .ref h0), (1, .int x)]) hx hb d_X_state_32 rfl hl (by decide) rfl (fun ls hl => ?_)
          refine lv_aload_n hx hb d_X_state_33 rfl (lv_at hl 2 rfl) ?_
          refine va_get (D := D) (ci := 0) (v := .ref en) (C := R_X) (T := F_X) (N := 4) hx hb hts i_X hown hK hP 0 rfl rfl 2 (by decide) (hts _ kw_63) (fun _ h9 => h9) rfl d_X_state_34 ?_
          refine lv_iload_n hx hb d_X_state_37 rfl (lv_at hl 3 rfl) ?_
          refine zz_callI (np := 1) hx hb hml hown hts hK hP hD hS hA (c_Entries_tellOf l D cI cG en eo sb rr fe M len x (by omega)) (zz_gv kw_94 kw_95 kw_96 kw_68 kc_93) (by decide +kernel) rfl rfl ⟨Nat.le_of_ble_eq_true rfl, Nat.le_of_ble_eq_true rfl⟩ ⟨Nat.zero_le _, Nat.zero_le _⟩ [0, 1] rfl 6 3 rfl rfl rfl [6, 7, 8, 9, 10, 11, 12, 13] [0, 1, 2, 3, 4, 5] [0, 1, 2, 3, 4, 5, 6, 7, 8, 9, 10, 11, 12, 13] rfl (by decide) (wr := [(h0, .inr (0, [.ref hp, .ref pl, .ref en, .int rk])), (hp, .inr (1, [.ref ow, .ref wo, .int (nI md)])), (ow, .inl (cI, 48, .inl fo)), (wo, .inl (cI, 48, .inl fw)), (pl, .inr (2, [.ref po, .int (nI ht)])), (po, .inl (cI, 8, .inl fp))]) rfl (by decide) (by decide) (ws' := [(h0, .inr (0, [.ref hp, .ref pl, .ref en, .int rk])), (hp, .inr (1, [.ref ow, .ref wo, .int (nI md)])), (ow, .inl (cI, 48, .inl fo)), (wo, .inl (cI, 48, .inl fw)), (pl, .inr (2, [.ref po, .int (nI ht)])), (po, .inl (cI, 8, .inl fp)), (en, .inr (3, [.ref eo, .ref sb, .int (nI len)])), (eo, .inl (cI, 5, .inl fe)), (sb, .inl (cG, 5, .inr (.inr (.inr (.inr (fun uu => some (rr uu))))))), (rr 0, .inl (cI, 4, .inl (M 0))), (rr 1, .inl (cI, 4, .inl (M 1))), (rr 2, .inl (cI, 4, .inl (M 2))), (rr 3, .inl (cI, 4, .inl (M 3))), (rr 4, .inl (cI, 4, .inl (M 4)))]) rfl (by decide) rfl hl.1 rfl (Nat.le_of_ble_eq_true rfl) d_X_state_38 (fun H locs hP hD hS => ?_)
          refine zz_bI (fun h38 => ?_) (fun h38 => ?_)
          · skip
            refine zz_if_eq (tgt := 48) hx hb (by omega) d_X_state_41 (by decide) (fun c41 => ?_) (fun c41 => ?_)
            · skip
              exact absurd c41 (by omega)
            · skip
              refine lv_iconst (v := nI 2) hx hb d_X_state_44 (by decide +kernel) ?_
              refine lv_goto (tgt := 49) hx hb d_X_state_45 (by decide) ?_
              refine lv_istore (lv' := [(4, .int (nI 2)), (3, .int (nI 0)), (2, .int (nI a)), (0, .ref h0), (1, .int x)]) hx hb d_X_state_49 hl (by decide) rfl (fun ls hl => ?_)
              refine lv_iload_n hx hb d_X_state_51 rfl (lv_at hl 1 rfl) ?_
              refine lv_iload hx hb d_X_state_52 (lv_at hl 0 rfl) ?_
              refine zz_iadd hx hb d_X_state_54 ?_
              refine zz_top (z := ax_state fo fw fe len x) (by simp [ax_state, *]) ?_
              exact hret _ _ _ _ d_X_state_55 hP hD hS
          · skip
            refine zz_if_eq (tgt := 48) hx hb (by omega) d_X_state_41 (by decide) (fun c41 => ?_) (fun c41 => ?_)
            · skip
              refine lv_iconst (v := nI 0) hx hb d_X_state_48 (by decide +kernel) ?_
              refine lv_istore (lv' := [(4, .int (nI 0)), (3, .int (nI 0)), (2, .int (nI a)), (0, .ref h0), (1, .int x)]) hx hb d_X_state_49 hl (by decide) rfl (fun ls hl => ?_)
              refine lv_iload_n hx hb d_X_state_51 rfl (lv_at hl 1 rfl) ?_
              refine lv_iload hx hb d_X_state_52 (lv_at hl 0 rfl) ?_
              refine zz_iadd hx hb d_X_state_54 ?_
              refine zz_top (z := ax_state fo fw fe len x) (by simp [ax_state, *]) ?_
              exact hret _ _ _ _ d_X_state_55 hP hD hS
            · skip
              exact absurd c41 (by omega)
        · skip
          exact absurd c24 (by omega)
    · skip
      exact absurd c11 (zz_nm1 (by omega))
set_option maxHeartbeats 4000000 in
set_option maxRecDepth 100000 in
theorem c_X_log (l : Launch) (D : va_G) (cI : ClassId) (cG : ClassId) (h0 : Nat) (hp : Nat) (ow : Nat) (wo : Nat) (pl : Nat) (po : Nat) (en : Nat) (eo : Nat) (sb : Nat) (rr : Nat → Nat) (fo : lc_A) (fw : lc_A) (md : Nat) (fp : lc_A) (ht : Nat) (fe : lc_A) (M : Nat → lc_A) (len : Nat) (rk : Int32)  : zz_MI l y_X_log b_X_log 1 .int ({ frames := 1, cells := 0, slots := 0, locals := 20 } : Room) D [(cI, .int), (cG, .array .int)] [.ref h0] [(h0, .inr (0, [.ref hp, .ref pl, .ref en, .int rk])), (hp, .inr (1, [.ref ow, .ref wo, .int (nI md)])), (ow, .inl (cI, 48, .inl fo)), (wo, .inl (cI, 48, .inl fw)), (pl, .inr (2, [.ref po, .int (nI ht)])), (po, .inl (cI, 8, .inl fp)), (en, .inr (3, [.ref eo, .ref sb, .int (nI len)])), (eo, .inl (cI, 5, .inl fe)), (sb, .inl (cG, 5, .inr (.inr (.inr (.inr (fun uu => some (rr uu))))))), (rr 0, .inl (cI, 4, .inl (M 0))), (rr 1, .inl (cI, 4, .inl (M 1))), (rr 2, .inl (cI, 4, .inl (M 2))), (rr 3, .inl (cI, 4, .inl (M 3))), (rr 4, .inl (cI, 4, .inl (M 4)))] (nI len) [(h0, .inr (0, [.ref hp, .ref pl, .ref en, .int rk])), (hp, .inr (1, [.ref ow, .ref wo, .int (nI md)])), (ow, .inl (cI, 48, .inl fo)), (wo, .inl (cI, 48, .inl fw)), (pl, .inr (2, [.ref po, .int (nI ht)])), (po, .inl (cI, 8, .inl fp)), (en, .inr (3, [.ref eo, .ref sb, .int (nI len)])), (eo, .inl (cI, 5, .inl fe)), (sb, .inl (cG, 5, .inr (.inr (.inr (.inr (fun uu => some (rr uu))))))), (rr 0, .inl (cI, 4, .inl (M 0))), (rr 1, .inl (cI, 4, .inl (M 1))), (rr 2, .inl (cI, 4, .inl (M 2))), (rr 3, .inl (cI, 4, .inl (M 3))), (rr 4, .inl (cI, 4, .inl (M 4)))] := by
  refine zz_MI_of (by decide) (Nat.le_of_ble_eq_true rfl) (vp_nar_int _) ?_
  intro p e s m args below meth c A ls Q hx hb hml hown hts hK hP hD hS hA hl hret
  have hown : s.vm.findClass R_X = some m.cls := hown
  have hl : lv_has ls 1 [(0, .ref h0)] := hl
  refine lv_aload_n hx hb d_X_log_0 rfl (lv_at hl 0 rfl) ?_
  refine va_get (D := D) (ci := 0) (v := .ref en) (C := R_X) (T := F_X) (N := 4) hx hb hts i_X hown hK hP 0 rfl rfl 2 (by decide) (hts _ kw_63) (fun _ h9 => h9) rfl d_X_log_1 ?_
  refine zz_callI (np := 0) hx hb hml hown hts hK hP hD hS hA (c_Entries_size l D cI cG en eo sb rr fe M len ) (zz_gv kw_78 kw_79 kw_80 kw_68 kc_77) (by decide +kernel) rfl rfl ⟨Nat.le_of_ble_eq_true rfl, Nat.le_of_ble_eq_true rfl⟩ ⟨Nat.zero_le _, Nat.zero_le _⟩ [0, 1] rfl 6 3 rfl rfl rfl [6, 7, 8, 9, 10, 11, 12, 13] [0, 1, 2, 3, 4, 5] [0, 1, 2, 3, 4, 5, 6, 7, 8, 9, 10, 11, 12, 13] rfl (by decide) (wr := [(h0, .inr (0, [.ref hp, .ref pl, .ref en, .int rk])), (hp, .inr (1, [.ref ow, .ref wo, .int (nI md)])), (ow, .inl (cI, 48, .inl fo)), (wo, .inl (cI, 48, .inl fw)), (pl, .inr (2, [.ref po, .int (nI ht)])), (po, .inl (cI, 8, .inl fp))]) rfl (by decide) (by decide) (ws' := [(h0, .inr (0, [.ref hp, .ref pl, .ref en, .int rk])), (hp, .inr (1, [.ref ow, .ref wo, .int (nI md)])), (ow, .inl (cI, 48, .inl fo)), (wo, .inl (cI, 48, .inl fw)), (pl, .inr (2, [.ref po, .int (nI ht)])), (po, .inl (cI, 8, .inl fp)), (en, .inr (3, [.ref eo, .ref sb, .int (nI len)])), (eo, .inl (cI, 5, .inl fe)), (sb, .inl (cG, 5, .inr (.inr (.inr (.inr (fun uu => some (rr uu))))))), (rr 0, .inl (cI, 4, .inl (M 0))), (rr 1, .inl (cI, 4, .inl (M 1))), (rr 2, .inl (cI, 4, .inl (M 2))), (rr 3, .inl (cI, 4, .inl (M 3))), (rr 4, .inl (cI, 4, .inl (M 4)))]) rfl (by decide) rfl hl.1 rfl (Nat.le_of_ble_eq_true rfl) d_X_log_4 (fun H locs hP hD hS => ?_)
  exact hret _ _ _ _ d_X_log_7 hP hD hS
set_option maxHeartbeats 4000000 in
set_option maxRecDepth 100000 in
theorem c_X_entry (l : Launch) (D : va_G) (cI : ClassId) (cG : ClassId) (h0 : Nat) (hp : Nat) (ow : Nat) (wo : Nat) (pl : Nat) (po : Nat) (en : Nat) (eo : Nat) (sb : Nat) (rr : Nat → Nat) (fo : lc_A) (fw : lc_A) (md : Nat) (fp : lc_A) (ht : Nat) (fe : lc_A) (M : Nat → lc_A) (len : Nat) (rk : Int32) (x : Int32) (z : Int32) (hlen : len ≤ 5) (hc : ∀ k, k < len → lc_sao fo (lc_first fo (fe k)) ≤ 4) : zz_MI l y_X_entry b_X_entry 4 .int ({ frames := 2, cells := 0, slots := 0, locals := 45 } : Room) D [(cI, .int), (cG, .array .int)] [.ref h0, .int x, .int z] [(h0, .inr (0, [.ref hp, .ref pl, .ref en, .int rk])), (hp, .inr (1, [.ref ow, .ref wo, .int (nI md)])), (ow, .inl (cI, 48, .inl fo)), (wo, .inl (cI, 48, .inl fw)), (pl, .inr (2, [.ref po, .int (nI ht)])), (po, .inl (cI, 8, .inl fp)), (en, .inr (3, [.ref eo, .ref sb, .int (nI len)])), (eo, .inl (cI, 5, .inl fe)), (sb, .inl (cG, 5, .inr (.inr (.inr (.inr (fun uu => some (rr uu))))))), (rr 0, .inl (cI, 4, .inl (M 0))), (rr 1, .inl (cI, 4, .inl (M 1))), (rr 2, .inl (cI, 4, .inl (M 2))), (rr 3, .inl (cI, 4, .inl (M 3))), (rr 4, .inl (cI, 4, .inl (M 4)))] (ax_entry fo fe M len x z) [(h0, .inr (0, [.ref hp, .ref pl, .ref en, .int rk])), (hp, .inr (1, [.ref ow, .ref wo, .int (nI md)])), (ow, .inl (cI, 48, .inl fo)), (wo, .inl (cI, 48, .inl fw)), (pl, .inr (2, [.ref po, .int (nI ht)])), (po, .inl (cI, 8, .inl fp)), (en, .inr (3, [.ref eo, .ref sb, .int (nI len)])), (eo, .inl (cI, 5, .inl fe)), (sb, .inl (cG, 5, .inr (.inr (.inr (.inr (fun uu => some (rr uu))))))), (rr 0, .inl (cI, 4, .inl (M 0))), (rr 1, .inl (cI, 4, .inl (M 1))), (rr 2, .inl (cI, 4, .inl (M 2))), (rr 3, .inl (cI, 4, .inl (M 3))), (rr 4, .inl (cI, 4, .inl (M 4)))] := by
  refine zz_MI_of (by decide) (Nat.le_of_ble_eq_true rfl) (vp_nar_int _) ?_
  intro p e s m args below meth c A ls Q hx hb hml hown hts hK hP hD hS hA hl hret
  have hown : s.vm.findClass R_X = some m.cls := hown
  have hl : lv_has ls 4 [(0, .ref h0), (1, .int x), (2, .int z)] := hl
  refine lv_aload_n hx hb d_X_entry_0 rfl (lv_at hl 0 rfl) ?_
  refine va_get (D := D) (ci := 0) (v := .ref en) (C := R_X) (T := F_X) (N := 4) hx hb hts i_X hown hK hP 0 rfl rfl 2 (by decide) (hts _ kw_63) (fun _ h9 => h9) rfl d_X_entry_1 ?_
  refine lv_iload_n hx hb d_X_entry_4 rfl (lv_at hl 1 rfl) ?_
  refine zz_callI (np := 1) hx hb hml hown hts hK hP hD hS hA (c_Entries_has l D cI cG en eo sb rr fe M len x ) (zz_gv kw_166 kw_167 kw_168 kw_68 kc_165) (by decide +kernel) rfl rfl ⟨Nat.le_of_ble_eq_true rfl, Nat.le_of_ble_eq_true rfl⟩ ⟨Nat.zero_le _, Nat.zero_le _⟩ [0, 1] rfl 6 3 rfl rfl rfl [6, 7, 8, 9, 10, 11, 12, 13] [0, 1, 2, 3, 4, 5] [0, 1, 2, 3, 4, 5, 6, 7, 8, 9, 10, 11, 12, 13] rfl (by decide) (wr := [(h0, .inr (0, [.ref hp, .ref pl, .ref en, .int rk])), (hp, .inr (1, [.ref ow, .ref wo, .int (nI md)])), (ow, .inl (cI, 48, .inl fo)), (wo, .inl (cI, 48, .inl fw)), (pl, .inr (2, [.ref po, .int (nI ht)])), (po, .inl (cI, 8, .inl fp))]) rfl (by decide) (by decide) (ws' := [(h0, .inr (0, [.ref hp, .ref pl, .ref en, .int rk])), (hp, .inr (1, [.ref ow, .ref wo, .int (nI md)])), (ow, .inl (cI, 48, .inl fo)), (wo, .inl (cI, 48, .inl fw)), (pl, .inr (2, [.ref po, .int (nI ht)])), (po, .inl (cI, 8, .inl fp)), (en, .inr (3, [.ref eo, .ref sb, .int (nI len)])), (eo, .inl (cI, 5, .inl fe)), (sb, .inl (cG, 5, .inr (.inr (.inr (.inr (fun uu => some (rr uu))))))), (rr 0, .inl (cI, 4, .inl (M 0))), (rr 1, .inl (cI, 4, .inl (M 1))), (rr 2, .inl (cI, 4, .inl (M 2))), (rr 3, .inl (cI, 4, .inl (M 3))), (rr 4, .inl (cI, 4, .inl (M 4)))]) rfl (by decide) rfl hl.1 rfl (Nat.le_of_ble_eq_true rfl) d_X_entry_5 (fun H locs hP hD hS => ?_)
  refine zz_pl (x := x) (n := len) (by omega) (fun h5 => ?_) (fun k hj5 ex5 h5 => ?_)
  · skip
    refine zz_if_ne (tgt := 13) hx hb (by omega) d_X_entry_8 (by decide) (fun c8 => ?_) (fun c8 => ?_)
    · skip
      exact absurd c8 (by omega)
    · skip
      refine lv_iconst (v := (-1)) hx hb d_X_entry_11 (by decide +kernel) ?_
      refine zz_top (z := ax_entry fo fe M len x z) (by simp only [ax_entry, lc_sao, lc_pl_0, if_true, if_false, *]) ?_
      exact hret _ _ _ _ d_X_entry_12 hP hD hS
  · skip
    subst ex5
    refine zz_if_ne (tgt := 13) hx hb (by omega) d_X_entry_8 (by decide) (fun c8 => ?_) (fun c8 => ?_)
    · skip
      refine lv_aload_n hx hb d_X_entry_13 rfl (lv_at hl 0 rfl) ?_
      refine va_get (D := D) (ci := 0) (v := .ref en) (C := R_X) (T := F_X) (N := 4) hx hb hts i_X hown hK hP 0 rfl rfl 2 (by decide) (hts _ kw_63) (fun _ h9 => h9) rfl d_X_entry_14 ?_
      refine lv_iload_n hx hb d_X_entry_17 rfl (lv_at hl 1 rfl) ?_
      refine zz_callI (np := 1) hx hb hml hown hts hK hP hD hS hA (c_Entries_objectOf l D cI cG en eo sb rr fe M len k (by omega)) (zz_gv kw_65 kw_66 kw_67 kw_68 kc_64) (by decide +kernel) rfl rfl ⟨Nat.le_of_ble_eq_true rfl, Nat.le_of_ble_eq_true rfl⟩ ⟨Nat.zero_le _, Nat.zero_le _⟩ [0, 1] rfl 6 3 rfl rfl rfl [6, 7, 8, 9, 10, 11, 12, 13] [0, 1, 2, 3, 4, 5] [0, 1, 2, 3, 4, 5, 6, 7, 8, 9, 10, 11, 12, 13] rfl (by decide) (wr := [(h0, .inr (0, [.ref hp, .ref pl, .ref en, .int rk])), (hp, .inr (1, [.ref ow, .ref wo, .int (nI md)])), (ow, .inl (cI, 48, .inl fo)), (wo, .inl (cI, 48, .inl fw)), (pl, .inr (2, [.ref po, .int (nI ht)])), (po, .inl (cI, 8, .inl fp))]) rfl (by decide) (by decide) (ws' := [(h0, .inr (0, [.ref hp, .ref pl, .ref en, .int rk])), (hp, .inr (1, [.ref ow, .ref wo, .int (nI md)])), (ow, .inl (cI, 48, .inl fo)), (wo, .inl (cI, 48, .inl fw)), (pl, .inr (2, [.ref po, .int (nI ht)])), (po, .inl (cI, 8, .inl fp)), (en, .inr (3, [.ref eo, .ref sb, .int (nI len)])), (eo, .inl (cI, 5, .inl fe)), (sb, .inl (cG, 5, .inr (.inr (.inr (.inr (fun uu => some (rr uu))))))), (rr 0, .inl (cI, 4, .inl (M 0))), (rr 1, .inl (cI, 4, .inl (M 1))), (rr 2, .inl (cI, 4, .inl (M 2))), (rr 3, .inl (cI, 4, .inl (M 3))), (rr 4, .inl (cI, 4, .inl (M 4)))]) rfl (by decide) rfl hl.1 rfl (Nat.le_of_ble_eq_true rfl) d_X_entry_18 (fun H locs hP hD hS => ?_)
      refine lv_istore_n (lv' := [(3, .int (fe k)), (0, .ref h0), (1, .int (nI k)), (2, .int z)]) hx hb d_X_entry_21 rfl hl (by decide) rfl (fun ls hl => ?_)
      refine lv_iload_n hx hb d_X_entry_22 rfl (lv_at hl 3 rfl) ?_
      refine lv_iconst (v := (-1)) hx hb d_X_entry_23 (by decide +kernel) ?_
      refine lv_icmp_ne (tgt := 29) hx hb d_X_entry_24 (by decide) (fun c24 => ?_) (fun c24 => ?_)
      · skip
        refine lv_aload_n hx hb d_X_entry_29 rfl (lv_at hl 1 rfl) ?_
        refine va_get (D := D) (ci := 0) (v := .ref hp) (C := R_X) (T := F_X) (N := 4) hx hb hts i_X hown hK hP 0 rfl rfl 0 (by decide) (hts _ kw_39) (fun _ h9 => h9) rfl d_X_entry_30 ?_
        refine lv_aload_n hx hb d_X_entry_33 rfl (lv_at hl 1 rfl) ?_
        refine va_get (D := D) (ci := 0) (v := .ref hp) (C := R_X) (T := F_X) (N := 4) hx hb hts i_X hown hK hP 0 rfl rfl 0 (by decide) (hts _ kw_39) (fun _ h9 => h9) rfl d_X_entry_34 ?_
        refine lv_iload_n hx hb d_X_entry_37 rfl (lv_at hl 0 rfl) ?_
        refine zz_callI (np := 1) hx hb hml hown hts hK hP hD hS hA (c_Heap_firstCellOf l D cI hp ow wo fo fw md (fe k) ) (zz_gv kw_44 kw_17 kw_18 kw_6 kc_15) (by decide +kernel) rfl rfl ⟨Nat.le_of_ble_eq_true rfl, Nat.le_of_ble_eq_true rfl⟩ ⟨Nat.zero_le _, Nat.zero_le _⟩ [0] rfl 1 1 rfl rfl rfl [1, 2, 3] [0, 4, 5, 6, 7, 8, 9, 10, 11, 12, 13] [0, 11, 12, 13, 1, 2, 3, 4, 5, 6, 7, 8, 9, 10] rfl (by decide) (wr := [(h0, .inr (0, [.ref hp, .ref pl, .ref en, .int rk])), (pl, .inr (2, [.ref po, .int (nI ht)])), (po, .inl (cI, 8, .inl fp)), (en, .inr (3, [.ref eo, .ref sb, .int (nI len)])), (eo, .inl (cI, 5, .inl fe)), (sb, .inl (cG, 5, .inr (.inr (.inr (.inr (fun uu => some (rr uu))))))), (rr 0, .inl (cI, 4, .inl (M 0))), (rr 1, .inl (cI, 4, .inl (M 1))), (rr 2, .inl (cI, 4, .inl (M 2))), (rr 3, .inl (cI, 4, .inl (M 3))), (rr 4, .inl (cI, 4, .inl (M 4)))]) rfl (by decide) (by decide) (ws' := [(h0, .inr (0, [.ref hp, .ref pl, .ref en, .int rk])), (hp, .inr (1, [.ref ow, .ref wo, .int (nI md)])), (ow, .inl (cI, 48, .inl fo)), (wo, .inl (cI, 48, .inl fw)), (pl, .inr (2, [.ref po, .int (nI ht)])), (po, .inl (cI, 8, .inl fp)), (en, .inr (3, [.ref eo, .ref sb, .int (nI len)])), (eo, .inl (cI, 5, .inl fe)), (sb, .inl (cG, 5, .inr (.inr (.inr (.inr (fun uu => some (rr uu))))))), (rr 0, .inl (cI, 4, .inl (M 0))), (rr 1, .inl (cI, 4, .inl (M 1))), (rr 2, .inl (cI, 4, .inl (M 2))), (rr 3, .inl (cI, 4, .inl (M 3))), (rr 4, .inl (cI, 4, .inl (M 4)))]) rfl (by decide) rfl hl.1 rfl (Nat.le_of_ble_eq_true rfl) d_X_entry_38 (fun H locs hP hD hS => ?_)
        refine zz_oI (fun h38 => ?_) (fun a h38 => ?_)
        · skip
          refine lv_iload_n hx hb d_X_entry_41 rfl (lv_at hl 3 rfl) ?_
          refine zz_callI (np := 2) hx hb hml hown hts hK hP hD hS hA (c_Heap_hasSlot_n l D cI hp ow wo fo fw md z ) (zz_gv kw_134 kw_135 kw_136 kw_6 kc_133) (by decide +kernel) rfl rfl ⟨Nat.le_of_ble_eq_true rfl, Nat.le_of_ble_eq_true rfl⟩ ⟨Nat.zero_le _, Nat.zero_le _⟩ [0] rfl 1 1 rfl rfl rfl [1, 2, 3] [0, 4, 5, 6, 7, 8, 9, 10, 11, 12, 13] [0, 11, 12, 13, 1, 2, 3, 4, 5, 6, 7, 8, 9, 10] rfl (by decide) (wr := [(h0, .inr (0, [.ref hp, .ref pl, .ref en, .int rk])), (pl, .inr (2, [.ref po, .int (nI ht)])), (po, .inl (cI, 8, .inl fp)), (en, .inr (3, [.ref eo, .ref sb, .int (nI len)])), (eo, .inl (cI, 5, .inl fe)), (sb, .inl (cG, 5, .inr (.inr (.inr (.inr (fun uu => some (rr uu))))))), (rr 0, .inl (cI, 4, .inl (M 0))), (rr 1, .inl (cI, 4, .inl (M 1))), (rr 2, .inl (cI, 4, .inl (M 2))), (rr 3, .inl (cI, 4, .inl (M 3))), (rr 4, .inl (cI, 4, .inl (M 4)))]) rfl (by decide) (by decide) (ws' := [(h0, .inr (0, [.ref hp, .ref pl, .ref en, .int rk])), (hp, .inr (1, [.ref ow, .ref wo, .int (nI md)])), (ow, .inl (cI, 48, .inl fo)), (wo, .inl (cI, 48, .inl fw)), (pl, .inr (2, [.ref po, .int (nI ht)])), (po, .inl (cI, 8, .inl fp)), (en, .inr (3, [.ref eo, .ref sb, .int (nI len)])), (eo, .inl (cI, 5, .inl fe)), (sb, .inl (cG, 5, .inr (.inr (.inr (.inr (fun uu => some (rr uu))))))), (rr 0, .inl (cI, 4, .inl (M 0))), (rr 1, .inl (cI, 4, .inl (M 1))), (rr 2, .inl (cI, 4, .inl (M 2))), (rr 3, .inl (cI, 4, .inl (M 3))), (rr 4, .inl (cI, 4, .inl (M 4)))]) rfl (by decide) rfl hl.1 rfl (Nat.le_of_ble_eq_true rfl) d_X_entry_42 (fun H locs hP hD hS => ?_)
          refine zz_if_eq (tgt := 60) hx hb (by omega) d_X_entry_45 (by decide) (fun c45 => ?_) (fun c45 => ?_)
          · skip
            refine lv_iconst (v := (-1)) hx hb d_X_entry_60 (by decide +kernel) ?_
            refine zz_top (z := ax_entry fo fe M len (nI k) z) (by simp only [ax_entry, lc_sao, lc_pl_0, if_true, if_false, *]) ?_
            exact hret _ _ _ _ d_X_entry_61 hP hD hS
          · skip
            exact absurd c45 (by omega)
        · skip
          have ha := (lc_first_lt h38).1
          have h4 := hc k (by omega)
          have h4a : lc_sa fo a ≤ 4 := by rw [h38] at h4; exact h4
          refine lv_iload_n hx hb d_X_entry_41 rfl (lv_at hl 3 rfl) ?_
          refine zz_callI (np := 2) hx hb hml hown hts hK hP hD hS hA (c_Heap_hasSlot_s l D cI hp ow wo fo fw md a z (by omega)) (zz_gv kw_134 kw_135 kw_136 kw_6 kc_133) (by decide +kernel) rfl rfl ⟨Nat.le_of_ble_eq_true rfl, Nat.le_of_ble_eq_true rfl⟩ ⟨Nat.zero_le _, Nat.zero_le _⟩ [0] rfl 1 1 rfl rfl rfl [1, 2, 3] [0, 4, 5, 6, 7, 8, 9, 10, 11, 12, 13] [0, 11, 12, 13, 1, 2, 3, 4, 5, 6, 7, 8, 9, 10] rfl (by decide) (wr := [(h0, .inr (0, [.ref hp, .ref pl, .ref en, .int rk])), (pl, .inr (2, [.ref po, .int (nI ht)])), (po, .inl (cI, 8, .inl fp)), (en, .inr (3, [.ref eo, .ref sb, .int (nI len)])), (eo, .inl (cI, 5, .inl fe)), (sb, .inl (cG, 5, .inr (.inr (.inr (.inr (fun uu => some (rr uu))))))), (rr 0, .inl (cI, 4, .inl (M 0))), (rr 1, .inl (cI, 4, .inl (M 1))), (rr 2, .inl (cI, 4, .inl (M 2))), (rr 3, .inl (cI, 4, .inl (M 3))), (rr 4, .inl (cI, 4, .inl (M 4)))]) rfl (by decide) (by decide) (ws' := [(h0, .inr (0, [.ref hp, .ref pl, .ref en, .int rk])), (hp, .inr (1, [.ref ow, .ref wo, .int (nI md)])), (ow, .inl (cI, 48, .inl fo)), (wo, .inl (cI, 48, .inl fw)), (pl, .inr (2, [.ref po, .int (nI ht)])), (po, .inl (cI, 8, .inl fp)), (en, .inr (3, [.ref eo, .ref sb, .int (nI len)])), (eo, .inl (cI, 5, .inl fe)), (sb, .inl (cG, 5, .inr (.inr (.inr (.inr (fun uu => some (rr uu))))))), (rr 0, .inl (cI, 4, .inl (M 0))), (rr 1, .inl (cI, 4, .inl (M 1))), (rr 2, .inl (cI, 4, .inl (M 2))), (rr 3, .inl (cI, 4, .inl (M 3))), (rr 4, .inl (cI, 4, .inl (M 4)))]) rfl (by decide) rfl hl.1 rfl (Nat.le_of_ble_eq_true rfl) d_X_entry_42 (fun H locs hP hD hS => ?_)
          refine zz_pl (x := z) (n := lc_sa fo a) (by omega) (fun h42 => ?_) (fun j hj42 ex42 h42 => ?_)
          · skip
            refine zz_if_eq (tgt := 60) hx hb (by omega) d_X_entry_45 (by decide) (fun c45 => ?_) (fun c45 => ?_)
            · skip
              refine lv_iconst (v := (-1)) hx hb d_X_entry_60 (by decide +kernel) ?_
              refine zz_top (z := ax_entry fo fe M len (nI k) z) (by simp only [ax_entry, lc_sao, lc_pl_0, if_true, if_false, *]) ?_
              exact hret _ _ _ _ d_X_entry_61 hP hD hS
            · skip
              exact absurd c45 (by omega)
          · skip
            subst ex42
            refine zz_if_eq (tgt := 60) hx hb (by omega) d_X_entry_45 (by decide) (fun c45 => ?_) (fun c45 => ?_)
            · skip
              exact absurd c45 (by omega)
            · skip
              refine lv_aload_n hx hb d_X_entry_48 rfl (lv_at hl 1 rfl) ?_
              refine va_get (D := D) (ci := 0) (v := .ref en) (C := R_X) (T := F_X) (N := 4) hx hb hts i_X hown hK hP 0 rfl rfl 2 (by decide) (hts _ kw_63) (fun _ h9 => h9) rfl d_X_entry_49 ?_
              refine lv_iload_n hx hb d_X_entry_52 rfl (lv_at hl 2 rfl) ?_
              refine lv_iload_n hx hb d_X_entry_53 rfl (lv_at hl 3 rfl) ?_
              refine zz_callI (np := 2) hx hb hml hown hts hK hP hD hS hA (c_Entries_before l D cI cG en eo sb rr fe M len k j (by omega) (by omega)) (zz_gv kw_71 kw_72 kw_73 kw_68 kc_70) (by decide +kernel) rfl rfl ⟨Nat.le_of_ble_eq_true rfl, Nat.le_of_ble_eq_true rfl⟩ ⟨Nat.zero_le _, Nat.zero_le _⟩ [0, 1] rfl 6 3 rfl rfl rfl [6, 7, 8, 9, 10, 11, 12, 13] [0, 1, 2, 3, 4, 5] [0, 1, 2, 3, 4, 5, 6, 7, 8, 9, 10, 11, 12, 13] rfl (by decide) (wr := [(h0, .inr (0, [.ref hp, .ref pl, .ref en, .int rk])), (hp, .inr (1, [.ref ow, .ref wo, .int (nI md)])), (ow, .inl (cI, 48, .inl fo)), (wo, .inl (cI, 48, .inl fw)), (pl, .inr (2, [.ref po, .int (nI ht)])), (po, .inl (cI, 8, .inl fp))]) rfl (by decide) (by decide) (ws' := [(h0, .inr (0, [.ref hp, .ref pl, .ref en, .int rk])), (hp, .inr (1, [.ref ow, .ref wo, .int (nI md)])), (ow, .inl (cI, 48, .inl fo)), (wo, .inl (cI, 48, .inl fw)), (pl, .inr (2, [.ref po, .int (nI ht)])), (po, .inl (cI, 8, .inl fp)), (en, .inr (3, [.ref eo, .ref sb, .int (nI len)])), (eo, .inl (cI, 5, .inl fe)), (sb, .inl (cG, 5, .inr (.inr (.inr (.inr (fun uu => some (rr uu))))))), (rr 0, .inl (cI, 4, .inl (M 0))), (rr 1, .inl (cI, 4, .inl (M 1))), (rr 2, .inl (cI, 4, .inl (M 2))), (rr 3, .inl (cI, 4, .inl (M 3))), (rr 4, .inl (cI, 4, .inl (M 4)))]) rfl (by decide) rfl hl.1 rfl (Nat.le_of_ble_eq_true rfl) d_X_entry_54 (fun H locs hP hD hS => ?_)
              refine lv_goto (tgt := 61) hx hb d_X_entry_57 (by decide) ?_
              refine zz_top (z := ax_entry fo fe M len (nI k) (nI j)) (by simp only [ax_entry, lc_sao, lc_pl_0, if_true, if_false, *]) ?_
              exact hret _ _ _ _ d_X_entry_61 hP hD hS
      · skip
        refine lv_iload_n hx hb d_X_entry_27 rfl (lv_at hl 0 rfl) ?_
        refine zz_top (z := ax_entry fo fe M len (nI k) z) (by simp only [ax_entry, lc_sao, lc_pl_0, if_true, if_false, *]) ?_
        exact hret _ _ _ _ d_X_entry_28 hP hD hS
    · skip
      exact absurd c8 (by omega)
set_option maxHeartbeats 4000000 in
set_option maxRecDepth 100000 in
theorem c_X_free (l : Launch) (D : va_G) (cI : ClassId) (cG : ClassId) (h0 : Nat) (hp : Nat) (ow : Nat) (wo : Nat) (pl : Nat) (po : Nat) (en : Nat) (eo : Nat) (sb : Nat) (rr : Nat → Nat) (fo : lc_A) (fw : lc_A) (md : Nat) (fp : lc_A) (ht : Nat) (fe : lc_A) (M : Nat → lc_A) (len : Nat) (rk : Int32)  : zz_MI l y_X_free b_X_free 1 .int ({ frames := 1, cells := 0, slots := 0, locals := 22 } : Room) D [(cI, .int), (cG, .array .int)] [.ref h0] [(h0, .inr (0, [.ref hp, .ref pl, .ref en, .int rk])), (hp, .inr (1, [.ref ow, .ref wo, .int (nI md)])), (ow, .inl (cI, 48, .inl fo)), (wo, .inl (cI, 48, .inl fw)), (pl, .inr (2, [.ref po, .int (nI ht)])), (po, .inl (cI, 8, .inl fp)), (en, .inr (3, [.ref eo, .ref sb, .int (nI len)])), (eo, .inl (cI, 5, .inl fe)), (sb, .inl (cG, 5, .inr (.inr (.inr (.inr (fun uu => some (rr uu))))))), (rr 0, .inl (cI, 4, .inl (M 0))), (rr 1, .inl (cI, 4, .inl (M 1))), (rr 2, .inl (cI, 4, .inl (M 2))), (rr 3, .inl (cI, 4, .inl (M 3))), (rr 4, .inl (cI, 4, .inl (M 4)))] (nI (lc_ct (fun u => decide (fo u = 0)) 48)) [(h0, .inr (0, [.ref hp, .ref pl, .ref en, .int rk])), (hp, .inr (1, [.ref ow, .ref wo, .int (nI md)])), (ow, .inl (cI, 48, .inl fo)), (wo, .inl (cI, 48, .inl fw)), (pl, .inr (2, [.ref po, .int (nI ht)])), (po, .inl (cI, 8, .inl fp)), (en, .inr (3, [.ref eo, .ref sb, .int (nI len)])), (eo, .inl (cI, 5, .inl fe)), (sb, .inl (cG, 5, .inr (.inr (.inr (.inr (fun uu => some (rr uu))))))), (rr 0, .inl (cI, 4, .inl (M 0))), (rr 1, .inl (cI, 4, .inl (M 1))), (rr 2, .inl (cI, 4, .inl (M 2))), (rr 3, .inl (cI, 4, .inl (M 3))), (rr 4, .inl (cI, 4, .inl (M 4)))] := by
  refine zz_MI_of (by decide) (Nat.le_of_ble_eq_true rfl) (vp_nar_int _) ?_
  intro p e s m args below meth c A ls Q hx hb hml hown hts hK hP hD hS hA hl hret
  have hown : s.vm.findClass R_X = some m.cls := hown
  have hl : lv_has ls 1 [(0, .ref h0)] := hl
  refine lv_aload_n hx hb d_X_free_0 rfl (lv_at hl 0 rfl) ?_
  refine va_get (D := D) (ci := 0) (v := .ref hp) (C := R_X) (T := F_X) (N := 4) hx hb hts i_X hown hK hP 0 rfl rfl 0 (by decide) (hts _ kw_39) (fun _ h9 => h9) rfl d_X_free_1 ?_
  refine zz_callI (np := 0) hx hb hml hown hts hK hP hD hS hA (c_Heap_freeCells l D cI hp ow wo fo fw md ) (zz_gv kw_170 kw_171 kw_172 kw_6 kc_169) (by decide +kernel) rfl rfl ⟨Nat.le_of_ble_eq_true rfl, Nat.le_of_ble_eq_true rfl⟩ ⟨Nat.zero_le _, Nat.zero_le _⟩ [0] rfl 1 1 rfl rfl rfl [1, 2, 3] [0, 4, 5, 6, 7, 8, 9, 10, 11, 12, 13] [0, 11, 12, 13, 1, 2, 3, 4, 5, 6, 7, 8, 9, 10] rfl (by decide) (wr := [(h0, .inr (0, [.ref hp, .ref pl, .ref en, .int rk])), (pl, .inr (2, [.ref po, .int (nI ht)])), (po, .inl (cI, 8, .inl fp)), (en, .inr (3, [.ref eo, .ref sb, .int (nI len)])), (eo, .inl (cI, 5, .inl fe)), (sb, .inl (cG, 5, .inr (.inr (.inr (.inr (fun uu => some (rr uu))))))), (rr 0, .inl (cI, 4, .inl (M 0))), (rr 1, .inl (cI, 4, .inl (M 1))), (rr 2, .inl (cI, 4, .inl (M 2))), (rr 3, .inl (cI, 4, .inl (M 3))), (rr 4, .inl (cI, 4, .inl (M 4)))]) rfl (by decide) (by decide) (ws' := [(h0, .inr (0, [.ref hp, .ref pl, .ref en, .int rk])), (hp, .inr (1, [.ref ow, .ref wo, .int (nI md)])), (ow, .inl (cI, 48, .inl fo)), (wo, .inl (cI, 48, .inl fw)), (pl, .inr (2, [.ref po, .int (nI ht)])), (po, .inl (cI, 8, .inl fp)), (en, .inr (3, [.ref eo, .ref sb, .int (nI len)])), (eo, .inl (cI, 5, .inl fe)), (sb, .inl (cG, 5, .inr (.inr (.inr (.inr (fun uu => some (rr uu))))))), (rr 0, .inl (cI, 4, .inl (M 0))), (rr 1, .inl (cI, 4, .inl (M 1))), (rr 2, .inl (cI, 4, .inl (M 2))), (rr 3, .inl (cI, 4, .inl (M 3))), (rr 4, .inl (cI, 4, .inl (M 4)))]) rfl (by decide) rfl hl.1 rfl (Nat.le_of_ble_eq_true rfl) d_X_free_4 (fun H locs hP hD hS => ?_)
  exact hret _ _ _ _ d_X_free_7 hP hD hS
set_option maxHeartbeats 4000000 in
set_option maxRecDepth 100000 in
theorem c_X_reckonings (l : Launch) (D : va_G) (cI : ClassId) (cG : ClassId) (h0 : Nat) (hp : Nat) (ow : Nat) (wo : Nat) (pl : Nat) (po : Nat) (en : Nat) (eo : Nat) (sb : Nat) (rr : Nat → Nat) (fo : lc_A) (fw : lc_A) (md : Nat) (fp : lc_A) (ht : Nat) (fe : lc_A) (M : Nat → lc_A) (len : Nat) (rk : Int32)  : zz_MI l y_X_reckonings b_X_reckonings 1 .int ({ frames := 0, cells := 0, slots := 0, locals := 0 } : Room) D [(cI, .int), (cG, .array .int)] [.ref h0] [(h0, .inr (0, [.ref hp, .ref pl, .ref en, .int rk])), (hp, .inr (1, [.ref ow, .ref wo, .int (nI md)])), (ow, .inl (cI, 48, .inl fo)), (wo, .inl (cI, 48, .inl fw)), (pl, .inr (2, [.ref po, .int (nI ht)])), (po, .inl (cI, 8, .inl fp)), (en, .inr (3, [.ref eo, .ref sb, .int (nI len)])), (eo, .inl (cI, 5, .inl fe)), (sb, .inl (cG, 5, .inr (.inr (.inr (.inr (fun uu => some (rr uu))))))), (rr 0, .inl (cI, 4, .inl (M 0))), (rr 1, .inl (cI, 4, .inl (M 1))), (rr 2, .inl (cI, 4, .inl (M 2))), (rr 3, .inl (cI, 4, .inl (M 3))), (rr 4, .inl (cI, 4, .inl (M 4)))] rk [(h0, .inr (0, [.ref hp, .ref pl, .ref en, .int rk])), (hp, .inr (1, [.ref ow, .ref wo, .int (nI md)])), (ow, .inl (cI, 48, .inl fo)), (wo, .inl (cI, 48, .inl fw)), (pl, .inr (2, [.ref po, .int (nI ht)])), (po, .inl (cI, 8, .inl fp)), (en, .inr (3, [.ref eo, .ref sb, .int (nI len)])), (eo, .inl (cI, 5, .inl fe)), (sb, .inl (cG, 5, .inr (.inr (.inr (.inr (fun uu => some (rr uu))))))), (rr 0, .inl (cI, 4, .inl (M 0))), (rr 1, .inl (cI, 4, .inl (M 1))), (rr 2, .inl (cI, 4, .inl (M 2))), (rr 3, .inl (cI, 4, .inl (M 3))), (rr 4, .inl (cI, 4, .inl (M 4)))] := by
  refine zz_MI_of (by decide) (Nat.le_of_ble_eq_true rfl) (vp_nar_int _) ?_
  intro p e s m args below meth c A ls Q hx hb hml hown hts hK hP hD hS hA hl hret
  have hown : s.vm.findClass R_X = some m.cls := hown
  have hl : lv_has ls 1 [(0, .ref h0)] := hl
  refine lv_aload_n hx hb d_X_reckonings_0 rfl (lv_at hl 0 rfl) ?_
  refine va_get (D := D) (ci := 0) (v := .int rk) (C := R_X) (T := F_X) (N := 4) hx hb hts i_X hown hK hP 0 rfl rfl 3 (by decide) (hts _ kw_76) (fun _ h9 => h9) rfl d_X_reckonings_1 ?_
  exact hret _ _ _ _ d_X_reckonings_4 hP hD hS
end
section
theorem lm_room_i (s : Nat → Nat) (k : Nat) : lm_rm s k 49 0 0 = lm_room s k := by
  unfold lm_room
  rfl
end
section
set_option maxHeartbeats 4000000 in
set_option maxRecDepth 100000 in
theorem c_M_within (l : Launch) (D : va_G) (v : Int32) (lo : Int32) (hi : Int32)  : zz_MI l y_M_within b_M_within 3 .boolean ({ frames := 0, cells := 0, slots := 0, locals := 0 } : Room) D [] [.int v, .int lo, .int hi] [] (lc_bI (decide (lo ≤ v) && decide (v ≤ hi))) [] := by
  refine zz_MI_of (by decide) (Nat.le_of_ble_eq_true rfl) (zz_narB _) ?_
  intro p e s m args below meth c A ls Q hx hb hml hown hts hK hP hD hS hA hl hret
  have hown : s.vm.findClass R_M = some m.cls := hown
  have hl : lv_has ls 3 [(0, .int v), (1, .int lo), (2, .int hi)] := hl
  refine lv_iload_n hx hb d_M_within_0 rfl (lv_at hl 0 rfl) ?_
  refine lv_iload_n hx hb d_M_within_1 rfl (lv_at hl 1 rfl) ?_
  refine lv_icmp_lt (tgt := 14) hx hb d_M_within_2 (by decide) (fun c2 => ?_) (fun c2 => ?_)
  · skip
    refine lv_iconst (v := nI 0) hx hb d_M_within_14 (by decide +kernel) ?_
    refine zz_top (z := lc_bI (decide (lo ≤ v) && decide (v ≤ hi))) (by first | exact lc_w1 (by assumption) (by assumption) | exact lc_w0 (by assumption) | exact lc_w2 (by assumption)) ?_
    exact hret _ _ _ _ d_M_within_15 hP hD hS
  · skip
    refine lv_iload_n hx hb d_M_within_5 rfl (lv_at hl 0 rfl) ?_
    refine lv_iload_n hx hb d_M_within_6 rfl (lv_at hl 2 rfl) ?_
    refine lv_icmp_gt (tgt := 14) hx hb d_M_within_7 (by decide) (fun c7 => ?_) (fun c7 => ?_)
    · skip
      refine lv_iconst (v := nI 0) hx hb d_M_within_14 (by decide +kernel) ?_
      refine zz_top (z := lc_bI (decide (lo ≤ v) && decide (v ≤ hi))) (by first | exact lc_w1 (by assumption) (by assumption) | exact lc_w0 (by assumption) | exact lc_w2 (by assumption)) ?_
      exact hret _ _ _ _ d_M_within_15 hP hD hS
    · skip
      refine lv_iconst (v := nI 1) hx hb d_M_within_10 (by decide +kernel) ?_
      refine lv_goto (tgt := 15) hx hb d_M_within_11 (by decide) ?_
      refine zz_top (z := lc_bI (decide (lo ≤ v) && decide (v ≤ hi))) (by first | exact lc_w1 (by assumption) (by assumption) | exact lc_w0 (by assumption) | exact lc_w2 (by assumption)) ?_
      exact hret _ _ _ _ d_M_within_15 hP hD hS
set_option maxHeartbeats 4000000 in
set_option maxRecDepth 100000 in
theorem c_M_find (l : Launch) (D : va_G) (cI : ClassId) (cZ : ClassId) (g0 : Nat) (a1 : Nat) (a2 : Nat) (a3 : Nat) (a4 : Nat) (a5 : Nat) (a6 : Nat) (a7 : Nat) (a8 : Nat) (nu : lc_A) (sl : Nat → Nat) (co : lc_A) (nt : Nat → Bool) (ho : lc_A) (md : Nat) (ht : Nat) (fp : lc_A) (en : Nat) (wh : lc_A) (he : lc_A) (rn : Int32) (x : Int32) (hs : ∀ i, i < 48 → i + sl i < 48) : zz_MI l y_M_find b_M_find 4 .int ({ frames := 0, cells := 0, slots := 0, locals := 0 } : Room) D [(cI, .int), (cZ, .boolean)] [.ref g0, .int x] [(g0, .inr (4, [.ref a1, .ref a2, .ref a3, .ref a4, .ref a5, .int (nI md), .int (nI ht), .ref a6, .int (nI en), .ref a7, .ref a8, .int rn])), (a1, .inl (cI, 48, .inl nu)), (a2, .inl (cI, 48, .inl (fun uu => nI (sl uu)))), (a3, .inl (cI, 48, .inl co)), (a4, .inl (cZ, 48, .inl (fun uu => lc_bI (nt uu)))), (a5, .inl (cI, 48, .inl ho)), (a6, .inl (cI, 8, .inl fp)), (a7, .inl (cI, 5, .inl wh)), (a8, .inl (cI, 20, .inl he))] (lc_oI (lm_find nu sl x)) [(g0, .inr (4, [.ref a1, .ref a2, .ref a3, .ref a4, .ref a5, .int (nI md), .int (nI ht), .ref a6, .int (nI en), .ref a7, .ref a8, .int rn])), (a1, .inl (cI, 48, .inl nu)), (a2, .inl (cI, 48, .inl (fun uu => nI (sl uu)))), (a3, .inl (cI, 48, .inl co)), (a4, .inl (cZ, 48, .inl (fun uu => lc_bI (nt uu)))), (a5, .inl (cI, 48, .inl ho)), (a6, .inl (cI, 8, .inl fp)), (a7, .inl (cI, 5, .inl wh)), (a8, .inl (cI, 20, .inl he))] := by
  refine zz_MI_of (by decide) (Nat.le_of_ble_eq_true rfl) (vp_nar_int _) ?_
  intro p e s m args below meth c A ls Q hx hb hml hown hts hK hP hD hS hA hl hret
  have hown : s.vm.findClass R_M = some m.cls := hown
  have hl : lv_has ls 4 [(0, .ref g0), (1, .int x)] := hl
  refine lv_iconst (v := (-1)) hx hb d_M_find_0 (by decide +kernel) ?_
  refine lv_istore_n (lv' := [(2, .int (-1)), (0, .ref g0), (1, .int x)]) hx hb d_M_find_1 rfl hl (by decide) rfl (fun ls hl => ?_)
  refine lv_iconst (v := nI 0) hx hb d_M_find_2 (by decide +kernel) ?_
  refine lv_istore_n (lv' := [(3, .int (nI 0)), (2, .int (-1)), (0, .ref g0), (1, .int x)]) hx hb d_M_find_3 rfl hl (by decide) rfl (fun ls hl => ?_)
  have loop4 : ∀ (fu : Nat) (i : Nat), 48 - i < fu → (hi : i ≤ 48) → ∀ (H : Heap) (locs : List Loc), va_P D classes [(g0, .inr (4, [.ref a1, .ref a2, .ref a3, .ref a4, .ref a5, .int (nI md), .int (nI ht), .ref a6, .int (nI en), .ref a7, .ref a8, .int rn])), (a1, .inl (cI, 48, .inl nu)), (a2, .inl (cI, 48, .inl (fun uu => nI (sl uu)))), (a3, .inl (cI, 48, .inl co)), (a4, .inl (cZ, 48, .inl (fun uu => lc_bI (nt uu)))), (a5, .inl (cI, 48, .inl ho)), (a6, .inl (cI, 8, .inl fp)), (a7, .inl (cI, 5, .inl wh)), (a8, .inl (cI, 20, .inl he))] H → va_D A [(g0, .inr (4, [.ref a1, .ref a2, .ref a3, .ref a4, .ref a5, .int (nI md), .int (nI ht), .ref a6, .int (nI en), .ref a7, .ref a8, .int rn])), (a1, .inl (cI, 48, .inl nu)), (a2, .inl (cI, 48, .inl (fun uu => nI (sl uu)))), (a3, .inl (cI, 48, .inl co)), (a4, .inl (cZ, 48, .inl (fun uu => lc_bI (nt uu)))), (a5, .inl (cI, 48, .inl ho)), (a6, .inl (cI, 8, .inl fp)), (a7, .inl (cI, 5, .inl wh)), (a8, .inl (cI, 20, .inl he))] → va_S A s.heap H locs → ∀ (ls : Array Slot), lv_has ls 4 [(0, .ref g0), (1, .int x), (2, .int (lc_oI (lc_lf (fun u => decide (0 < sl u) && decide (nu u = x)) i))), (3, .int (nI i))] → W p l e ({ frames := 0, cells := 0, slots := 0, locals := 0 } : Room) s m args below meth c H locs 0 0 Q (F0 m 4 ls []) := by
    intro fu
    induction fu with
    | zero => intro i hf; omega
    | succ fu ih4 =>
      intro i hf hi H locs hP hD hS ls hl
      refine lv_iload_n hx hb d_M_find_4 rfl (lv_at hl 3 rfl) ?_
      refine lv_bipush (v := nI 48) hx hb d_M_find_5 (by decide +kernel) ?_
      refine zz_icmp_ge (tgt := 41) hx hb (by omega) (by omega) d_M_find_7 (by decide) (fun c7 => ?_) (fun c7 => ?_)
      · skip
        refine lv_iload_n hx hb d_M_find_41 rfl (lv_at hl 2 rfl) ?_
        refine zz_top (z := lc_oI (lm_find nu sl x)) (by rw [show i = 48 by omega]; rfl) ?_
        exact hret _ _ _ _ d_M_find_42 hP hD hS
      · skip
        refine lv_aload_n hx hb d_M_find_10 rfl (lv_at hl 0 rfl) ?_
        refine va_get (D := D) (ci := 4) (v := .ref a2) (C := R_M) (T := F_M) (N := 12) hx hb hts i_M hown hK hP 0 rfl rfl 1 (by decide) (hts _ kw_173) (fun _ h9 => h9) rfl d_M_find_11 ?_
        refine lv_iload_n hx hb d_M_find_14 rfl (lv_at hl 3 rfl) ?_
        refine zz_iald hx hb hK hP 2 0 (f := (fun uu => nI (sl uu))) rfl rfl (i := i) (by omega) (by omega) d_M_find_15 ?_
        refine zz_top (z := nI (sl i)) rfl ?_
        have hsi := hs i (by omega)
        refine zz_if_le (tgt := 33) hx hb (by omega) d_M_find_16 (by decide) (fun c16 => ?_) (fun c16 => ?_)
        · skip
          refine lv_iload_n hx hb d_M_find_33 rfl (lv_at hl 2 rfl) ?_
          refine lv_istore_n (lv' := [(2, .int (lc_oI (lc_lf (fun u => decide (0 < sl u) && decide (nu u = x)) i))), (0, .ref g0), (1, .int x), (3, .int (nI i))]) hx hb d_M_find_34 rfl hl (by decide) rfl (fun ls hl => ?_)
          refine lv_iinc (v := nI (i + 1)) (lv' := [(3, .int (nI (i + 1))), (2, .int (lc_oI (lc_lf (fun u => decide (0 < sl u) && decide (nu u = x)) i))), (0, .ref g0), (1, .int x)]) hx hb d_M_find_35 hl (k := 3) rfl (nI_1 _) (by decide) rfl (fun ls hl => ?_)
          refine lv_goto (tgt := 4) hx hb d_M_find_38 (by decide) ?_
          have eL1 : lc_oI (lc_lf (fun u => decide (0 < sl u) && decide (nu u = x)) i) = lc_oI (lc_lf (fun u => decide (0 < sl u) && decide (nu u = x)) (i + 1)) := by first | rfl | simp [lc_lf, lc_oI, *]
          exact ih4 (i + 1) (by omega) (by omega) _ _ hP hD hS _ (zz_hlc (lv_sub (l' := [(0, .ref g0), (1, .int x), (2, .int (lc_oI (lc_lf (fun u => decide (0 < sl u) && decide (nu u = x)) i))), (3, .int (nI (i + 1)))]) hl [2, 3, 1, 0] rfl) (zz_c1 rfl (zz_c1 rfl (zz_c1 (congrArg (fun v => ((2 : Nat), Value.int v)) eL1) (zz_c1 rfl rfl)))))
        · skip
          refine lv_aload_n hx hb d_M_find_19 rfl (lv_at hl 0 rfl) ?_
          refine va_get (D := D) (ci := 4) (v := .ref a1) (C := R_M) (T := F_M) (N := 12) hx hb hts i_M hown hK hP 0 rfl rfl 0 (by decide) (hts _ kw_174) (fun _ h9 => h9) rfl d_M_find_20 ?_
          refine lv_iload_n hx hb d_M_find_23 rfl (lv_at hl 3 rfl) ?_
          refine zz_iald hx hb hK hP 1 0 (f := nu) rfl rfl (i := i) (by omega) (by omega) d_M_find_24 ?_
          refine lv_iload_n hx hb d_M_find_25 rfl (lv_at hl 1 rfl) ?_
          refine lv_icmp_ne (tgt := 33) hx hb d_M_find_26 (by decide) (fun c26 => ?_) (fun c26 => ?_)
          · skip
            refine lv_iload_n hx hb d_M_find_33 rfl (lv_at hl 2 rfl) ?_
            refine lv_istore_n (lv' := [(2, .int (lc_oI (lc_lf (fun u => decide (0 < sl u) && decide (nu u = x)) i))), (0, .ref g0), (1, .int x), (3, .int (nI i))]) hx hb d_M_find_34 rfl hl (by decide) rfl (fun ls hl => ?_)
            refine lv_iinc (v := nI (i + 1)) (lv' := [(3, .int (nI (i + 1))), (2, .int (lc_oI (lc_lf (fun u => decide (0 < sl u) && decide (nu u = x)) i))), (0, .ref g0), (1, .int x)]) hx hb d_M_find_35 hl (k := 3) rfl (nI_1 _) (by decide) rfl (fun ls hl => ?_)
            refine lv_goto (tgt := 4) hx hb d_M_find_38 (by decide) ?_
            have eL2 : lc_oI (lc_lf (fun u => decide (0 < sl u) && decide (nu u = x)) i) = lc_oI (lc_lf (fun u => decide (0 < sl u) && decide (nu u = x)) (i + 1)) := by first | rfl | simp [lc_lf, lc_oI, *]
            exact ih4 (i + 1) (by omega) (by omega) _ _ hP hD hS _ (zz_hlc (lv_sub (l' := [(0, .ref g0), (1, .int x), (2, .int (lc_oI (lc_lf (fun u => decide (0 < sl u) && decide (nu u = x)) i))), (3, .int (nI (i + 1)))]) hl [2, 3, 1, 0] rfl) (zz_c1 rfl (zz_c1 rfl (zz_c1 (congrArg (fun v => ((2 : Nat), Value.int v)) eL2) (zz_c1 rfl rfl)))))
          · skip
            refine lv_iload_n hx hb d_M_find_29 rfl (lv_at hl 3 rfl) ?_
            refine lv_goto (tgt := 34) hx hb d_M_find_30 (by decide) ?_
            refine lv_istore_n (lv' := [(2, .int (nI i)), (0, .ref g0), (1, .int x), (3, .int (nI i))]) hx hb d_M_find_34 rfl hl (by decide) rfl (fun ls hl => ?_)
            refine lv_iinc (v := nI (i + 1)) (lv' := [(3, .int (nI (i + 1))), (2, .int (nI i)), (0, .ref g0), (1, .int x)]) hx hb d_M_find_35 hl (k := 3) rfl (nI_1 _) (by decide) rfl (fun ls hl => ?_)
            refine lv_goto (tgt := 4) hx hb d_M_find_38 (by decide) ?_
            have eL3 : nI i = lc_oI (lc_lf (fun u => decide (0 < sl u) && decide (nu u = x)) (i + 1)) := by first | rfl | simp [lc_lf, lc_oI, *]
            exact ih4 (i + 1) (by omega) (by omega) _ _ hP hD hS _ (zz_hlc (lv_sub (l' := [(0, .ref g0), (1, .int x), (2, .int (nI i)), (3, .int (nI (i + 1)))]) hl [2, 3, 1, 0] rfl) (zz_c1 rfl (zz_c1 rfl (zz_c1 (congrArg (fun v => ((2 : Nat), Value.int v)) eL3) (zz_c1 rfl rfl)))))
  have eL4 : (-1) = lc_oI (lc_lf (fun u => decide (0 < sl u) && decide (nu u = x)) 0) := by first | rfl | simp [lc_lf, lc_oI, *]
  exact loop4 49 0 (by omega) (by omega) _ _ hP hD hS _ (zz_hlc (lv_sub (l' := [(0, .ref g0), (1, .int x), (2, .int (-1)), (3, .int (nI 0))]) hl [2, 3, 1, 0] rfl) (zz_c1 rfl (zz_c1 rfl (zz_c1 (congrArg (fun v => ((2 : Nat), Value.int v)) eL4) (zz_c1 rfl rfl)))))
end
section
set_option maxHeartbeats 4000000 in
set_option maxRecDepth 100000 in
theorem c_M_holders (l : Launch) (D : va_G) (cI : ClassId) (cZ : ClassId) (g0 : Nat) (a1 : Nat) (a2 : Nat) (a3 : Nat) (a4 : Nat) (a5 : Nat) (a6 : Nat) (a7 : Nat) (a8 : Nat) (nu : lc_A) (sl : Nat → Nat) (co : lc_A) (nt : Nat → Bool) (ho : lc_A) (md : Nat) (ht : Nat) (fp : lc_A) (en : Nat) (wh : lc_A) (he : lc_A) (rn : Int32) (x : Int32) (hs : ∀ i, i < 48 → i + sl i < 48) : zz_MI l y_M_holders b_M_holders 5 .int ({ frames := 0, cells := 0, slots := 0, locals := 0 } : Room) D [(cI, .int), (cZ, .boolean)] [.ref g0, .int x] [(g0, .inr (4, [.ref a1, .ref a2, .ref a3, .ref a4, .ref a5, .int (nI md), .int (nI ht), .ref a6, .int (nI en), .ref a7, .ref a8, .int rn])), (a1, .inl (cI, 48, .inl nu)), (a2, .inl (cI, 48, .inl (fun uu => nI (sl uu)))), (a3, .inl (cI, 48, .inl co)), (a4, .inl (cZ, 48, .inl (fun uu => lc_bI (nt uu)))), (a5, .inl (cI, 48, .inl ho)), (a6, .inl (cI, 8, .inl fp)), (a7, .inl (cI, 5, .inl wh)), (a8, .inl (cI, 20, .inl he))] (nI (lm_hs sl ho x 48)) [(g0, .inr (4, [.ref a1, .ref a2, .ref a3, .ref a4, .ref a5, .int (nI md), .int (nI ht), .ref a6, .int (nI en), .ref a7, .ref a8, .int rn])), (a1, .inl (cI, 48, .inl nu)), (a2, .inl (cI, 48, .inl (fun uu => nI (sl uu)))), (a3, .inl (cI, 48, .inl co)), (a4, .inl (cZ, 48, .inl (fun uu => lc_bI (nt uu)))), (a5, .inl (cI, 48, .inl ho)), (a6, .inl (cI, 8, .inl fp)), (a7, .inl (cI, 5, .inl wh)), (a8, .inl (cI, 20, .inl he))] := by
  refine zz_MI_of (by decide) (Nat.le_of_ble_eq_true rfl) (vp_nar_int _) ?_
  intro p e s m args below meth c A ls Q hx hb hml hown hts hK hP hD hS hA hl hret
  have hown : s.vm.findClass R_M = some m.cls := hown
  have hl : lv_has ls 5 [(0, .ref g0), (1, .int x)] := hl
  refine lv_iconst (v := nI 0) hx hb d_M_holders_0 (by decide +kernel) ?_
  refine lv_istore_n (lv' := [(2, .int (nI 0)), (0, .ref g0), (1, .int x)]) hx hb d_M_holders_1 rfl hl (by decide) rfl (fun ls hl => ?_)
  refine lv_iconst (v := nI 0) hx hb d_M_holders_2 (by decide +kernel) ?_
  refine lv_istore_n (lv' := [(3, .int (nI 0)), (2, .int (nI 0)), (0, .ref g0), (1, .int x)]) hx hb d_M_holders_3 rfl hl (by decide) rfl (fun ls hl => ?_)
  have loop4 : ∀ (fu : Nat) (i : Nat), 48 - i < fu → (hi : i ≤ 48) → ∀ (H : Heap) (locs : List Loc), va_P D classes [(g0, .inr (4, [.ref a1, .ref a2, .ref a3, .ref a4, .ref a5, .int (nI md), .int (nI ht), .ref a6, .int (nI en), .ref a7, .ref a8, .int rn])), (a1, .inl (cI, 48, .inl nu)), (a2, .inl (cI, 48, .inl (fun uu => nI (sl uu)))), (a3, .inl (cI, 48, .inl co)), (a4, .inl (cZ, 48, .inl (fun uu => lc_bI (nt uu)))), (a5, .inl (cI, 48, .inl ho)), (a6, .inl (cI, 8, .inl fp)), (a7, .inl (cI, 5, .inl wh)), (a8, .inl (cI, 20, .inl he))] H → va_D A [(g0, .inr (4, [.ref a1, .ref a2, .ref a3, .ref a4, .ref a5, .int (nI md), .int (nI ht), .ref a6, .int (nI en), .ref a7, .ref a8, .int rn])), (a1, .inl (cI, 48, .inl nu)), (a2, .inl (cI, 48, .inl (fun uu => nI (sl uu)))), (a3, .inl (cI, 48, .inl co)), (a4, .inl (cZ, 48, .inl (fun uu => lc_bI (nt uu)))), (a5, .inl (cI, 48, .inl ho)), (a6, .inl (cI, 8, .inl fp)), (a7, .inl (cI, 5, .inl wh)), (a8, .inl (cI, 20, .inl he))] → va_S A s.heap H locs → ∀ (ls : Array Slot), lv_has ls 5 [(0, .ref g0), (1, .int x), (2, .int (nI (lm_hs sl ho x i))), (3, .int (nI i))] → W p l e ({ frames := 0, cells := 0, slots := 0, locals := 0 } : Room) s m args below meth c H locs 0 0 Q (F0 m 4 ls []) := by
    intro fu
    induction fu with
    | zero => intro i hf; omega
    | succ fu ih4 =>
      intro i hf hi H locs hP hD hS ls hl
      refine lv_iload_n hx hb d_M_holders_4 rfl (lv_at hl 3 rfl) ?_
      refine lv_bipush (v := nI 48) hx hb d_M_holders_5 (by decide +kernel) ?_
      refine zz_icmp_ge (tgt := 57) hx hb (by omega) (by omega) d_M_holders_7 (by decide) (fun c7 => ?_) (fun c7 => ?_)
      · skip
        refine lv_iload_n hx hb d_M_holders_57 rfl (lv_at hl 2 rfl) ?_
        refine zz_top (z := nI (lm_hs sl ho x 48)) (by rw [show i = 48 by omega]) ?_
        exact hret _ _ _ _ d_M_holders_58 hP hD hS
      · skip
        refine lv_iconst (v := nI 1) hx hb d_M_holders_10 (by decide +kernel) ?_
        refine lv_istore (lv' := [(4, .int (nI 1)), (0, .ref g0), (1, .int x), (2, .int (nI (lm_hs sl ho x i))), (3, .int (nI i))]) hx hb d_M_holders_11 hl (by decide) rfl (fun ls hl => ?_)
        have loop13 : ∀ (fu : Nat) (j : Nat), 48 - j < fu → (hj : j ≤ sl i) → ∀ (H : Heap) (locs : List Loc), va_P D classes [(g0, .inr (4, [.ref a1, .ref a2, .ref a3, .ref a4, .ref a5, .int (nI md), .int (nI ht), .ref a6, .int (nI en), .ref a7, .ref a8, .int rn])), (a1, .inl (cI, 48, .inl nu)), (a2, .inl (cI, 48, .inl (fun uu => nI (sl uu)))), (a3, .inl (cI, 48, .inl co)), (a4, .inl (cZ, 48, .inl (fun uu => lc_bI (nt uu)))), (a5, .inl (cI, 48, .inl ho)), (a6, .inl (cI, 8, .inl fp)), (a7, .inl (cI, 5, .inl wh)), (a8, .inl (cI, 20, .inl he))] H → va_D A [(g0, .inr (4, [.ref a1, .ref a2, .ref a3, .ref a4, .ref a5, .int (nI md), .int (nI ht), .ref a6, .int (nI en), .ref a7, .ref a8, .int rn])), (a1, .inl (cI, 48, .inl nu)), (a2, .inl (cI, 48, .inl (fun uu => nI (sl uu)))), (a3, .inl (cI, 48, .inl co)), (a4, .inl (cZ, 48, .inl (fun uu => lc_bI (nt uu)))), (a5, .inl (cI, 48, .inl ho)), (a6, .inl (cI, 8, .inl fp)), (a7, .inl (cI, 5, .inl wh)), (a8, .inl (cI, 20, .inl he))] → va_S A s.heap H locs → ∀ (ls : Array Slot), lv_has ls 5 [(0, .ref g0), (1, .int x), (2, .int (nI (lm_hs sl ho x i + lc_ct (fun u => decide (ho (i + 1 + u) = x)) j))), (3, .int (nI i)), (4, .int (nI (j + 1)))] → W p l e ({ frames := 0, cells := 0, slots := 0, locals := 0 } : Room) s m args below meth c H locs 0 0 Q (F0 m 13 ls []) := by
          intro fu
          induction fu with
          | zero => intro j hf; omega
          | succ fu ih13 =>
            intro j hf hj H locs hP hD hS ls hl
            have hsi := hs i (by omega)
            refine lv_iload hx hb d_M_holders_13 (lv_at hl 4 rfl) ?_
            refine lv_aload_n hx hb d_M_holders_15 rfl (lv_at hl 0 rfl) ?_
            refine va_get (D := D) (ci := 4) (v := .ref a2) (C := R_M) (T := F_M) (N := 12) hx hb hts i_M hown hK hP 0 rfl rfl 1 (by decide) (hts _ kw_173) (fun _ h9 => h9) rfl d_M_holders_16 ?_
            refine lv_iload_n hx hb d_M_holders_19 rfl (lv_at hl 3 rfl) ?_
            refine zz_iald hx hb hK hP 2 0 (f := (fun uu => nI (sl uu))) rfl rfl (i := i) (by omega) (by omega) d_M_holders_20 ?_
            refine zz_top (z := nI (sl i)) rfl ?_
            refine zz_icmp_gt (tgt := 51) hx hb (by omega) (by omega) d_M_holders_21 (by decide) (fun c21 => ?_) (fun c21 => ?_)
            · skip
              refine lv_iinc (v := nI (i + 1)) (lv' := [(3, .int (nI (i + 1))), (0, .ref g0), (1, .int x), (2, .int (nI (lm_hs sl ho x i + lc_ct (fun u => decide (ho (i + 1 + u) = x)) j))), (4, .int (nI (j + 1)))]) hx hb d_M_holders_51 hl (k := 3) rfl (nI_1 _) (by decide) rfl (fun ls hl => ?_)
              refine lv_goto (tgt := 4) hx hb d_M_holders_54 (by decide) ?_
              have eL1 : lm_hs sl ho x i + lc_ct (fun u => decide (ho (i + 1 + u) = x)) j = lm_hs sl ho x (i + 1) := by first | rfl | (rw [show j = sl i by omega]; rfl)
              exact ih4 (i + 1) (by omega) (by omega) _ _ hP hD hS _ (zz_hlc (lv_sub (l' := [(0, .ref g0), (1, .int x), (2, .int (nI (lm_hs sl ho x i + lc_ct (fun u => decide (ho (i + 1 + u) = x)) j))), (3, .int (nI (i + 1)))]) hl [1, 2, 3, 0] rfl) (zz_c1 rfl (zz_c1 rfl (zz_c1 (congrArg (fun v => ((2 : Nat), Value.int (nI v))) eL1) (zz_c1 rfl rfl)))))
            · skip
              refine lv_aload_n hx hb d_M_holders_24 rfl (lv_at hl 0 rfl) ?_
              refine va_get (D := D) (ci := 4) (v := .ref a5) (C := R_M) (T := F_M) (N := 12) hx hb hts i_M hown hK hP 0 rfl rfl 4 (by decide) (hts _ kw_175) (fun _ h9 => h9) rfl d_M_holders_25 ?_
              refine lv_iload_n hx hb d_M_holders_28 rfl (lv_at hl 3 rfl) ?_
              refine lv_iload hx hb d_M_holders_29 (lv_at hl 4 rfl) ?_
              refine zz_iadd hx hb d_M_holders_31 ?_
              refine zz_iald hx hb hK hP 5 0 (f := ho) rfl rfl (i := i + (j + 1)) (by omega) (by omega) d_M_holders_32 ?_
              refine lv_iload_n hx hb d_M_holders_33 rfl (lv_at hl 1 rfl) ?_
              refine lv_icmp_ne (tgt := 43) hx hb d_M_holders_34 (by decide) (fun c34 => ?_) (fun c34 => ?_)
              · skip
                refine lv_iload_n hx hb d_M_holders_43 rfl (lv_at hl 2 rfl) ?_
                refine lv_istore_n (lv' := [(2, .int (nI (lm_hs sl ho x i + lc_ct (fun u => decide (ho (i + 1 + u) = x)) j))), (0, .ref g0), (1, .int x), (3, .int (nI i)), (4, .int (nI (j + 1)))]) hx hb d_M_holders_44 rfl hl (by decide) rfl (fun ls hl => ?_)
                refine lv_iinc (v := nI ((j + 1) + 1)) (lv' := [(4, .int (nI ((j + 1) + 1))), (2, .int (nI (lm_hs sl ho x i + lc_ct (fun u => decide (ho (i + 1 + u) = x)) j))), (0, .ref g0), (1, .int x), (3, .int (nI i))]) hx hb d_M_holders_45 hl (k := 4) rfl (nI_1 _) (by decide) rfl (fun ls hl => ?_)
                refine lv_goto (tgt := 13) hx hb d_M_holders_48 (by decide) ?_
                have eL2 : lm_hs sl ho x i + lc_ct (fun u => decide (ho (i + 1 + u) = x)) j = lm_hs sl ho x i + lc_ct (fun u => decide (ho (i + 1 + u) = x)) (j + 1) := by first | rfl | (simp [lc_ct, show i + 1 + j = i + (j + 1) by omega, *]; done) | (simp [lc_ct, show i + 1 + j = i + (j + 1) by omega, *]; omega)
                exact ih13 (j + 1) (by omega) (by omega) _ _ hP hD hS _ (zz_hlc (lv_sub (l' := [(0, .ref g0), (1, .int x), (2, .int (nI (lm_hs sl ho x i + lc_ct (fun u => decide (ho (i + 1 + u) = x)) j))), (3, .int (nI i)), (4, .int (nI ((j + 1) + 1)))]) hl [2, 3, 1, 4, 0] rfl) (zz_c1 rfl (zz_c1 rfl (zz_c1 (congrArg (fun v => ((2 : Nat), Value.int (nI v))) eL2) (zz_c1 rfl (zz_c1 rfl rfl))))))
              · skip
                refine lv_iload_n hx hb d_M_holders_37 rfl (lv_at hl 2 rfl) ?_
                refine lv_iconst (v := nI 1) hx hb d_M_holders_38 (by decide +kernel) ?_
                refine zz_iadd hx hb d_M_holders_39 ?_
                refine lv_goto (tgt := 44) hx hb d_M_holders_40 (by decide) ?_
                refine lv_istore_n (lv' := [(2, .int (nI ((lm_hs sl ho x i + lc_ct (fun u => decide (ho (i + 1 + u) = x)) j) + 1))), (0, .ref g0), (1, .int x), (3, .int (nI i)), (4, .int (nI (j + 1)))]) hx hb d_M_holders_44 rfl hl (by decide) rfl (fun ls hl => ?_)
                refine lv_iinc (v := nI ((j + 1) + 1)) (lv' := [(4, .int (nI ((j + 1) + 1))), (2, .int (nI ((lm_hs sl ho x i + lc_ct (fun u => decide (ho (i + 1 + u) = x)) j) + 1))), (0, .ref g0), (1, .int x), (3, .int (nI i))]) hx hb d_M_holders_45 hl (k := 4) rfl (nI_1 _) (by decide) rfl (fun ls hl => ?_)
                refine lv_goto (tgt := 13) hx hb d_M_holders_48 (by decide) ?_
                have eL3 : (lm_hs sl ho x i + lc_ct (fun u => decide (ho (i + 1 + u) = x)) j) + 1 = lm_hs sl ho x i + lc_ct (fun u => decide (ho (i + 1 + u) = x)) (j + 1) := by first | rfl | (simp [lc_ct, show i + 1 + j = i + (j + 1) by omega, *]; done) | (simp [lc_ct, show i + 1 + j = i + (j + 1) by omega, *]; omega)
                exact ih13 (j + 1) (by omega) (by omega) _ _ hP hD hS _ (zz_hlc (lv_sub (l' := [(0, .ref g0), (1, .int x), (2, .int (nI ((lm_hs sl ho x i + lc_ct (fun u => decide (ho (i + 1 + u) = x)) j) + 1))), (3, .int (nI i)), (4, .int (nI ((j + 1) + 1)))]) hl [2, 3, 1, 4, 0] rfl) (zz_c1 rfl (zz_c1 rfl (zz_c1 (congrArg (fun v => ((2 : Nat), Value.int (nI v))) eL3) (zz_c1 rfl (zz_c1 rfl rfl))))))
        have eL4 : lm_hs sl ho x i = lm_hs sl ho x i + lc_ct (fun u => decide (ho (i + 1 + u) = x)) 0 := by first | rfl | (simp [lc_ct, show i + 1 + j = i + (j + 1) by omega, *]; done) | (simp [lc_ct, show i + 1 + j = i + (j + 1) by omega, *]; omega)
        have eL5 : 1 = 0 + 1 := by omega
        exact loop13 49 0 (by omega) (by omega) _ _ hP hD hS _ (zz_hlc (lv_sub (l' := [(0, .ref g0), (1, .int x), (2, .int (nI (lm_hs sl ho x i))), (3, .int (nI i)), (4, .int (nI 1))]) hl [1, 2, 3, 4, 0] rfl) (zz_c1 rfl (zz_c1 rfl (zz_c1 (congrArg (fun v => ((2 : Nat), Value.int (nI v))) eL4) (zz_c1 rfl (zz_c1 (congrArg (fun v => ((4 : Nat), Value.int (nI v))) eL5) rfl))))))
  have eL6 : 0 = lm_hs sl ho x 0 := by first | rfl | (rw [show j = sl i by omega]; rfl)
  exact loop4 49 0 (by omega) (by omega) _ _ hP hD hS _ (zz_hlc (lv_sub (l' := [(0, .ref g0), (1, .int x), (2, .int (nI 0)), (3, .int (nI 0))]) hl [2, 3, 1, 0] rfl) (zz_c1 rfl (zz_c1 rfl (zz_c1 (congrArg (fun v => ((2 : Nat), Value.int (nI v))) eL6) (zz_c1 rfl rfl)))))
end
section
set_option maxHeartbeats 4000000 in
set_option maxRecDepth 100000 in
theorem c_M_onStack (l : Launch) (D : va_G) (cI : ClassId) (cZ : ClassId) (g0 : Nat) (a1 : Nat) (a2 : Nat) (a3 : Nat) (a4 : Nat) (a5 : Nat) (a6 : Nat) (a7 : Nat) (a8 : Nat) (nu : lc_A) (sl : Nat → Nat) (co : lc_A) (nt : Nat → Bool) (ho : lc_A) (md : Nat) (ht : Nat) (fp : lc_A) (en : Nat) (wh : lc_A) (he : lc_A) (rn : Int32) (x : Int32) (hht : ht ≤ 8) : zz_MI l y_M_onStack b_M_onStack 4 .boolean ({ frames := 0, cells := 0, slots := 0, locals := 0 } : Room) D [(cI, .int), (cZ, .boolean)] [.ref g0, .int x] [(g0, .inr (4, [.ref a1, .ref a2, .ref a3, .ref a4, .ref a5, .int (nI md), .int (nI ht), .ref a6, .int (nI en), .ref a7, .ref a8, .int rn])), (a1, .inl (cI, 48, .inl nu)), (a2, .inl (cI, 48, .inl (fun uu => nI (sl uu)))), (a3, .inl (cI, 48, .inl co)), (a4, .inl (cZ, 48, .inl (fun uu => lc_bI (nt uu)))), (a5, .inl (cI, 48, .inl ho)), (a6, .inl (cI, 8, .inl fp)), (a7, .inl (cI, 5, .inl wh)), (a8, .inl (cI, 20, .inl he))] (lc_bI (lc_on fp ht x)) [(g0, .inr (4, [.ref a1, .ref a2, .ref a3, .ref a4, .ref a5, .int (nI md), .int (nI ht), .ref a6, .int (nI en), .ref a7, .ref a8, .int rn])), (a1, .inl (cI, 48, .inl nu)), (a2, .inl (cI, 48, .inl (fun uu => nI (sl uu)))), (a3, .inl (cI, 48, .inl co)), (a4, .inl (cZ, 48, .inl (fun uu => lc_bI (nt uu)))), (a5, .inl (cI, 48, .inl ho)), (a6, .inl (cI, 8, .inl fp)), (a7, .inl (cI, 5, .inl wh)), (a8, .inl (cI, 20, .inl he))] := by
  refine zz_MI_of (by decide) (Nat.le_of_ble_eq_true rfl) (zz_narB _) ?_
  intro p e s m args below meth c A ls Q hx hb hml hown hts hK hP hD hS hA hl hret
  have hown : s.vm.findClass R_M = some m.cls := hown
  have hl : lv_has ls 4 [(0, .ref g0), (1, .int x)] := hl
  refine lv_iconst (v := nI 0) hx hb d_M_onStack_0 (by decide +kernel) ?_
  refine lv_istore_n (lv' := [(2, .int (nI 0)), (0, .ref g0), (1, .int x)]) hx hb d_M_onStack_1 rfl hl (by decide) rfl (fun ls hl => ?_)
  refine lv_iconst (v := nI 0) hx hb d_M_onStack_2 (by decide +kernel) ?_
  refine lv_istore_n (lv' := [(3, .int (nI 0)), (2, .int (nI 0)), (0, .ref g0), (1, .int x)]) hx hb d_M_onStack_3 rfl hl (by decide) rfl (fun ls hl => ?_)
  have loop4 : ∀ (fu : Nat) (i : Nat), 8 - i < fu → (hi : i ≤ ht) → ∀ (H : Heap) (locs : List Loc), va_P D classes [(g0, .inr (4, [.ref a1, .ref a2, .ref a3, .ref a4, .ref a5, .int (nI md), .int (nI ht), .ref a6, .int (nI en), .ref a7, .ref a8, .int rn])), (a1, .inl (cI, 48, .inl nu)), (a2, .inl (cI, 48, .inl (fun uu => nI (sl uu)))), (a3, .inl (cI, 48, .inl co)), (a4, .inl (cZ, 48, .inl (fun uu => lc_bI (nt uu)))), (a5, .inl (cI, 48, .inl ho)), (a6, .inl (cI, 8, .inl fp)), (a7, .inl (cI, 5, .inl wh)), (a8, .inl (cI, 20, .inl he))] H → va_D A [(g0, .inr (4, [.ref a1, .ref a2, .ref a3, .ref a4, .ref a5, .int (nI md), .int (nI ht), .ref a6, .int (nI en), .ref a7, .ref a8, .int rn])), (a1, .inl (cI, 48, .inl nu)), (a2, .inl (cI, 48, .inl (fun uu => nI (sl uu)))), (a3, .inl (cI, 48, .inl co)), (a4, .inl (cZ, 48, .inl (fun uu => lc_bI (nt uu)))), (a5, .inl (cI, 48, .inl ho)), (a6, .inl (cI, 8, .inl fp)), (a7, .inl (cI, 5, .inl wh)), (a8, .inl (cI, 20, .inl he))] → va_S A s.heap H locs → ∀ (ls : Array Slot), lv_has ls 4 [(0, .ref g0), (1, .int x), (2, .int (lc_bI (lc_an (fun u => decide (fp u = x)) i))), (3, .int (nI i))] → W p l e ({ frames := 0, cells := 0, slots := 0, locals := 0 } : Room) s m args below meth c H locs 0 0 Q (F0 m 4 ls []) := by
    intro fu
    induction fu with
    | zero => intro i hf; omega
    | succ fu ih4 =>
      intro i hf hi H locs hP hD hS ls hl
      refine lv_iload_n hx hb d_M_onStack_4 rfl (lv_at hl 3 rfl) ?_
      refine lv_aload_n hx hb d_M_onStack_5 rfl (lv_at hl 0 rfl) ?_
      refine va_get (D := D) (ci := 4) (v := .int (nI ht)) (C := R_M) (T := F_M) (N := 12) hx hb hts i_M hown hK hP 0 rfl rfl 6 (by decide) (hts _ kw_176) (fun _ h9 => h9) rfl d_M_onStack_6 ?_
      refine zz_icmp_ge (tgt := 38) hx hb (by omega) (by omega) d_M_onStack_9 (by decide) (fun c9 => ?_) (fun c9 => ?_)
      · skip
        refine lv_iload_n hx hb d_M_onStack_38 rfl (lv_at hl 2 rfl) ?_
        refine zz_top (z := lc_bI (lc_on fp ht x)) (by rw [show i = ht by omega]; rfl) ?_
        exact hret _ _ _ _ d_M_onStack_39 hP hD hS
      · skip
        refine lv_iload_n hx hb d_M_onStack_12 rfl (lv_at hl 2 rfl) ?_
        refine zz_bI (fun h13 => ?_) (fun h13 => ?_)
        · skip
          refine zz_if_ne (tgt := 26) hx hb (by omega) d_M_onStack_13 (by decide) (fun c13 => ?_) (fun c13 => ?_)
          · skip
            refine lv_iconst (v := nI 1) hx hb d_M_onStack_26 (by decide +kernel) ?_
            refine lv_goto (tgt := 31) hx hb d_M_onStack_27 (by decide) ?_
            refine lv_istore_n (lv' := [(2, .int (nI 1)), (0, .ref g0), (1, .int x), (3, .int (nI i))]) hx hb d_M_onStack_31 rfl hl (by decide) rfl (fun ls hl => ?_)
            refine lv_iinc (v := nI (i + 1)) (lv' := [(3, .int (nI (i + 1))), (2, .int (nI 1)), (0, .ref g0), (1, .int x)]) hx hb d_M_onStack_32 hl (k := 3) rfl (nI_1 _) (by decide) rfl (fun ls hl => ?_)
            refine lv_goto (tgt := 4) hx hb d_M_onStack_35 (by decide) ?_
            have eL1 : nI 1 = lc_bI (lc_an (fun u => decide (fp u = x)) (i + 1)) := by first | rfl | simp [lc_an, lc_bI, *]
            exact ih4 (i + 1) (by omega) (by omega) _ _ hP hD hS _ (zz_hlc (lv_sub (l' := [(0, .ref g0), (1, .int x), (2, .int (nI 1)), (3, .int (nI (i + 1)))]) hl [2, 3, 1, 0] rfl) (zz_c1 rfl (zz_c1 rfl (zz_c1 (congrArg (fun v => ((2 : Nat), Value.int v)) eL1) (zz_c1 rfl rfl)))))
          · skip
            exact absurd c13 (by omega)
        · skip
          refine zz_if_ne (tgt := 26) hx hb (by omega) d_M_onStack_13 (by decide) (fun c13 => ?_) (fun c13 => ?_)
          · skip
            exact absurd c13 (by omega)
          · skip
            refine lv_aload_n hx hb d_M_onStack_16 rfl (lv_at hl 0 rfl) ?_
            refine va_get (D := D) (ci := 4) (v := .ref a6) (C := R_M) (T := F_M) (N := 12) hx hb hts i_M hown hK hP 0 rfl rfl 7 (by decide) (hts _ kw_177) (fun _ h9 => h9) rfl d_M_onStack_17 ?_
            refine lv_iload_n hx hb d_M_onStack_20 rfl (lv_at hl 3 rfl) ?_
            refine zz_iald hx hb hK hP 6 0 (f := fp) rfl rfl (i := i) (by omega) (by omega) d_M_onStack_21 ?_
            refine lv_iload_n hx hb d_M_onStack_22 rfl (lv_at hl 1 rfl) ?_
            refine lv_icmp_ne (tgt := 30) hx hb d_M_onStack_23 (by decide) (fun c23 => ?_) (fun c23 => ?_)
            · skip
              refine lv_iconst (v := nI 0) hx hb d_M_onStack_30 (by decide +kernel) ?_
              refine lv_istore_n (lv' := [(2, .int (nI 0)), (0, .ref g0), (1, .int x), (3, .int (nI i))]) hx hb d_M_onStack_31 rfl hl (by decide) rfl (fun ls hl => ?_)
              refine lv_iinc (v := nI (i + 1)) (lv' := [(3, .int (nI (i + 1))), (2, .int (nI 0)), (0, .ref g0), (1, .int x)]) hx hb d_M_onStack_32 hl (k := 3) rfl (nI_1 _) (by decide) rfl (fun ls hl => ?_)
              refine lv_goto (tgt := 4) hx hb d_M_onStack_35 (by decide) ?_
              have eL2 : nI 0 = lc_bI (lc_an (fun u => decide (fp u = x)) (i + 1)) := by first | rfl | simp [lc_an, lc_bI, *]
              exact ih4 (i + 1) (by omega) (by omega) _ _ hP hD hS _ (zz_hlc (lv_sub (l' := [(0, .ref g0), (1, .int x), (2, .int (nI 0)), (3, .int (nI (i + 1)))]) hl [2, 3, 1, 0] rfl) (zz_c1 rfl (zz_c1 rfl (zz_c1 (congrArg (fun v => ((2 : Nat), Value.int v)) eL2) (zz_c1 rfl rfl)))))
            · skip
              refine lv_iconst (v := nI 1) hx hb d_M_onStack_26 (by decide +kernel) ?_
              refine lv_goto (tgt := 31) hx hb d_M_onStack_27 (by decide) ?_
              refine lv_istore_n (lv' := [(2, .int (nI 1)), (0, .ref g0), (1, .int x), (3, .int (nI i))]) hx hb d_M_onStack_31 rfl hl (by decide) rfl (fun ls hl => ?_)
              refine lv_iinc (v := nI (i + 1)) (lv' := [(3, .int (nI (i + 1))), (2, .int (nI 1)), (0, .ref g0), (1, .int x)]) hx hb d_M_onStack_32 hl (k := 3) rfl (nI_1 _) (by decide) rfl (fun ls hl => ?_)
              refine lv_goto (tgt := 4) hx hb d_M_onStack_35 (by decide) ?_
              have eL3 : nI 1 = lc_bI (lc_an (fun u => decide (fp u = x)) (i + 1)) := by first | rfl | simp [lc_an, lc_bI, *]
              exact ih4 (i + 1) (by omega) (by omega) _ _ hP hD hS _ (zz_hlc (lv_sub (l' := [(0, .ref g0), (1, .int x), (2, .int (nI 1)), (3, .int (nI (i + 1)))]) hl [2, 3, 1, 0] rfl) (zz_c1 rfl (zz_c1 rfl (zz_c1 (congrArg (fun v => ((2 : Nat), Value.int v)) eL3) (zz_c1 rfl rfl)))))
  have eL4 : nI 0 = lc_bI (lc_an (fun u => decide (fp u = x)) 0) := by first | rfl | simp [lc_an, lc_bI, *]
  exact loop4 9 0 (by omega) (by omega) _ _ hP hD hS _ (zz_hlc (lv_sub (l' := [(0, .ref g0), (1, .int x), (2, .int (nI 0)), (3, .int (nI 0))]) hl [2, 3, 1, 0] rfl) (zz_c1 rfl (zz_c1 rfl (zz_c1 (congrArg (fun v => ((2 : Nat), Value.int v)) eL4) (zz_c1 rfl rfl)))))
end
section
set_option maxHeartbeats 4000000 in
set_option maxRecDepth 100000 in
theorem c_M_recount (l : Launch) (D : va_G) (cI : ClassId) (cZ : ClassId) (g0 : Nat) (a1 : Nat) (a2 : Nat) (a3 : Nat) (a4 : Nat) (a5 : Nat) (a6 : Nat) (a7 : Nat) (a8 : Nat) (nu : lc_A) (sl : Nat → Nat) (co : lc_A) (nt : Nat → Bool) (ho : lc_A) (md : Nat) (ht : Nat) (fp : lc_A) (en : Nat) (wh : lc_A) (he : lc_A) (rn : Int32) (hs : ∀ i, i < 48 → i + sl i < 48) : zz_MV l y_M_recount b_M_recount 2 ({ frames := 1, cells := 0, slots := 0, locals := 24 } : Room) D [(cI, .int), (cZ, .boolean)] [.ref g0] [(g0, .inr (4, [.ref a1, .ref a2, .ref a3, .ref a4, .ref a5, .int (nI md), .int (nI ht), .ref a6, .int (nI en), .ref a7, .ref a8, .int rn])), (a1, .inl (cI, 48, .inl nu)), (a2, .inl (cI, 48, .inl (fun uu => nI (sl uu)))), (a3, .inl (cI, 48, .inl co)), (a4, .inl (cZ, 48, .inl (fun uu => lc_bI (nt uu)))), (a5, .inl (cI, 48, .inl ho)), (a6, .inl (cI, 8, .inl fp)), (a7, .inl (cI, 5, .inl wh)), (a8, .inl (cI, 20, .inl he))] [(g0, .inr (4, [.ref a1, .ref a2, .ref a3, .ref a4, .ref a5, .int (nI md), .int (nI ht), .ref a6, .int (nI en), .ref a7, .ref a8, .int rn])), (a1, .inl (cI, 48, .inl nu)), (a2, .inl (cI, 48, .inl (fun uu => nI (sl uu)))), (a3, .inl (cI, 48, .inl (lm_mix 48 (lm_rc sl nu ho) co))), (a4, .inl (cZ, 48, .inl (fun uu => lc_bI ((lm_mixB 48 nt) uu)))), (a5, .inl (cI, 48, .inl ho)), (a6, .inl (cI, 8, .inl fp)), (a7, .inl (cI, 5, .inl wh)), (a8, .inl (cI, 20, .inl he))] := by
  refine zz_MV_of (by decide) (Nat.le_of_ble_eq_true rfl) ?_
  intro p e s m args below meth c A ls Q hx hb hml hown hts hK hP hD hS hA hl hret
  have hown : s.vm.findClass R_M = some m.cls := hown
  have hl : lv_has ls 2 [(0, .ref g0)] := hl
  refine lv_iconst (v := nI 0) hx hb d_M_recount_0 (by decide +kernel) ?_
  refine lv_istore_n (lv' := [(1, .int (nI 0)), (0, .ref g0)]) hx hb d_M_recount_1 rfl hl (by decide) rfl (fun ls hl => ?_)
  have loop2 : ∀ (fu : Nat) (i : Nat), 48 - i < fu → (hi : i ≤ 48) → ∀ (H : Heap) (locs : List Loc), va_P D classes [(g0, .inr (4, [.ref a1, .ref a2, .ref a3, .ref a4, .ref a5, .int (nI md), .int (nI ht), .ref a6, .int (nI en), .ref a7, .ref a8, .int rn])), (a1, .inl (cI, 48, .inl nu)), (a2, .inl (cI, 48, .inl (fun uu => nI (sl uu)))), (a3, .inl (cI, 48, .inl (lm_mix i (lm_rc sl nu ho) co))), (a4, .inl (cZ, 48, .inl (fun uu => lc_bI ((lm_mixB i nt) uu)))), (a5, .inl (cI, 48, .inl ho)), (a6, .inl (cI, 8, .inl fp)), (a7, .inl (cI, 5, .inl wh)), (a8, .inl (cI, 20, .inl he))] H → va_D A [(g0, .inr (4, [.ref a1, .ref a2, .ref a3, .ref a4, .ref a5, .int (nI md), .int (nI ht), .ref a6, .int (nI en), .ref a7, .ref a8, .int rn])), (a1, .inl (cI, 48, .inl nu)), (a2, .inl (cI, 48, .inl (fun uu => nI (sl uu)))), (a3, .inl (cI, 48, .inl (lm_mix i (lm_rc sl nu ho) co))), (a4, .inl (cZ, 48, .inl (fun uu => lc_bI ((lm_mixB i nt) uu)))), (a5, .inl (cI, 48, .inl ho)), (a6, .inl (cI, 8, .inl fp)), (a7, .inl (cI, 5, .inl wh)), (a8, .inl (cI, 20, .inl he))] → va_S A s.heap H locs → ∀ (ls : Array Slot), lv_has ls 2 [(0, .ref g0), (1, .int (nI i))] → W p l e ({ frames := 1, cells := 0, slots := 0, locals := 24 } : Room) s m args below meth c H locs 0 0 Q (F0 m 2 ls []) := by
    intro fu
    induction fu with
    | zero => intro i hf; omega
    | succ fu ih2 =>
      intro i hf hi H locs hP hD hS ls hl
      refine lv_iload_n hx hb d_M_recount_2 rfl (lv_at hl 1 rfl) ?_
      refine lv_bipush (v := nI 48) hx hb d_M_recount_3 (by decide +kernel) ?_
      refine zz_icmp_ge (tgt := 50) hx hb (by omega) (by omega) d_M_recount_5 (by decide) (fun c5 => ?_) (fun c5 => ?_)
      · skip
        have eW : ([(g0, .inr (4, [.ref a1, .ref a2, .ref a3, .ref a4, .ref a5, .int (nI md), .int (nI ht), .ref a6, .int (nI en), .ref a7, .ref a8, .int rn])), (a1, .inl (cI, 48, .inl nu)), (a2, .inl (cI, 48, .inl (fun uu => nI (sl uu)))), (a3, .inl (cI, 48, .inl (lm_mix i (lm_rc sl nu ho) co))), (a4, .inl (cZ, 48, .inl (fun uu => lc_bI ((lm_mixB i nt) uu)))), (a5, .inl (cI, 48, .inl ho)), (a6, .inl (cI, 8, .inl fp)), (a7, .inl (cI, 5, .inl wh)), (a8, .inl (cI, 20, .inl he))] : va_W) = [(g0, .inr (4, [.ref a1, .ref a2, .ref a3, .ref a4, .ref a5, .int (nI md), .int (nI ht), .ref a6, .int (nI en), .ref a7, .ref a8, .int rn])), (a1, .inl (cI, 48, .inl nu)), (a2, .inl (cI, 48, .inl (fun uu => nI (sl uu)))), (a3, .inl (cI, 48, .inl (lm_mix 48 (lm_rc sl nu ho) co))), (a4, .inl (cZ, 48, .inl (fun uu => lc_bI ((lm_mixB 48 nt) uu)))), (a5, .inl (cI, 48, .inl ho)), (a6, .inl (cI, 8, .inl fp)), (a7, .inl (cI, 5, .inl wh)), (a8, .inl (cI, 20, .inl he))] := by rw [show i = 48 by omega]
        exact hret _ _ _ _ d_M_recount_50 (zz_toP eW hP) (zz_toD eW hD) hS
      · skip
        refine lv_aload_n hx hb d_M_recount_8 rfl (lv_at hl 0 rfl) ?_
        refine va_get (D := D) (ci := 4) (v := .ref a3) (C := R_M) (T := F_M) (N := 12) hx hb hts i_M hown hK hP 0 rfl rfl 2 (by decide) (hts _ kw_178) (fun _ h9 => h9) rfl d_M_recount_9 ?_
        refine lv_iload_n hx hb d_M_recount_12 rfl (lv_at hl 1 rfl) ?_
        refine lv_aload_n hx hb d_M_recount_13 rfl (lv_at hl 0 rfl) ?_
        refine va_get (D := D) (ci := 4) (v := .ref a2) (C := R_M) (T := F_M) (N := 12) hx hb hts i_M hown hK hP 0 rfl rfl 1 (by decide) (hts _ kw_173) (fun _ h9 => h9) rfl d_M_recount_14 ?_
        refine lv_iload_n hx hb d_M_recount_17 rfl (lv_at hl 1 rfl) ?_
        refine zz_iald hx hb hK hP 2 0 (f := (fun uu => nI (sl uu))) rfl rfl (i := i) (by omega) (by omega) d_M_recount_18 ?_
        refine zz_top (z := nI (sl i)) rfl ?_
        have hsi := hs i (by omega)
        refine zz_if_le (tgt := 35) hx hb (by omega) d_M_recount_19 (by decide) (fun c19 => ?_) (fun c19 => ?_)
        · skip
          refine lv_iconst (v := nI 0) hx hb d_M_recount_35 (by decide +kernel) ?_
          refine zz_iast hx hb hK hP hD hS 3 0 (f := lm_mix i (lm_rc sl nu ho) co) rfl rfl (i := i) (by omega) (by omega) d_M_recount_36 (g := lm_mix (i + 1) (lm_rc sl nu ho) co) (lm_mix_s (by simp [lm_rc, *])) (ws' := [(g0, .inr (4, [.ref a1, .ref a2, .ref a3, .ref a4, .ref a5, .int (nI md), .int (nI ht), .ref a6, .int (nI en), .ref a7, .ref a8, .int rn])), (a1, .inl (cI, 48, .inl nu)), (a2, .inl (cI, 48, .inl (fun uu => nI (sl uu)))), (a3, .inl (cI, 48, .inl (lm_mix (i + 1) (lm_rc sl nu ho) co))), (a4, .inl (cZ, 48, .inl (fun uu => lc_bI ((lm_mixB i nt) uu)))), (a5, .inl (cI, 48, .inl ho)), (a6, .inl (cI, 8, .inl fp)), (a7, .inl (cI, 5, .inl wh)), (a8, .inl (cI, 20, .inl he))]) rfl (fun H locs hP hD hS => ?_)
          refine lv_aload_n hx hb d_M_recount_37 rfl (lv_at hl 0 rfl) ?_
          refine va_get (D := D) (ci := 4) (v := .ref a4) (C := R_M) (T := F_M) (N := 12) hx hb hts i_M hown hK hP 0 rfl rfl 3 (by decide) (hts _ kw_179) (fun _ h9 => h9) rfl d_M_recount_38 ?_
          refine lv_iload_n hx hb d_M_recount_41 rfl (lv_at hl 1 rfl) ?_
          refine lv_iconst (v := nI 0) hx hb d_M_recount_42 (by decide +kernel) ?_
          refine zz_zast hx hb hK hP hD hS 4 1 (f := (fun uu => lc_bI ((lm_mixB i nt) uu))) rfl rfl (i := i) (by omega) (by omega) d_M_recount_43 (by decide +kernel) (g := (fun uu => lc_bI ((lm_mixB (i + 1) nt) uu))) (lm_mixB_s _ _) (ws' := [(g0, .inr (4, [.ref a1, .ref a2, .ref a3, .ref a4, .ref a5, .int (nI md), .int (nI ht), .ref a6, .int (nI en), .ref a7, .ref a8, .int rn])), (a1, .inl (cI, 48, .inl nu)), (a2, .inl (cI, 48, .inl (fun uu => nI (sl uu)))), (a3, .inl (cI, 48, .inl (lm_mix (i + 1) (lm_rc sl nu ho) co))), (a4, .inl (cZ, 48, .inl (fun uu => lc_bI ((lm_mixB (i + 1) nt) uu)))), (a5, .inl (cI, 48, .inl ho)), (a6, .inl (cI, 8, .inl fp)), (a7, .inl (cI, 5, .inl wh)), (a8, .inl (cI, 20, .inl he))]) rfl (fun H locs hP hD hS => ?_)
          refine lv_iinc (v := nI (i + 1)) (lv' := [(1, .int (nI (i + 1))), (0, .ref g0)]) hx hb d_M_recount_44 hl (k := 1) rfl (nI_1 _) (by decide) rfl (fun ls hl => ?_)
          refine lv_goto (tgt := 2) hx hb d_M_recount_47 (by decide) ?_
          exact ih2 (i + 1) (by omega) (by omega) _ _ hP hD hS _ (lv_sub hl [1, 0] rfl)
        · skip
          refine lv_aload_n hx hb d_M_recount_22 rfl (lv_at hl 0 rfl) ?_
          refine lv_aload_n hx hb d_M_recount_23 rfl (lv_at hl 0 rfl) ?_
          refine va_get (D := D) (ci := 4) (v := .ref a1) (C := R_M) (T := F_M) (N := 12) hx hb hts i_M hown hK hP 0 rfl rfl 0 (by decide) (hts _ kw_174) (fun _ h9 => h9) rfl d_M_recount_24 ?_
          refine lv_iload_n hx hb d_M_recount_27 rfl (lv_at hl 1 rfl) ?_
          refine zz_iald hx hb hK hP 1 0 (f := nu) rfl rfl (i := i) (by omega) (by omega) d_M_recount_28 ?_
          refine zz_callI (np := 1) hx hb hml hown hts hK hP hD hS hA (c_M_holders l D cI cZ g0 a1 a2 a3 a4 a5 a6 a7 a8 nu sl (lm_mix i (lm_rc sl nu ho) co) (lm_mixB i nt) ho md ht fp en wh he rn (nu i) hs) (zz_gv kw_181 kw_182 kw_183 kw_184 kc_180) (by decide +kernel) rfl rfl ⟨Nat.le_of_ble_eq_true rfl, Nat.le_of_ble_eq_true rfl⟩ ⟨Nat.zero_le _, Nat.zero_le _⟩ [0, 1] rfl 0 4 rfl rfl rfl [0, 1, 2, 3, 4, 5, 6, 7, 8] [] [0, 1, 2, 3, 4, 5, 6, 7, 8] rfl (by decide) (wr := []) rfl (by decide) (by decide) (ws' := [(g0, .inr (4, [.ref a1, .ref a2, .ref a3, .ref a4, .ref a5, .int (nI md), .int (nI ht), .ref a6, .int (nI en), .ref a7, .ref a8, .int rn])), (a1, .inl (cI, 48, .inl nu)), (a2, .inl (cI, 48, .inl (fun uu => nI (sl uu)))), (a3, .inl (cI, 48, .inl (lm_mix i (lm_rc sl nu ho) co))), (a4, .inl (cZ, 48, .inl (fun uu => lc_bI ((lm_mixB i nt) uu)))), (a5, .inl (cI, 48, .inl ho)), (a6, .inl (cI, 8, .inl fp)), (a7, .inl (cI, 5, .inl wh)), (a8, .inl (cI, 20, .inl he))]) rfl (by decide) rfl hl.1 rfl (Nat.le_of_ble_eq_true rfl) d_M_recount_29 (fun H locs hP hD hS => ?_)
          refine lv_goto (tgt := 36) hx hb d_M_recount_32 (by decide) ?_
          refine zz_iast hx hb hK hP hD hS 3 0 (f := (lm_mix i (lm_rc sl nu ho) co)) rfl rfl (i := i) (by omega) (by omega) d_M_recount_36 (g := lm_mix (i + 1) (lm_rc sl nu ho) co) (lm_mix_s (by simp [lm_rc, *])) (ws' := [(g0, .inr (4, [.ref a1, .ref a2, .ref a3, .ref a4, .ref a5, .int (nI md), .int (nI ht), .ref a6, .int (nI en), .ref a7, .ref a8, .int rn])), (a1, .inl (cI, 48, .inl nu)), (a2, .inl (cI, 48, .inl (fun uu => nI (sl uu)))), (a3, .inl (cI, 48, .inl (lm_mix (i + 1) (lm_rc sl nu ho) co))), (a4, .inl (cZ, 48, .inl (fun uu => lc_bI ((lm_mixB i nt) uu)))), (a5, .inl (cI, 48, .inl ho)), (a6, .inl (cI, 8, .inl fp)), (a7, .inl (cI, 5, .inl wh)), (a8, .inl (cI, 20, .inl he))]) rfl (fun H locs hP hD hS => ?_)
          refine lv_aload_n hx hb d_M_recount_37 rfl (lv_at hl 0 rfl) ?_
          refine va_get (D := D) (ci := 4) (v := .ref a4) (C := R_M) (T := F_M) (N := 12) hx hb hts i_M hown hK hP 0 rfl rfl 3 (by decide) (hts _ kw_179) (fun _ h9 => h9) rfl d_M_recount_38 ?_
          refine lv_iload_n hx hb d_M_recount_41 rfl (lv_at hl 1 rfl) ?_
          refine lv_iconst (v := nI 0) hx hb d_M_recount_42 (by decide +kernel) ?_
          refine zz_zast hx hb hK hP hD hS 4 1 (f := (fun uu => lc_bI ((lm_mixB i nt) uu))) rfl rfl (i := i) (by omega) (by omega) d_M_recount_43 (by decide +kernel) (g := (fun uu => lc_bI ((lm_mixB (i + 1) nt) uu))) (lm_mixB_s _ _) (ws' := [(g0, .inr (4, [.ref a1, .ref a2, .ref a3, .ref a4, .ref a5, .int (nI md), .int (nI ht), .ref a6, .int (nI en), .ref a7, .ref a8, .int rn])), (a1, .inl (cI, 48, .inl nu)), (a2, .inl (cI, 48, .inl (fun uu => nI (sl uu)))), (a3, .inl (cI, 48, .inl (lm_mix (i + 1) (lm_rc sl nu ho) co))), (a4, .inl (cZ, 48, .inl (fun uu => lc_bI ((lm_mixB (i + 1) nt) uu)))), (a5, .inl (cI, 48, .inl ho)), (a6, .inl (cI, 8, .inl fp)), (a7, .inl (cI, 5, .inl wh)), (a8, .inl (cI, 20, .inl he))]) rfl (fun H locs hP hD hS => ?_)
          refine lv_iinc (v := nI (i + 1)) (lv' := [(1, .int (nI (i + 1))), (0, .ref g0)]) hx hb d_M_recount_44 hl (k := 1) rfl (nI_1 _) (by decide) rfl (fun ls hl => ?_)
          refine lv_goto (tgt := 2) hx hb d_M_recount_47 (by decide) ?_
          exact ih2 (i + 1) (by omega) (by omega) _ _ hP hD hS _ (lv_sub hl [1, 0] rfl)
  have eW1 : ([(g0, .inr (4, [.ref a1, .ref a2, .ref a3, .ref a4, .ref a5, .int (nI md), .int (nI ht), .ref a6, .int (nI en), .ref a7, .ref a8, .int rn])), (a1, .inl (cI, 48, .inl nu)), (a2, .inl (cI, 48, .inl (fun uu => nI (sl uu)))), (a3, .inl (cI, 48, .inl co)), (a4, .inl (cZ, 48, .inl (fun uu => lc_bI (nt uu)))), (a5, .inl (cI, 48, .inl ho)), (a6, .inl (cI, 8, .inl fp)), (a7, .inl (cI, 5, .inl wh)), (a8, .inl (cI, 20, .inl he))] : va_W) = [(g0, .inr (4, [.ref a1, .ref a2, .ref a3, .ref a4, .ref a5, .int (nI md), .int (nI ht), .ref a6, .int (nI en), .ref a7, .ref a8, .int rn])), (a1, .inl (cI, 48, .inl nu)), (a2, .inl (cI, 48, .inl (fun uu => nI (sl uu)))), (a3, .inl (cI, 48, .inl (lm_mix 0 (lm_rc sl nu ho) co))), (a4, .inl (cZ, 48, .inl (fun uu => lc_bI ((lm_mixB 0 nt) uu)))), (a5, .inl (cI, 48, .inl ho)), (a6, .inl (cI, 8, .inl fp)), (a7, .inl (cI, 5, .inl wh)), (a8, .inl (cI, 20, .inl he))] := by simp only [lm_mix_0, lm_mixB_0]
  have hP := zz_toP eW1 hP
  have hD := zz_toD eW1 hD
  exact loop2 49 0 (by omega) (by omega) _ _ hP hD hS _ (lv_sub hl [1, 0] rfl)
end
section
set_option maxHeartbeats 4000000 in
set_option maxRecDepth 100000 in
theorem c_M_round (l : Launch) (D : va_G) (cI : ClassId) (cZ : ClassId) (g0 : Nat) (a1 : Nat) (a2 : Nat) (a3 : Nat) (a4 : Nat) (a5 : Nat) (a6 : Nat) (a7 : Nat) (a8 : Nat) (nu : lc_A) (sl : Nat → Nat) (co : lc_A) (nt : Nat → Bool) (ho : lc_A) (md : Nat) (ht : Nat) (fp : lc_A) (en : Nat) (wh : lc_A) (he : lc_A) (rn : Int32) (hs : ∀ i, i < 48 → i + sl i < 48) (hht : ht ≤ 8) : zz_MI l y_M_round b_M_round 3 .int ({ frames := 1, cells := 0, slots := 0, locals := 23 } : Room) D [(cI, .int), (cZ, .boolean)] [.ref g0] [(g0, .inr (4, [.ref a1, .ref a2, .ref a3, .ref a4, .ref a5, .int (nI md), .int (nI ht), .ref a6, .int (nI en), .ref a7, .ref a8, .int rn])), (a1, .inl (cI, 48, .inl nu)), (a2, .inl (cI, 48, .inl (fun uu => nI (sl uu)))), (a3, .inl (cI, 48, .inl co)), (a4, .inl (cZ, 48, .inl (fun uu => lc_bI (nt uu)))), (a5, .inl (cI, 48, .inl ho)), (a6, .inl (cI, 8, .inl fp)), (a7, .inl (cI, 5, .inl wh)), (a8, .inl (cI, 20, .inl he))] (nI (lc_ct (lm_fr sl co nu fp ht) 48)) [(g0, .inr (4, [.ref a1, .ref a2, .ref a3, .ref a4, .ref a5, .int (nI md), .int (nI ht), .ref a6, .int (nI en), .ref a7, .ref a8, .int rn])), (a1, .inl (cI, 48, .inl nu)), (a2, .inl (cI, 48, .inl (fun uu => nI ((lm_cut (lm_fr sl co nu fp ht) sl 48) uu)))), (a3, .inl (cI, 48, .inl co)), (a4, .inl (cZ, 48, .inl (fun uu => lc_bI (nt uu)))), (a5, .inl (cI, 48, .inl ho)), (a6, .inl (cI, 8, .inl fp)), (a7, .inl (cI, 5, .inl wh)), (a8, .inl (cI, 20, .inl he))] := by
  refine zz_MI_of (by decide) (Nat.le_of_ble_eq_true rfl) (vp_nar_int _) ?_
  intro p e s m args below meth c A ls Q hx hb hml hown hts hK hP hD hS hA hl hret
  have hown : s.vm.findClass R_M = some m.cls := hown
  have hl : lv_has ls 3 [(0, .ref g0)] := hl
  refine lv_iconst (v := nI 0) hx hb d_M_round_0 (by decide +kernel) ?_
  refine lv_istore_n (lv' := [(1, .int (nI 0)), (0, .ref g0)]) hx hb d_M_round_1 rfl hl (by decide) rfl (fun ls hl => ?_)
  refine lv_iconst (v := nI 0) hx hb d_M_round_2 (by decide +kernel) ?_
  refine lv_istore_n (lv' := [(2, .int (nI 0)), (1, .int (nI 0)), (0, .ref g0)]) hx hb d_M_round_3 rfl hl (by decide) rfl (fun ls hl => ?_)
  have loop4 : ∀ (fu : Nat) (i : Nat), 48 - i < fu → (hi : i ≤ 48) → ∀ (H : Heap) (locs : List Loc), va_P D classes [(g0, .inr (4, [.ref a1, .ref a2, .ref a3, .ref a4, .ref a5, .int (nI md), .int (nI ht), .ref a6, .int (nI en), .ref a7, .ref a8, .int rn])), (a1, .inl (cI, 48, .inl nu)), (a2, .inl (cI, 48, .inl (fun uu => nI ((lm_cut (lm_fr sl co nu fp ht) sl i) uu)))), (a3, .inl (cI, 48, .inl co)), (a4, .inl (cZ, 48, .inl (fun uu => lc_bI (nt uu)))), (a5, .inl (cI, 48, .inl ho)), (a6, .inl (cI, 8, .inl fp)), (a7, .inl (cI, 5, .inl wh)), (a8, .inl (cI, 20, .inl he))] H → va_D A [(g0, .inr (4, [.ref a1, .ref a2, .ref a3, .ref a4, .ref a5, .int (nI md), .int (nI ht), .ref a6, .int (nI en), .ref a7, .ref a8, .int rn])), (a1, .inl (cI, 48, .inl nu)), (a2, .inl (cI, 48, .inl (fun uu => nI ((lm_cut (lm_fr sl co nu fp ht) sl i) uu)))), (a3, .inl (cI, 48, .inl co)), (a4, .inl (cZ, 48, .inl (fun uu => lc_bI (nt uu)))), (a5, .inl (cI, 48, .inl ho)), (a6, .inl (cI, 8, .inl fp)), (a7, .inl (cI, 5, .inl wh)), (a8, .inl (cI, 20, .inl he))] → va_S A s.heap H locs → ∀ (ls : Array Slot), lv_has ls 3 [(0, .ref g0), (1, .int (nI (lc_ct (lm_fr sl co nu fp ht) i))), (2, .int (nI i))] → W p l e ({ frames := 1, cells := 0, slots := 0, locals := 23 } : Room) s m args below meth c H locs 0 0 Q (F0 m 4 ls []) := by
    intro fu
    induction fu with
    | zero => intro i hf; omega
    | succ fu ih4 =>
      intro i hf hi H locs hP hD hS ls hl
      refine lv_iload_n hx hb d_M_round_4 rfl (lv_at hl 2 rfl) ?_
      refine lv_bipush (v := nI 48) hx hb d_M_round_5 (by decide +kernel) ?_
      refine zz_icmp_ge (tgt := 57) hx hb (by omega) (by omega) d_M_round_7 (by decide) (fun c7 => ?_) (fun c7 => ?_)
      · skip
        refine lv_iload_n hx hb d_M_round_57 rfl (lv_at hl 1 rfl) ?_
        refine zz_top (z := nI (lc_ct (lm_fr sl co nu fp ht) 48)) (by rw [show i = 48 by omega]) ?_
        have eW : ([(g0, .inr (4, [.ref a1, .ref a2, .ref a3, .ref a4, .ref a5, .int (nI md), .int (nI ht), .ref a6, .int (nI en), .ref a7, .ref a8, .int rn])), (a1, .inl (cI, 48, .inl nu)), (a2, .inl (cI, 48, .inl (fun uu => nI ((lm_cut (lm_fr sl co nu fp ht) sl i) uu)))), (a3, .inl (cI, 48, .inl co)), (a4, .inl (cZ, 48, .inl (fun uu => lc_bI (nt uu)))), (a5, .inl (cI, 48, .inl ho)), (a6, .inl (cI, 8, .inl fp)), (a7, .inl (cI, 5, .inl wh)), (a8, .inl (cI, 20, .inl he))] : va_W) = [(g0, .inr (4, [.ref a1, .ref a2, .ref a3, .ref a4, .ref a5, .int (nI md), .int (nI ht), .ref a6, .int (nI en), .ref a7, .ref a8, .int rn])), (a1, .inl (cI, 48, .inl nu)), (a2, .inl (cI, 48, .inl (fun uu => nI ((lm_cut (lm_fr sl co nu fp ht) sl 48) uu)))), (a3, .inl (cI, 48, .inl co)), (a4, .inl (cZ, 48, .inl (fun uu => lc_bI (nt uu)))), (a5, .inl (cI, 48, .inl ho)), (a6, .inl (cI, 8, .inl fp)), (a7, .inl (cI, 5, .inl wh)), (a8, .inl (cI, 20, .inl he))] := by rw [show i = 48 by omega]
        exact hret _ _ _ _ d_M_round_58 (zz_toP eW hP) (zz_toD eW hD) hS
      · skip
        refine lv_aload_n hx hb d_M_round_10 rfl (lv_at hl 0 rfl) ?_
        refine va_get (D := D) (ci := 4) (v := .ref a2) (C := R_M) (T := F_M) (N := 12) hx hb hts i_M hown hK hP 0 rfl rfl 1 (by decide) (hts _ kw_173) (fun _ h9 => h9) rfl d_M_round_11 ?_
        refine lv_iload_n hx hb d_M_round_14 rfl (lv_at hl 2 rfl) ?_
        refine zz_iald hx hb hK hP 2 0 (f := (fun uu => nI ((lm_cut (lm_fr sl co nu fp ht) sl i) uu))) rfl rfl (i := i) (by omega) (by omega) d_M_round_15 ?_
        refine zz_top (z := nI ((lm_cut (lm_fr sl co nu fp ht) sl i) i)) rfl ?_
        refine zz_top (z := nI (sl i)) (by rw [lm_cut_i]) ?_
        have hsi := hs i (by omega)
        refine zz_if_le (tgt := 51) hx hb (by omega) d_M_round_16 (by decide) (fun c16 => ?_) (fun c16 => ?_)
        · skip
          refine lv_iinc (v := nI (i + 1)) (lv' := [(2, .int (nI (i + 1))), (0, .ref g0), (1, .int (nI (lc_ct (lm_fr sl co nu fp ht) i)))]) hx hb d_M_round_51 hl (k := 2) rfl (nI_1 _) (by decide) rfl (fun ls hl => ?_)
          refine lv_goto (tgt := 4) hx hb d_M_round_54 (by decide) ?_
          have eL1 : lc_ct (lm_fr sl co nu fp ht) i = lc_ct (lm_fr sl co nu fp ht) (i + 1) := by first | rfl | simp [lc_ct, lm_fr, *]
          have eW2 : ([(g0, .inr (4, [.ref a1, .ref a2, .ref a3, .ref a4, .ref a5, .int (nI md), .int (nI ht), .ref a6, .int (nI en), .ref a7, .ref a8, .int rn])), (a1, .inl (cI, 48, .inl nu)), (a2, .inl (cI, 48, .inl (fun uu => nI ((lm_cut (lm_fr sl co nu fp ht) sl i) uu)))), (a3, .inl (cI, 48, .inl co)), (a4, .inl (cZ, 48, .inl (fun uu => lc_bI (nt uu)))), (a5, .inl (cI, 48, .inl ho)), (a6, .inl (cI, 8, .inl fp)), (a7, .inl (cI, 5, .inl wh)), (a8, .inl (cI, 20, .inl he))] : va_W) = [(g0, .inr (4, [.ref a1, .ref a2, .ref a3, .ref a4, .ref a5, .int (nI md), .int (nI ht), .ref a6, .int (nI en), .ref a7, .ref a8, .int rn])), (a1, .inl (cI, 48, .inl nu)), (a2, .inl (cI, 48, .inl (fun uu => nI ((lm_cut (lm_fr sl co nu fp ht) sl (i + 1)) uu)))), (a3, .inl (cI, 48, .inl co)), (a4, .inl (cZ, 48, .inl (fun uu => lc_bI (nt uu)))), (a5, .inl (cI, 48, .inl ho)), (a6, .inl (cI, 8, .inl fp)), (a7, .inl (cI, 5, .inl wh)), (a8, .inl (cI, 20, .inl he))] := by first | simp only [lm_cut_0] | rw [lm_cut_n (by simp [lm_fr, *])]
          have hP := zz_toP eW2 hP
          have hD := zz_toD eW2 hD
          exact ih4 (i + 1) (by omega) (by omega) _ _ hP hD hS _ (zz_hlc (lv_sub (l' := [(0, .ref g0), (1, .int (nI (lc_ct (lm_fr sl co nu fp ht) i))), (2, .int (nI (i + 1)))]) hl [1, 2, 0] rfl) (zz_c1 rfl (zz_c1 (congrArg (fun v => ((1 : Nat), Value.int (nI v))) eL1) (zz_c1 rfl rfl))))
        · skip
          refine lv_aload_n hx hb d_M_round_19 rfl (lv_at hl 0 rfl) ?_
          refine va_get (D := D) (ci := 4) (v := .ref a3) (C := R_M) (T := F_M) (N := 12) hx hb hts i_M hown hK hP 0 rfl rfl 2 (by decide) (hts _ kw_178) (fun _ h9 => h9) rfl d_M_round_20 ?_
          refine lv_iload_n hx hb d_M_round_23 rfl (lv_at hl 2 rfl) ?_
          refine zz_iald hx hb hK hP 3 0 (f := co) rfl rfl (i := i) (by omega) (by omega) d_M_round_24 ?_
          refine lv_if_ne (tgt := 51) hx hb d_M_round_25 (by decide) (fun c25 => ?_) (fun c25 => ?_)
          · skip
            refine lv_iinc (v := nI (i + 1)) (lv' := [(2, .int (nI (i + 1))), (0, .ref g0), (1, .int (nI (lc_ct (lm_fr sl co nu fp ht) i)))]) hx hb d_M_round_51 hl (k := 2) rfl (nI_1 _) (by decide) rfl (fun ls hl => ?_)
            refine lv_goto (tgt := 4) hx hb d_M_round_54 (by decide) ?_
            have eL3 : lc_ct (lm_fr sl co nu fp ht) i = lc_ct (lm_fr sl co nu fp ht) (i + 1) := by first | rfl | simp [lc_ct, lm_fr, *]
            have eW4 : ([(g0, .inr (4, [.ref a1, .ref a2, .ref a3, .ref a4, .ref a5, .int (nI md), .int (nI ht), .ref a6, .int (nI en), .ref a7, .ref a8, .int rn])), (a1, .inl (cI, 48, .inl nu)), (a2, .inl (cI, 48, .inl (fun uu => nI ((lm_cut (lm_fr sl co nu fp ht) sl i) uu)))), (a3, .inl (cI, 48, .inl co)), (a4, .inl (cZ, 48, .inl (fun uu => lc_bI (nt uu)))), (a5, .inl (cI, 48, .inl ho)), (a6, .inl (cI, 8, .inl fp)), (a7, .inl (cI, 5, .inl wh)), (a8, .inl (cI, 20, .inl he))] : va_W) = [(g0, .inr (4, [.ref a1, .ref a2, .ref a3, .ref a4, .ref a5, .int (nI md), .int (nI ht), .ref a6, .int (nI en), .ref a7, .ref a8, .int rn])), (a1, .inl (cI, 48, .inl nu)), (a2, .inl (cI, 48, .inl (fun uu => nI ((lm_cut (lm_fr sl co nu fp ht) sl (i + 1)) uu)))), (a3, .inl (cI, 48, .inl co)), (a4, .inl (cZ, 48, .inl (fun uu => lc_bI (nt uu)))), (a5, .inl (cI, 48, .inl ho)), (a6, .inl (cI, 8, .inl fp)), (a7, .inl (cI, 5, .inl wh)), (a8, .inl (cI, 20, .inl he))] := by first | simp only [lm_cut_0] | rw [lm_cut_n (by simp [lm_fr, *])]
            have hP := zz_toP eW4 hP
            have hD := zz_toD eW4 hD
            exact ih4 (i + 1) (by omega) (by omega) _ _ hP hD hS _ (zz_hlc (lv_sub (l' := [(0, .ref g0), (1, .int (nI (lc_ct (lm_fr sl co nu fp ht) i))), (2, .int (nI (i + 1)))]) hl [1, 2, 0] rfl) (zz_c1 rfl (zz_c1 (congrArg (fun v => ((1 : Nat), Value.int (nI v))) eL3) (zz_c1 rfl rfl))))
          · skip
            refine lv_aload_n hx hb d_M_round_28 rfl (lv_at hl 0 rfl) ?_
            refine lv_aload_n hx hb d_M_round_29 rfl (lv_at hl 0 rfl) ?_
            refine va_get (D := D) (ci := 4) (v := .ref a1) (C := R_M) (T := F_M) (N := 12) hx hb hts i_M hown hK hP 0 rfl rfl 0 (by decide) (hts _ kw_174) (fun _ h9 => h9) rfl d_M_round_30 ?_
            refine lv_iload_n hx hb d_M_round_33 rfl (lv_at hl 2 rfl) ?_
            refine zz_iald hx hb hK hP 1 0 (f := nu) rfl rfl (i := i) (by omega) (by omega) d_M_round_34 ?_
            refine zz_callI (np := 1) hx hb hml hown hts hK hP hD hS hA (c_M_onStack l D cI cZ g0 a1 a2 a3 a4 a5 a6 a7 a8 nu (lm_cut (lm_fr sl co nu fp ht) sl i) co nt ho md ht fp en wh he rn (nu i) (by omega)) (zz_gv kw_186 kw_187 kw_188 kw_184 kc_185) (by decide +kernel) rfl rfl ⟨Nat.le_of_ble_eq_true rfl, Nat.le_of_ble_eq_true rfl⟩ ⟨Nat.zero_le _, Nat.zero_le _⟩ [0, 1] rfl 0 4 rfl rfl rfl [0, 1, 2, 3, 4, 5, 6, 7, 8] [] [0, 1, 2, 3, 4, 5, 6, 7, 8] rfl (by decide) (wr := []) rfl (by decide) (by decide) (ws' := [(g0, .inr (4, [.ref a1, .ref a2, .ref a3, .ref a4, .ref a5, .int (nI md), .int (nI ht), .ref a6, .int (nI en), .ref a7, .ref a8, .int rn])), (a1, .inl (cI, 48, .inl nu)), (a2, .inl (cI, 48, .inl (fun uu => nI ((lm_cut (lm_fr sl co nu fp ht) sl i) uu)))), (a3, .inl (cI, 48, .inl co)), (a4, .inl (cZ, 48, .inl (fun uu => lc_bI (nt uu)))), (a5, .inl (cI, 48, .inl ho)), (a6, .inl (cI, 8, .inl fp)), (a7, .inl (cI, 5, .inl wh)), (a8, .inl (cI, 20, .inl he))]) rfl (by decide) rfl hl.1 rfl (Nat.le_of_ble_eq_true rfl) d_M_round_35 (fun H locs hP hD hS => ?_)
            refine zz_bI (fun h35 => ?_) (fun h35 => ?_)
            · skip
              refine zz_if_ne (tgt := 51) hx hb (by omega) d_M_round_38 (by decide) (fun c38 => ?_) (fun c38 => ?_)
              · skip
                refine lv_iinc (v := nI (i + 1)) (lv' := [(2, .int (nI (i + 1))), (0, .ref g0), (1, .int (nI (lc_ct (lm_fr sl co nu fp ht) i)))]) hx hb d_M_round_51 hl (k := 2) rfl (nI_1 _) (by decide) rfl (fun ls hl => ?_)
                refine lv_goto (tgt := 4) hx hb d_M_round_54 (by decide) ?_
                have eL5 : lc_ct (lm_fr sl co nu fp ht) i = lc_ct (lm_fr sl co nu fp ht) (i + 1) := by first | rfl | simp [lc_ct, lm_fr, *]
                have eW6 : ([(g0, .inr (4, [.ref a1, .ref a2, .ref a3, .ref a4, .ref a5, .int (nI md), .int (nI ht), .ref a6, .int (nI en), .ref a7, .ref a8, .int rn])), (a1, .inl (cI, 48, .inl nu)), (a2, .inl (cI, 48, .inl (fun uu => nI ((lm_cut (lm_fr sl co nu fp ht) sl i) uu)))), (a3, .inl (cI, 48, .inl co)), (a4, .inl (cZ, 48, .inl (fun uu => lc_bI (nt uu)))), (a5, .inl (cI, 48, .inl ho)), (a6, .inl (cI, 8, .inl fp)), (a7, .inl (cI, 5, .inl wh)), (a8, .inl (cI, 20, .inl he))] : va_W) = [(g0, .inr (4, [.ref a1, .ref a2, .ref a3, .ref a4, .ref a5, .int (nI md), .int (nI ht), .ref a6, .int (nI en), .ref a7, .ref a8, .int rn])), (a1, .inl (cI, 48, .inl nu)), (a2, .inl (cI, 48, .inl (fun uu => nI ((lm_cut (lm_fr sl co nu fp ht) sl (i + 1)) uu)))), (a3, .inl (cI, 48, .inl co)), (a4, .inl (cZ, 48, .inl (fun uu => lc_bI (nt uu)))), (a5, .inl (cI, 48, .inl ho)), (a6, .inl (cI, 8, .inl fp)), (a7, .inl (cI, 5, .inl wh)), (a8, .inl (cI, 20, .inl he))] := by first | simp only [lm_cut_0] | rw [lm_cut_n (by simp [lm_fr, *])]
                have hP := zz_toP eW6 hP
                have hD := zz_toD eW6 hD
                exact ih4 (i + 1) (by omega) (by omega) _ _ hP hD hS _ (zz_hlc (lv_sub (l' := [(0, .ref g0), (1, .int (nI (lc_ct (lm_fr sl co nu fp ht) i))), (2, .int (nI (i + 1)))]) hl [1, 2, 0] rfl) (zz_c1 rfl (zz_c1 (congrArg (fun v => ((1 : Nat), Value.int (nI v))) eL5) (zz_c1 rfl rfl))))
              · skip
                exact absurd c38 (by omega)
            · skip
              refine zz_if_ne (tgt := 51) hx hb (by omega) d_M_round_38 (by decide) (fun c38 => ?_) (fun c38 => ?_)
              · skip
                exact absurd c38 (by omega)
              · skip
                refine lv_aload_n hx hb d_M_round_41 rfl (lv_at hl 0 rfl) ?_
                refine va_get (D := D) (ci := 4) (v := .ref a2) (C := R_M) (T := F_M) (N := 12) hx hb hts i_M hown hK hP 0 rfl rfl 1 (by decide) (hts _ kw_173) (fun _ h9 => h9) rfl d_M_round_42 ?_
                refine lv_iload_n hx hb d_M_round_45 rfl (lv_at hl 2 rfl) ?_
                refine lv_iconst (v := nI 0) hx hb d_M_round_46 (by decide +kernel) ?_
                refine zz_iast hx hb hK hP hD hS 2 0 (f := (fun uu => nI ((lm_cut (lm_fr sl co nu fp ht) sl i) uu))) rfl rfl (i := i) (by omega) (by omega) d_M_round_47 (g := (fun uu => nI ((lm_cut (lm_fr sl co nu fp ht) sl (i + 1)) uu))) (lm_cut_s (by simp [lm_fr, *])) (ws' := [(g0, .inr (4, [.ref a1, .ref a2, .ref a3, .ref a4, .ref a5, .int (nI md), .int (nI ht), .ref a6, .int (nI en), .ref a7, .ref a8, .int rn])), (a1, .inl (cI, 48, .inl nu)), (a2, .inl (cI, 48, .inl (fun uu => nI ((lm_cut (lm_fr sl co nu fp ht) sl (i + 1)) uu)))), (a3, .inl (cI, 48, .inl co)), (a4, .inl (cZ, 48, .inl (fun uu => lc_bI (nt uu)))), (a5, .inl (cI, 48, .inl ho)), (a6, .inl (cI, 8, .inl fp)), (a7, .inl (cI, 5, .inl wh)), (a8, .inl (cI, 20, .inl he))]) rfl (fun H locs hP hD hS => ?_)
                refine lv_iinc (v := nI ((lc_ct (lm_fr sl co nu fp ht) i) + 1)) (lv' := [(1, .int (nI ((lc_ct (lm_fr sl co nu fp ht) i) + 1))), (0, .ref g0), (2, .int (nI i))]) hx hb d_M_round_48 hl (k := 1) rfl (nI_1 _) (by decide) rfl (fun ls hl => ?_)
                refine lv_iinc (v := nI (i + 1)) (lv' := [(2, .int (nI (i + 1))), (1, .int (nI ((lc_ct (lm_fr sl co nu fp ht) i) + 1))), (0, .ref g0)]) hx hb d_M_round_51 hl (k := 2) rfl (nI_1 _) (by decide) rfl (fun ls hl => ?_)
                refine lv_goto (tgt := 4) hx hb d_M_round_54 (by decide) ?_
                have eL7 : (lc_ct (lm_fr sl co nu fp ht) i) + 1 = lc_ct (lm_fr sl co nu fp ht) (i + 1) := by first | rfl | simp [lc_ct, lm_fr, *]
                exact ih4 (i + 1) (by omega) (by omega) _ _ hP hD hS _ (zz_hlc (lv_sub (l' := [(0, .ref g0), (1, .int (nI ((lc_ct (lm_fr sl co nu fp ht) i) + 1))), (2, .int (nI (i + 1)))]) hl [2, 1, 0] rfl) (zz_c1 rfl (zz_c1 (congrArg (fun v => ((1 : Nat), Value.int (nI v))) eL7) (zz_c1 rfl rfl))))
  have eL8 : 0 = lc_ct (lm_fr sl co nu fp ht) 0 := by first | rfl | simp [lc_ct, lm_fr, *]
  have eW9 : ([(g0, .inr (4, [.ref a1, .ref a2, .ref a3, .ref a4, .ref a5, .int (nI md), .int (nI ht), .ref a6, .int (nI en), .ref a7, .ref a8, .int rn])), (a1, .inl (cI, 48, .inl nu)), (a2, .inl (cI, 48, .inl (fun uu => nI (sl uu)))), (a3, .inl (cI, 48, .inl co)), (a4, .inl (cZ, 48, .inl (fun uu => lc_bI (nt uu)))), (a5, .inl (cI, 48, .inl ho)), (a6, .inl (cI, 8, .inl fp)), (a7, .inl (cI, 5, .inl wh)), (a8, .inl (cI, 20, .inl he))] : va_W) = [(g0, .inr (4, [.ref a1, .ref a2, .ref a3, .ref a4, .ref a5, .int (nI md), .int (nI ht), .ref a6, .int (nI en), .ref a7, .ref a8, .int rn])), (a1, .inl (cI, 48, .inl nu)), (a2, .inl (cI, 48, .inl (fun uu => nI ((lm_cut (lm_fr sl co nu fp ht) sl 0) uu)))), (a3, .inl (cI, 48, .inl co)), (a4, .inl (cZ, 48, .inl (fun uu => lc_bI (nt uu)))), (a5, .inl (cI, 48, .inl ho)), (a6, .inl (cI, 8, .inl fp)), (a7, .inl (cI, 5, .inl wh)), (a8, .inl (cI, 20, .inl he))] := by first | simp only [lm_cut_0] | rw [lm_cut_n (by simp [lm_fr, *])]
  have hP := zz_toP eW9 hP
  have hD := zz_toD eW9 hD
  exact loop4 49 0 (by omega) (by omega) _ _ hP hD hS _ (zz_hlc (lv_sub (l' := [(0, .ref g0), (1, .int (nI 0)), (2, .int (nI 0))]) hl [2, 1, 0] rfl) (zz_c1 rfl (zz_c1 (congrArg (fun v => ((1 : Nat), Value.int (nI v))) eL8) (zz_c1 rfl rfl))))
end
section
set_option maxHeartbeats 4000000 in
set_option maxRecDepth 100000 in
theorem c_M_settle (l : Launch) (D : va_G) (cI : ClassId) (cZ : ClassId) (g0 : Nat) (a1 : Nat) (a2 : Nat) (a3 : Nat) (a4 : Nat) (a5 : Nat) (a6 : Nat) (a7 : Nat) (a8 : Nat) (nu : lc_A) (sl : Nat → Nat) (co : lc_A) (nt : Nat → Bool) (ho : lc_A) (md : Nat) (ht : Nat) (fp : lc_A) (en : Nat) (wh : lc_A) (he : lc_A) (rn : Int32) (hs : ∀ i, i < 48 → i + sl i < 48) (hht : ht ≤ 8) : zz_MV l y_M_settle b_M_settle 2 ({ frames := 2, cells := 0, slots := 0, locals := 45 } : Room) D [(cI, .int), (cZ, .boolean)] [.ref g0] [(g0, .inr (4, [.ref a1, .ref a2, .ref a3, .ref a4, .ref a5, .int (nI md), .int (nI ht), .ref a6, .int (nI en), .ref a7, .ref a8, .int rn])), (a1, .inl (cI, 48, .inl nu)), (a2, .inl (cI, 48, .inl (fun uu => nI (sl uu)))), (a3, .inl (cI, 48, .inl co)), (a4, .inl (cZ, 48, .inl (fun uu => lc_bI (nt uu)))), (a5, .inl (cI, 48, .inl ho)), (a6, .inl (cI, 8, .inl fp)), (a7, .inl (cI, 5, .inl wh)), (a8, .inl (cI, 20, .inl he))] [(g0, .inr (4, [.ref a1, .ref a2, .ref a3, .ref a4, .ref a5, .int (nI md), .int (nI ht), .ref a6, .int (nI 0), .ref a7, .ref a8, .int (rn + nI 1)])), (a1, .inl (cI, 48, .inl nu)), (a2, .inl (cI, 48, .inl (fun uu => nI (((lm_st nu ho fp ht 50 sl co nt).1) uu)))), (a3, .inl (cI, 48, .inl ((lm_st nu ho fp ht 50 sl co nt).2.1))), (a4, .inl (cZ, 48, .inl (fun uu => lc_bI (((lm_st nu ho fp ht 50 sl co nt).2.2) uu)))), (a5, .inl (cI, 48, .inl ho)), (a6, .inl (cI, 8, .inl fp)), (a7, .inl (cI, 5, .inl wh)), (a8, .inl (cI, 20, .inl he))] := by
  refine zz_MV_of (by decide) (Nat.le_of_ble_eq_true rfl) ?_
  intro p e s m args below meth c A ls Q hx hb hml hown hts hK hP hD hS hA hl hret
  have hown : s.vm.findClass R_M = some m.cls := hown
  have hl : lv_has ls 2 [(0, .ref g0)] := hl
  refine lv_aload_n hx hb d_M_settle_0 rfl (lv_at hl 0 rfl) ?_
  refine lv_dup hx hb d_M_settle_1 rfl ?_
  refine va_get (D := D) (ci := 4) (v := .int rn) (C := R_M) (T := F_M) (N := 12) hx hb hts i_M hown hK hP 0 rfl rfl 11 (by decide) (hts _ kw_189) (fun _ h9 => h9) rfl d_M_settle_2 ?_
  refine lv_iconst (v := nI 1) hx hb d_M_settle_5 (by decide +kernel) ?_
  refine lv_iadd hx hb d_M_settle_6 ?_
  refine va_put (D := D) (ci := 4) (v := .int (rn + (nI 1))) (ty := .int) (C := R_M) (T := F_M) (N := 12) hx hb hts i_M t_M t_M_ok n_M hown hK hP hD hS 0 rfl rfl 11 (by decide) (hts _ kw_189) (fun _ h9 => h9) rfl (by decide +kernel) rfl rfl (Nat.le_of_ble_eq_true rfl) d_M_settle_7 (fun H locs hP hD hS => ?_)
  have hP : va_P D classes [(g0, .inr (4, [.ref a1, .ref a2, .ref a3, .ref a4, .ref a5, .int (nI md), .int (nI ht), .ref a6, .int (nI en), .ref a7, .ref a8, .int (rn + (nI 1))])), (a1, .inl (cI, 48, .inl nu)), (a2, .inl (cI, 48, .inl (fun uu => nI (sl uu)))), (a3, .inl (cI, 48, .inl co)), (a4, .inl (cZ, 48, .inl (fun uu => lc_bI (nt uu)))), (a5, .inl (cI, 48, .inl ho)), (a6, .inl (cI, 8, .inl fp)), (a7, .inl (cI, 5, .inl wh)), (a8, .inl (cI, 20, .inl he))] H := hP
  have hD : va_D A [(g0, .inr (4, [.ref a1, .ref a2, .ref a3, .ref a4, .ref a5, .int (nI md), .int (nI ht), .ref a6, .int (nI en), .ref a7, .ref a8, .int (rn + (nI 1))])), (a1, .inl (cI, 48, .inl nu)), (a2, .inl (cI, 48, .inl (fun uu => nI (sl uu)))), (a3, .inl (cI, 48, .inl co)), (a4, .inl (cZ, 48, .inl (fun uu => lc_bI (nt uu)))), (a5, .inl (cI, 48, .inl ho)), (a6, .inl (cI, 8, .inl fp)), (a7, .inl (cI, 5, .inl wh)), (a8, .inl (cI, 20, .inl he))] := hD
  refine lv_aload_n hx hb d_M_settle_10 rfl (lv_at hl 0 rfl) ?_
  refine lv_iconst (v := nI 0) hx hb d_M_settle_11 (by decide +kernel) ?_
  refine va_put (D := D) (ci := 4) (v := .int (nI 0)) (ty := .int) (C := R_M) (T := F_M) (N := 12) hx hb hts i_M t_M t_M_ok n_M hown hK hP hD hS 0 rfl rfl 8 (by decide) (hts _ kw_190) (fun _ h9 => h9) rfl (by decide +kernel) rfl rfl (Nat.le_of_ble_eq_true rfl) d_M_settle_12 (fun H locs hP hD hS => ?_)
  have hP : va_P D classes [(g0, .inr (4, [.ref a1, .ref a2, .ref a3, .ref a4, .ref a5, .int (nI md), .int (nI ht), .ref a6, .int (nI 0), .ref a7, .ref a8, .int (rn + (nI 1))])), (a1, .inl (cI, 48, .inl nu)), (a2, .inl (cI, 48, .inl (fun uu => nI (sl uu)))), (a3, .inl (cI, 48, .inl co)), (a4, .inl (cZ, 48, .inl (fun uu => lc_bI (nt uu)))), (a5, .inl (cI, 48, .inl ho)), (a6, .inl (cI, 8, .inl fp)), (a7, .inl (cI, 5, .inl wh)), (a8, .inl (cI, 20, .inl he))] H := hP
  have hD : va_D A [(g0, .inr (4, [.ref a1, .ref a2, .ref a3, .ref a4, .ref a5, .int (nI md), .int (nI ht), .ref a6, .int (nI 0), .ref a7, .ref a8, .int (rn + (nI 1))])), (a1, .inl (cI, 48, .inl nu)), (a2, .inl (cI, 48, .inl (fun uu => nI (sl uu)))), (a3, .inl (cI, 48, .inl co)), (a4, .inl (cZ, 48, .inl (fun uu => lc_bI (nt uu)))), (a5, .inl (cI, 48, .inl ho)), (a6, .inl (cI, 8, .inl fp)), (a7, .inl (cI, 5, .inl wh)), (a8, .inl (cI, 20, .inl he))] := hD
  refine lv_iconst (v := nI 1) hx hb d_M_settle_15 (by decide +kernel) ?_
  refine lv_istore_n (lv' := [(1, .int (nI 1)), (0, .ref g0)]) hx hb d_M_settle_16 rfl hl (by decide) rfl (fun ls hl => ?_)
  have loop17 : ∀ (fu : Nat) (k : Nat) (s1 : Nat → Nat) (c1 : lc_A) (n1 : Nat → Bool), (if k = 0 then 0 else lc_ct (fun u => decide (0 < s1 u)) 48 + 1) < fu → (hk : k ≤ 48) → (hs1 : ∀ i, i < 48 → i + s1 i < 48) → (hE : lm_lp nu ho fp ht fu k s1 c1 n1 = (lm_st nu ho fp ht 50 sl co nt)) → ∀ (H : Heap) (locs : List Loc), va_P D classes [(g0, .inr (4, [.ref a1, .ref a2, .ref a3, .ref a4, .ref a5, .int (nI md), .int (nI ht), .ref a6, .int (nI 0), .ref a7, .ref a8, .int (rn + nI 1)])), (a1, .inl (cI, 48, .inl nu)), (a2, .inl (cI, 48, .inl (fun uu => nI (s1 uu)))), (a3, .inl (cI, 48, .inl c1)), (a4, .inl (cZ, 48, .inl (fun uu => lc_bI (n1 uu)))), (a5, .inl (cI, 48, .inl ho)), (a6, .inl (cI, 8, .inl fp)), (a7, .inl (cI, 5, .inl wh)), (a8, .inl (cI, 20, .inl he))] H → va_D A [(g0, .inr (4, [.ref a1, .ref a2, .ref a3, .ref a4, .ref a5, .int (nI md), .int (nI ht), .ref a6, .int (nI 0), .ref a7, .ref a8, .int (rn + nI 1)])), (a1, .inl (cI, 48, .inl nu)), (a2, .inl (cI, 48, .inl (fun uu => nI (s1 uu)))), (a3, .inl (cI, 48, .inl c1)), (a4, .inl (cZ, 48, .inl (fun uu => lc_bI (n1 uu)))), (a5, .inl (cI, 48, .inl ho)), (a6, .inl (cI, 8, .inl fp)), (a7, .inl (cI, 5, .inl wh)), (a8, .inl (cI, 20, .inl he))] → va_S A s.heap H locs → ∀ (ls : Array Slot), lv_has ls 2 [(0, .ref g0), (1, .int (nI k))] → W p l e ({ frames := 2, cells := 0, slots := 0, locals := 45 } : Room) s m args below meth c H locs 0 0 Q (F0 m 17 ls []) := by
    intro fu
    induction fu with
    | zero => intro k s1 c1 n1 hf; omega
    | succ fu ih17 =>
      intro k s1 c1 n1 hf hk hs1 hE H locs hP hD hS ls hl
      refine lv_iload_n hx hb d_M_settle_17 rfl (lv_at hl 1 rfl) ?_
      refine zz_if_le (tgt := 33) hx hb (by omega) d_M_settle_18 (by decide) (fun c18 => ?_) (fun c18 => ?_)
      · skip
        have eW : ([(g0, .inr (4, [.ref a1, .ref a2, .ref a3, .ref a4, .ref a5, .int (nI md), .int (nI ht), .ref a6, .int (nI 0), .ref a7, .ref a8, .int (rn + nI 1)])), (a1, .inl (cI, 48, .inl nu)), (a2, .inl (cI, 48, .inl (fun uu => nI (s1 uu)))), (a3, .inl (cI, 48, .inl c1)), (a4, .inl (cZ, 48, .inl (fun uu => lc_bI (n1 uu)))), (a5, .inl (cI, 48, .inl ho)), (a6, .inl (cI, 8, .inl fp)), (a7, .inl (cI, 5, .inl wh)), (a8, .inl (cI, 20, .inl he))] : va_W) = [(g0, .inr (4, [.ref a1, .ref a2, .ref a3, .ref a4, .ref a5, .int (nI md), .int (nI ht), .ref a6, .int (nI 0), .ref a7, .ref a8, .int (rn + nI 1)])), (a1, .inl (cI, 48, .inl nu)), (a2, .inl (cI, 48, .inl (fun uu => nI (((lm_st nu ho fp ht 50 sl co nt).1) uu)))), (a3, .inl (cI, 48, .inl ((lm_st nu ho fp ht 50 sl co nt).2.1))), (a4, .inl (cZ, 48, .inl (fun uu => lc_bI (((lm_st nu ho fp ht 50 sl co nt).2.2) uu)))), (a5, .inl (cI, 48, .inl ho)), (a6, .inl (cI, 8, .inl fp)), (a7, .inl (cI, 5, .inl wh)), (a8, .inl (cI, 20, .inl he))] := by simp only [lm_lp_0 (show k = 0 by omega) hE]
        exact hret _ _ _ _ d_M_settle_33 (zz_toP eW hP) (zz_toD eW hD) hS
      · skip
        refine lv_aload_n hx hb d_M_settle_21 rfl (lv_at hl 0 rfl) ?_
        refine zz_callV (np := 0) hx hb hml hown hts hK hP hD hS hA (c_M_recount l D cI cZ g0 a1 a2 a3 a4 a5 a6 a7 a8 nu s1 c1 n1 ho md ht fp 0 wh he (rn + nI 1) hs1) (zz_gv kw_192 kw_193 kw_194 kw_184 kc_191) (by decide +kernel) rfl rfl ⟨Nat.le_of_ble_eq_true rfl, Nat.le_of_ble_eq_true rfl⟩ ⟨Nat.zero_le _, Nat.zero_le _⟩ [0, 1] rfl 0 4 rfl rfl rfl [0, 1, 2, 3, 4, 5, 6, 7, 8] [] [0, 1, 2, 3, 4, 5, 6, 7, 8] rfl (by decide) (wr := []) rfl (by decide) (by decide) (ws' := [(g0, .inr (4, [.ref a1, .ref a2, .ref a3, .ref a4, .ref a5, .int (nI md), .int (nI ht), .ref a6, .int (nI 0), .ref a7, .ref a8, .int (rn + nI 1)])), (a1, .inl (cI, 48, .inl nu)), (a2, .inl (cI, 48, .inl (fun uu => nI (s1 uu)))), (a3, .inl (cI, 48, .inl (lm_mix 48 (lm_rc s1 nu ho) c1))), (a4, .inl (cZ, 48, .inl (fun uu => lc_bI ((lm_mixB 48 n1) uu)))), (a5, .inl (cI, 48, .inl ho)), (a6, .inl (cI, 8, .inl fp)), (a7, .inl (cI, 5, .inl wh)), (a8, .inl (cI, 20, .inl he))]) rfl (by decide) rfl hl.1 rfl (Nat.le_of_ble_eq_true rfl) d_M_settle_22 (fun H locs hP hD hS => ?_)
        refine lv_aload_n hx hb d_M_settle_25 rfl (lv_at hl 0 rfl) ?_
        refine zz_callI (np := 0) hx hb hml hown hts hK hP hD hS hA (c_M_round l D cI cZ g0 a1 a2 a3 a4 a5 a6 a7 a8 nu s1 (lm_mix 48 (lm_rc s1 nu ho) c1) (lm_mixB 48 n1) ho md ht fp 0 wh he (rn + nI 1) hs1 hht) (zz_gv kw_196 kw_197 kw_198 kw_184 kc_195) (by decide +kernel) rfl rfl ⟨Nat.le_of_ble_eq_true rfl, Nat.le_of_ble_eq_true rfl⟩ ⟨Nat.zero_le _, Nat.zero_le _⟩ [0, 1] rfl 0 4 rfl rfl rfl [0, 1, 2, 3, 4, 5, 6, 7, 8] [] [0, 1, 2, 3, 4, 5, 6, 7, 8] rfl (by decide) (wr := []) rfl (by decide) (by decide) (ws' := [(g0, .inr (4, [.ref a1, .ref a2, .ref a3, .ref a4, .ref a5, .int (nI md), .int (nI ht), .ref a6, .int (nI 0), .ref a7, .ref a8, .int (rn + nI 1)])), (a1, .inl (cI, 48, .inl nu)), (a2, .inl (cI, 48, .inl (fun uu => nI ((lm_cut (lm_fr s1 (lm_mix 48 (lm_rc s1 nu ho) c1) nu fp ht) s1 48) uu)))), (a3, .inl (cI, 48, .inl (lm_mix 48 (lm_rc s1 nu ho) c1))), (a4, .inl (cZ, 48, .inl (fun uu => lc_bI ((lm_mixB 48 n1) uu)))), (a5, .inl (cI, 48, .inl ho)), (a6, .inl (cI, 8, .inl fp)), (a7, .inl (cI, 5, .inl wh)), (a8, .inl (cI, 20, .inl he))]) rfl (by decide) rfl hl.1 rfl (Nat.le_of_ble_eq_true rfl) d_M_settle_26 (fun H locs hP hD hS => ?_)
        refine lv_istore_n (lv' := [(1, .int (nI (lc_ct (lm_fr s1 (lm_mix 48 (lm_rc s1 nu ho) c1) nu fp ht) 48))), (0, .ref g0)]) hx hb d_M_settle_29 rfl hl (by decide) rfl (fun ls hl => ?_)
        refine lv_goto (tgt := 17) hx hb d_M_settle_30 (by decide) ?_
        exact ih17 (lc_ct (lm_fr s1 (lm_mix 48 (lm_rc s1 nu ho) c1) nu fp ht) 48) (lm_cut (lm_fr s1 (lm_mix 48 (lm_rc s1 nu ho) c1) nu fp ht) s1 48) (lm_mix 48 (lm_rc s1 nu ho) c1) (lm_mixB 48 n1) (lm_lp_m (by omega) hf) (lc_ct_le 48) (lm_cut_48 hs1) (lm_lp_s (by omega) hE) _ _ hP hD hS _ (lv_sub hl [1, 0] rfl)
  have eW1 : ([(g0, .inr (4, [.ref a1, .ref a2, .ref a3, .ref a4, .ref a5, .int (nI md), .int (nI ht), .ref a6, .int (nI 0), .ref a7, .ref a8, .int (rn + (nI 1))])), (a1, .inl (cI, 48, .inl nu)), (a2, .inl (cI, 48, .inl (fun uu => nI (sl uu)))), (a3, .inl (cI, 48, .inl co)), (a4, .inl (cZ, 48, .inl (fun uu => lc_bI (nt uu)))), (a5, .inl (cI, 48, .inl ho)), (a6, .inl (cI, 8, .inl fp)), (a7, .inl (cI, 5, .inl wh)), (a8, .inl (cI, 20, .inl he))] : va_W) = [(g0, .inr (4, [.ref a1, .ref a2, .ref a3, .ref a4, .ref a5, .int (nI md), .int (nI ht), .ref a6, .int (nI 0), .ref a7, .ref a8, .int (rn + nI 1)])), (a1, .inl (cI, 48, .inl nu)), (a2, .inl (cI, 48, .inl (fun uu => nI (sl uu)))), (a3, .inl (cI, 48, .inl co)), (a4, .inl (cZ, 48, .inl (fun uu => lc_bI (nt uu)))), (a5, .inl (cI, 48, .inl ho)), (a6, .inl (cI, 8, .inl fp)), (a7, .inl (cI, 5, .inl wh)), (a8, .inl (cI, 20, .inl he))] := by simp
  have hP := zz_toP eW1 hP
  have hD := zz_toD eW1 hD
  exact loop17 50 1 sl co nt lm_lp_m0 (by omega) hs (lm_lp_i nu ho fp ht 50 sl co nt) _ _ hP hD hS _ (lv_sub hl [1, 0] rfl)
end
section
set_option maxHeartbeats 4000000 in
set_option maxRecDepth 100000 in
theorem c_M_alive (l : Launch) (D : va_G) (cI : ClassId) (cZ : ClassId) (g0 : Nat) (a1 : Nat) (a2 : Nat) (a3 : Nat) (a4 : Nat) (a5 : Nat) (a6 : Nat) (a7 : Nat) (a8 : Nat) (nu : lc_A) (sl : Nat → Nat) (co : lc_A) (nt : Nat → Bool) (ho : lc_A) (md : Nat) (ht : Nat) (fp : lc_A) (en : Nat) (wh : lc_A) (he : lc_A) (rn : Int32) (hs : ∀ i, i < 48 → i + sl i < 48) : zz_MI l y_M_alive b_M_alive 3 .int ({ frames := 0, cells := 0, slots := 0, locals := 0 } : Room) D [(cI, .int), (cZ, .boolean)] [.ref g0] [(g0, .inr (4, [.ref a1, .ref a2, .ref a3, .ref a4, .ref a5, .int (nI md), .int (nI ht), .ref a6, .int (nI en), .ref a7, .ref a8, .int rn])), (a1, .inl (cI, 48, .inl nu)), (a2, .inl (cI, 48, .inl (fun uu => nI (sl uu)))), (a3, .inl (cI, 48, .inl co)), (a4, .inl (cZ, 48, .inl (fun uu => lc_bI (nt uu)))), (a5, .inl (cI, 48, .inl ho)), (a6, .inl (cI, 8, .inl fp)), (a7, .inl (cI, 5, .inl wh)), (a8, .inl (cI, 20, .inl he))] (nI (lc_ct (fun u => decide (0 < sl u)) 48)) [(g0, .inr (4, [.ref a1, .ref a2, .ref a3, .ref a4, .ref a5, .int (nI md), .int (nI ht), .ref a6, .int (nI en), .ref a7, .ref a8, .int rn])), (a1, .inl (cI, 48, .inl nu)), (a2, .inl (cI, 48, .inl (fun uu => nI (sl uu)))), (a3, .inl (cI, 48, .inl co)), (a4, .inl (cZ, 48, .inl (fun uu => lc_bI (nt uu)))), (a5, .inl (cI, 48, .inl ho)), (a6, .inl (cI, 8, .inl fp)), (a7, .inl (cI, 5, .inl wh)), (a8, .inl (cI, 20, .inl he))] := by
  refine zz_MI_of (by decide) (Nat.le_of_ble_eq_true rfl) (vp_nar_int _) ?_
  intro p e s m args below meth c A ls Q hx hb hml hown hts hK hP hD hS hA hl hret
  have hown : s.vm.findClass R_M = some m.cls := hown
  have hl : lv_has ls 3 [(0, .ref g0)] := hl
  refine lv_iconst (v := nI 0) hx hb d_M_alive_0 (by decide +kernel) ?_
  refine lv_istore_n (lv' := [(1, .int (nI 0)), (0, .ref g0)]) hx hb d_M_alive_1 rfl hl (by decide) rfl (fun ls hl => ?_)
  refine lv_iconst (v := nI 0) hx hb d_M_alive_2 (by decide +kernel) ?_
  refine lv_istore_n (lv' := [(2, .int (nI 0)), (1, .int (nI 0)), (0, .ref g0)]) hx hb d_M_alive_3 rfl hl (by decide) rfl (fun ls hl => ?_)
  have loop4 : ∀ (fu : Nat) (i : Nat), 48 - i < fu → (hi : i ≤ 48) → ∀ (H : Heap) (locs : List Loc), va_P D classes [(g0, .inr (4, [.ref a1, .ref a2, .ref a3, .ref a4, .ref a5, .int (nI md), .int (nI ht), .ref a6, .int (nI en), .ref a7, .ref a8, .int rn])), (a1, .inl (cI, 48, .inl nu)), (a2, .inl (cI, 48, .inl (fun uu => nI (sl uu)))), (a3, .inl (cI, 48, .inl co)), (a4, .inl (cZ, 48, .inl (fun uu => lc_bI (nt uu)))), (a5, .inl (cI, 48, .inl ho)), (a6, .inl (cI, 8, .inl fp)), (a7, .inl (cI, 5, .inl wh)), (a8, .inl (cI, 20, .inl he))] H → va_D A [(g0, .inr (4, [.ref a1, .ref a2, .ref a3, .ref a4, .ref a5, .int (nI md), .int (nI ht), .ref a6, .int (nI en), .ref a7, .ref a8, .int rn])), (a1, .inl (cI, 48, .inl nu)), (a2, .inl (cI, 48, .inl (fun uu => nI (sl uu)))), (a3, .inl (cI, 48, .inl co)), (a4, .inl (cZ, 48, .inl (fun uu => lc_bI (nt uu)))), (a5, .inl (cI, 48, .inl ho)), (a6, .inl (cI, 8, .inl fp)), (a7, .inl (cI, 5, .inl wh)), (a8, .inl (cI, 20, .inl he))] → va_S A s.heap H locs → ∀ (ls : Array Slot), lv_has ls 3 [(0, .ref g0), (1, .int (nI (lc_ct (fun u => decide (0 < sl u)) i))), (2, .int (nI i))] → W p l e ({ frames := 0, cells := 0, slots := 0, locals := 0 } : Room) s m args below meth c H locs 0 0 Q (F0 m 4 ls []) := by
    intro fu
    induction fu with
    | zero => intro i hf; omega
    | succ fu ih4 =>
      intro i hf hi H locs hP hD hS ls hl
      refine lv_iload_n hx hb d_M_alive_4 rfl (lv_at hl 2 rfl) ?_
      refine lv_bipush (v := nI 48) hx hb d_M_alive_5 (by decide +kernel) ?_
      refine zz_icmp_ge (tgt := 33) hx hb (by omega) (by omega) d_M_alive_7 (by decide) (fun c7 => ?_) (fun c7 => ?_)
      · skip
        refine lv_iload_n hx hb d_M_alive_33 rfl (lv_at hl 1 rfl) ?_
        refine zz_top (z := nI (lc_ct (fun u => decide (0 < sl u)) 48)) (by rw [show i = 48 by omega]) ?_
        exact hret _ _ _ _ d_M_alive_34 hP hD hS
      · skip
        refine lv_aload_n hx hb d_M_alive_10 rfl (lv_at hl 0 rfl) ?_
        refine va_get (D := D) (ci := 4) (v := .ref a2) (C := R_M) (T := F_M) (N := 12) hx hb hts i_M hown hK hP 0 rfl rfl 1 (by decide) (hts _ kw_173) (fun _ h9 => h9) rfl d_M_alive_11 ?_
        refine lv_iload_n hx hb d_M_alive_14 rfl (lv_at hl 2 rfl) ?_
        refine zz_iald hx hb hK hP 2 0 (f := (fun uu => nI (sl uu))) rfl rfl (i := i) (by omega) (by omega) d_M_alive_15 ?_
        refine zz_top (z := nI (sl i)) rfl ?_
        have hsi := hs i (by omega)
        refine zz_if_le (tgt := 25) hx hb (by omega) d_M_alive_16 (by decide) (fun c16 => ?_) (fun c16 => ?_)
        · skip
          refine lv_iload_n hx hb d_M_alive_25 rfl (lv_at hl 1 rfl) ?_
          refine lv_istore_n (lv' := [(1, .int (nI (lc_ct (fun u => decide (0 < sl u)) i))), (0, .ref g0), (2, .int (nI i))]) hx hb d_M_alive_26 rfl hl (by decide) rfl (fun ls hl => ?_)
          refine lv_iinc (v := nI (i + 1)) (lv' := [(2, .int (nI (i + 1))), (1, .int (nI (lc_ct (fun u => decide (0 < sl u)) i))), (0, .ref g0)]) hx hb d_M_alive_27 hl (k := 2) rfl (nI_1 _) (by decide) rfl (fun ls hl => ?_)
          refine lv_goto (tgt := 4) hx hb d_M_alive_30 (by decide) ?_
          have eL1 : lc_ct (fun u => decide (0 < sl u)) i = lc_ct (fun u => decide (0 < sl u)) (i + 1) := by first | rfl | simp [lc_ct, *]
          exact ih4 (i + 1) (by omega) (by omega) _ _ hP hD hS _ (zz_hlc (lv_sub (l' := [(0, .ref g0), (1, .int (nI (lc_ct (fun u => decide (0 < sl u)) i))), (2, .int (nI (i + 1)))]) hl [2, 1, 0] rfl) (zz_c1 rfl (zz_c1 (congrArg (fun v => ((1 : Nat), Value.int (nI v))) eL1) (zz_c1 rfl rfl))))
        · skip
          refine lv_iload_n hx hb d_M_alive_19 rfl (lv_at hl 1 rfl) ?_
          refine lv_iconst (v := nI 1) hx hb d_M_alive_20 (by decide +kernel) ?_
          refine zz_iadd hx hb d_M_alive_21 ?_
          refine lv_goto (tgt := 26) hx hb d_M_alive_22 (by decide) ?_
          refine lv_istore_n (lv' := [(1, .int (nI ((lc_ct (fun u => decide (0 < sl u)) i) + 1))), (0, .ref g0), (2, .int (nI i))]) hx hb d_M_alive_26 rfl hl (by decide) rfl (fun ls hl => ?_)
          refine lv_iinc (v := nI (i + 1)) (lv' := [(2, .int (nI (i + 1))), (1, .int (nI ((lc_ct (fun u => decide (0 < sl u)) i) + 1))), (0, .ref g0)]) hx hb d_M_alive_27 hl (k := 2) rfl (nI_1 _) (by decide) rfl (fun ls hl => ?_)
          refine lv_goto (tgt := 4) hx hb d_M_alive_30 (by decide) ?_
          have eL2 : (lc_ct (fun u => decide (0 < sl u)) i) + 1 = lc_ct (fun u => decide (0 < sl u)) (i + 1) := by first | rfl | simp [lc_ct, *]
          exact ih4 (i + 1) (by omega) (by omega) _ _ hP hD hS _ (zz_hlc (lv_sub (l' := [(0, .ref g0), (1, .int (nI ((lc_ct (fun u => decide (0 < sl u)) i) + 1))), (2, .int (nI (i + 1)))]) hl [2, 1, 0] rfl) (zz_c1 rfl (zz_c1 (congrArg (fun v => ((1 : Nat), Value.int (nI v))) eL2) (zz_c1 rfl rfl))))
  have eL3 : 0 = lc_ct (fun u => decide (0 < sl u)) 0 := by first | rfl | simp [lc_ct, *]
  exact loop4 49 0 (by omega) (by omega) _ _ hP hD hS _ (zz_hlc (lv_sub (l' := [(0, .ref g0), (1, .int (nI 0)), (2, .int (nI 0))]) hl [2, 1, 0] rfl) (zz_c1 rfl (zz_c1 (congrArg (fun v => ((1 : Nat), Value.int (nI v))) eL3) (zz_c1 rfl rfl))))
set_option maxHeartbeats 4000000 in
set_option maxRecDepth 100000 in
theorem c_M_reckon (l : Launch) (D : va_G) (cI : ClassId) (cZ : ClassId) (g0 : Nat) (a1 : Nat) (a2 : Nat) (a3 : Nat) (a4 : Nat) (a5 : Nat) (a6 : Nat) (a7 : Nat) (a8 : Nat) (nu : lc_A) (sl : Nat → Nat) (co : lc_A) (nt : Nat → Bool) (ho : lc_A) (md : Nat) (ht : Nat) (fp : lc_A) (en : Nat) (wh : lc_A) (he : lc_A) (rn : Int32) (hs : ∀ i, i < 48 → i + sl i < 48) (hht : ht ≤ 8) : zz_MI l y_M_reckon b_M_reckon 2 .int ({ frames := 3, cells := 0, slots := 0, locals := 66 } : Room) D [(cI, .int), (cZ, .boolean)] [.ref g0] [(g0, .inr (4, [.ref a1, .ref a2, .ref a3, .ref a4, .ref a5, .int (nI md), .int (nI ht), .ref a6, .int (nI en), .ref a7, .ref a8, .int rn])), (a1, .inl (cI, 48, .inl nu)), (a2, .inl (cI, 48, .inl (fun uu => nI (sl uu)))), (a3, .inl (cI, 48, .inl co)), (a4, .inl (cZ, 48, .inl (fun uu => lc_bI (nt uu)))), (a5, .inl (cI, 48, .inl ho)), (a6, .inl (cI, 8, .inl fp)), (a7, .inl (cI, 5, .inl wh)), (a8, .inl (cI, 20, .inl he))] (nI (lc_ct (fun u => decide (0 < sl u)) 48) - nI (lc_ct (fun u => decide (0 < (lm_st nu ho fp ht 50 sl co nt).1 u)) 48)) [(g0, .inr (4, [.ref a1, .ref a2, .ref a3, .ref a4, .ref a5, .int (nI md), .int (nI ht), .ref a6, .int (nI 0), .ref a7, .ref a8, .int (rn + nI 1)])), (a1, .inl (cI, 48, .inl nu)), (a2, .inl (cI, 48, .inl (fun uu => nI (((lm_st nu ho fp ht 50 sl co nt).1) uu)))), (a3, .inl (cI, 48, .inl ((lm_st nu ho fp ht 50 sl co nt).2.1))), (a4, .inl (cZ, 48, .inl (fun uu => lc_bI (((lm_st nu ho fp ht 50 sl co nt).2.2) uu)))), (a5, .inl (cI, 48, .inl ho)), (a6, .inl (cI, 8, .inl fp)), (a7, .inl (cI, 5, .inl wh)), (a8, .inl (cI, 20, .inl he))] := by
  refine zz_MI_of (by decide) (Nat.le_of_ble_eq_true rfl) (vp_nar_int _) ?_
  intro p e s m args below meth c A ls Q hx hb hml hown hts hK hP hD hS hA hl hret
  have hown : s.vm.findClass R_M = some m.cls := hown
  have hl : lv_has ls 2 [(0, .ref g0)] := hl
  have hs2 := lm_st_48 nu ho fp ht 50 sl co nt hs
  refine lv_aload_n hx hb d_M_reckon_0 rfl (lv_at hl 0 rfl) ?_
  refine zz_callI (np := 0) hx hb hml hown hts hK hP hD hS hA (c_M_alive l D cI cZ g0 a1 a2 a3 a4 a5 a6 a7 a8 nu sl co nt ho md ht fp en wh he rn hs) (zz_gv kw_200 kw_201 kw_202 kw_184 kc_199) (by decide +kernel) rfl rfl ⟨Nat.le_of_ble_eq_true rfl, Nat.le_of_ble_eq_true rfl⟩ ⟨Nat.zero_le _, Nat.zero_le _⟩ [0, 1] rfl 0 4 rfl rfl rfl [0, 1, 2, 3, 4, 5, 6, 7, 8] [] [0, 1, 2, 3, 4, 5, 6, 7, 8] rfl (by decide) (wr := []) rfl (by decide) (by decide) (ws' := [(g0, .inr (4, [.ref a1, .ref a2, .ref a3, .ref a4, .ref a5, .int (nI md), .int (nI ht), .ref a6, .int (nI en), .ref a7, .ref a8, .int rn])), (a1, .inl (cI, 48, .inl nu)), (a2, .inl (cI, 48, .inl (fun uu => nI (sl uu)))), (a3, .inl (cI, 48, .inl co)), (a4, .inl (cZ, 48, .inl (fun uu => lc_bI (nt uu)))), (a5, .inl (cI, 48, .inl ho)), (a6, .inl (cI, 8, .inl fp)), (a7, .inl (cI, 5, .inl wh)), (a8, .inl (cI, 20, .inl he))]) rfl (by decide) rfl hl.1 rfl (Nat.le_of_ble_eq_true rfl) d_M_reckon_1 (fun H locs hP hD hS => ?_)
  refine lv_istore_n (lv' := [(1, .int (nI (lc_ct (fun u => decide (0 < sl u)) 48))), (0, .ref g0)]) hx hb d_M_reckon_4 rfl hl (by decide) rfl (fun ls hl => ?_)
  refine lv_aload_n hx hb d_M_reckon_5 rfl (lv_at hl 1 rfl) ?_
  refine zz_callV (np := 0) hx hb hml hown hts hK hP hD hS hA (c_M_settle l D cI cZ g0 a1 a2 a3 a4 a5 a6 a7 a8 nu sl co nt ho md ht fp en wh he rn hs hht) (zz_gv kw_204 kw_205 kw_206 kw_184 kc_203) (by decide +kernel) rfl rfl ⟨Nat.le_of_ble_eq_true rfl, Nat.le_of_ble_eq_true rfl⟩ ⟨Nat.zero_le _, Nat.zero_le _⟩ [0, 1] rfl 0 4 rfl rfl rfl [0, 1, 2, 3, 4, 5, 6, 7, 8] [] [0, 1, 2, 3, 4, 5, 6, 7, 8] rfl (by decide) (wr := []) rfl (by decide) (by decide) (ws' := [(g0, .inr (4, [.ref a1, .ref a2, .ref a3, .ref a4, .ref a5, .int (nI md), .int (nI ht), .ref a6, .int (nI 0), .ref a7, .ref a8, .int (rn + nI 1)])), (a1, .inl (cI, 48, .inl nu)), (a2, .inl (cI, 48, .inl (fun uu => nI (((lm_st nu ho fp ht 50 sl co nt).1) uu)))), (a3, .inl (cI, 48, .inl ((lm_st nu ho fp ht 50 sl co nt).2.1))), (a4, .inl (cZ, 48, .inl (fun uu => lc_bI (((lm_st nu ho fp ht 50 sl co nt).2.2) uu)))), (a5, .inl (cI, 48, .inl ho)), (a6, .inl (cI, 8, .inl fp)), (a7, .inl (cI, 5, .inl wh)), (a8, .inl (cI, 20, .inl he))]) rfl (by decide) rfl hl.1 rfl (Nat.le_of_ble_eq_true rfl) d_M_reckon_6 (fun H locs hP hD hS => ?_)
  refine lv_iload_n hx hb d_M_reckon_9 rfl (lv_at hl 0 rfl) ?_
  refine lv_aload_n hx hb d_M_reckon_10 rfl (lv_at hl 1 rfl) ?_
  refine zz_callI (np := 0) hx hb hml hown hts hK hP hD hS hA (c_M_alive l D cI cZ g0 a1 a2 a3 a4 a5 a6 a7 a8 nu ((lm_st nu ho fp ht 50 sl co nt).1) ((lm_st nu ho fp ht 50 sl co nt).2.1) ((lm_st nu ho fp ht 50 sl co nt).2.2) ho md ht fp 0 wh he (rn + nI 1) hs2) (zz_gv kw_200 kw_201 kw_202 kw_184 kc_199) (by decide +kernel) rfl rfl ⟨Nat.le_of_ble_eq_true rfl, Nat.le_of_ble_eq_true rfl⟩ ⟨Nat.zero_le _, Nat.zero_le _⟩ [0, 1] rfl 0 4 rfl rfl rfl [0, 1, 2, 3, 4, 5, 6, 7, 8] [] [0, 1, 2, 3, 4, 5, 6, 7, 8] rfl (by decide) (wr := []) rfl (by decide) (by decide) (ws' := [(g0, .inr (4, [.ref a1, .ref a2, .ref a3, .ref a4, .ref a5, .int (nI md), .int (nI ht), .ref a6, .int (nI 0), .ref a7, .ref a8, .int (rn + nI 1)])), (a1, .inl (cI, 48, .inl nu)), (a2, .inl (cI, 48, .inl (fun uu => nI (((lm_st nu ho fp ht 50 sl co nt).1) uu)))), (a3, .inl (cI, 48, .inl ((lm_st nu ho fp ht 50 sl co nt).2.1))), (a4, .inl (cZ, 48, .inl (fun uu => lc_bI (((lm_st nu ho fp ht 50 sl co nt).2.2) uu)))), (a5, .inl (cI, 48, .inl ho)), (a6, .inl (cI, 8, .inl fp)), (a7, .inl (cI, 5, .inl wh)), (a8, .inl (cI, 20, .inl he))]) rfl (by decide) rfl hl.1 rfl (Nat.le_of_ble_eq_true rfl) d_M_reckon_11 (fun H locs hP hD hS => ?_)
  refine lv_isub hx hb d_M_reckon_14 ?_
  refine zz_top (z := nI (lc_ct (fun u => decide (0 < sl u)) 48) - nI (lc_ct (fun u => decide (0 < (lm_st nu ho fp ht 50 sl co nt).1 u)) 48)) (by simp) ?_
  exact hret _ _ _ _ d_M_reckon_15 hP hD hS
end
section
set_option maxHeartbeats 4000000 in
set_option maxRecDepth 100000 in
theorem c_M_room (l : Launch) (D : va_G) (cI : ClassId) (cZ : ClassId) (g0 : Nat) (a1 : Nat) (a2 : Nat) (a3 : Nat) (a4 : Nat) (a5 : Nat) (a6 : Nat) (a7 : Nat) (a8 : Nat) (nu : lc_A) (sl : Nat → Nat) (co : lc_A) (nt : Nat → Bool) (ho : lc_A) (md : Nat) (ht : Nat) (fp : lc_A) (en : Nat) (wh : lc_A) (he : lc_A) (rn : Int32) (k : Nat) (hs : ∀ i, i < 48 → i + sl i < 48) (hk : 0 < k) (hk2 : k < 48) : zz_MI l y_M_room b_M_room 4 .int ({ frames := 0, cells := 0, slots := 0, locals := 0 } : Room) D [(cI, .int), (cZ, .boolean)] [.ref g0, .int (nI k)] [(g0, .inr (4, [.ref a1, .ref a2, .ref a3, .ref a4, .ref a5, .int (nI md), .int (nI ht), .ref a6, .int (nI en), .ref a7, .ref a8, .int rn])), (a1, .inl (cI, 48, .inl nu)), (a2, .inl (cI, 48, .inl (fun uu => nI (sl uu)))), (a3, .inl (cI, 48, .inl co)), (a4, .inl (cZ, 48, .inl (fun uu => lc_bI (nt uu)))), (a5, .inl (cI, 48, .inl ho)), (a6, .inl (cI, 8, .inl fp)), (a7, .inl (cI, 5, .inl wh)), (a8, .inl (cI, 20, .inl he))] (lc_oI (lm_room sl k)) [(g0, .inr (4, [.ref a1, .ref a2, .ref a3, .ref a4, .ref a5, .int (nI md), .int (nI ht), .ref a6, .int (nI en), .ref a7, .ref a8, .int rn])), (a1, .inl (cI, 48, .inl nu)), (a2, .inl (cI, 48, .inl (fun uu => nI (sl uu)))), (a3, .inl (cI, 48, .inl co)), (a4, .inl (cZ, 48, .inl (fun uu => lc_bI (nt uu)))), (a5, .inl (cI, 48, .inl ho)), (a6, .inl (cI, 8, .inl fp)), (a7, .inl (cI, 5, .inl wh)), (a8, .inl (cI, 20, .inl he))] := by
  refine zz_MI_of (by decide) (Nat.le_of_ble_eq_true rfl) (vp_nar_int _) ?_
  intro p e s m args below meth c A ls Q hx hb hml hown hts hK hP hD hS hA hl hret
  have hown : s.vm.findClass R_M = some m.cls := hown
  have hl : lv_has ls 4 [(0, .ref g0), (1, .int (nI k))] := hl
  refine lv_iconst (v := nI 0) hx hb d_M_room_0 (by decide +kernel) ?_
  refine lv_istore_n (lv' := [(2, .int (nI 0)), (0, .ref g0), (1, .int (nI k))]) hx hb d_M_room_1 rfl hl (by decide) rfl (fun ls hl => ?_)
  refine lv_iconst (v := nI 0) hx hb d_M_room_2 (by decide +kernel) ?_
  refine lv_istore_n (lv' := [(3, .int (nI 0)), (2, .int (nI 0)), (0, .ref g0), (1, .int (nI k))]) hx hb d_M_room_3 rfl hl (by decide) rfl (fun ls hl => ?_)
  have loop4 : ∀ (fu : Nat) (i : Nat) (run : Nat), 48 - i < fu → (hi : i ≤ 48) → (hr : run ≤ i) → (hE : lm_rm sl k fu i run = lm_room sl k) → ∀ (H : Heap) (locs : List Loc), va_P D classes [(g0, .inr (4, [.ref a1, .ref a2, .ref a3, .ref a4, .ref a5, .int (nI md), .int (nI ht), .ref a6, .int (nI en), .ref a7, .ref a8, .int rn])), (a1, .inl (cI, 48, .inl nu)), (a2, .inl (cI, 48, .inl (fun uu => nI (sl uu)))), (a3, .inl (cI, 48, .inl co)), (a4, .inl (cZ, 48, .inl (fun uu => lc_bI (nt uu)))), (a5, .inl (cI, 48, .inl ho)), (a6, .inl (cI, 8, .inl fp)), (a7, .inl (cI, 5, .inl wh)), (a8, .inl (cI, 20, .inl he))] H → va_D A [(g0, .inr (4, [.ref a1, .ref a2, .ref a3, .ref a4, .ref a5, .int (nI md), .int (nI ht), .ref a6, .int (nI en), .ref a7, .ref a8, .int rn])), (a1, .inl (cI, 48, .inl nu)), (a2, .inl (cI, 48, .inl (fun uu => nI (sl uu)))), (a3, .inl (cI, 48, .inl co)), (a4, .inl (cZ, 48, .inl (fun uu => lc_bI (nt uu)))), (a5, .inl (cI, 48, .inl ho)), (a6, .inl (cI, 8, .inl fp)), (a7, .inl (cI, 5, .inl wh)), (a8, .inl (cI, 20, .inl he))] → va_S A s.heap H locs → ∀ (ls : Array Slot), lv_has ls 4 [(0, .ref g0), (1, .int (nI k)), (2, .int (nI run)), (3, .int (nI i))] → W p l e ({ frames := 0, cells := 0, slots := 0, locals := 0 } : Room) s m args below meth c H locs 0 0 Q (F0 m 4 ls []) := by
    intro fu
    induction fu with
    | zero => intro i run hf; omega
    | succ fu ih4 =>
      intro i run hf hi hr hE H locs hP hD hS ls hl
      refine lv_iload_n hx hb d_M_room_4 rfl (lv_at hl 3 rfl) ?_
      refine lv_bipush (v := nI 48) hx hb d_M_room_5 (by decide +kernel) ?_
      refine zz_icmp_ge (tgt := 50) hx hb (by omega) (by omega) d_M_room_7 (by decide) (fun c7 => ?_) (fun c7 => ?_)
      · skip
        refine lv_iconst (v := (-1)) hx hb d_M_room_50 (by decide +kernel) ?_
        refine zz_top (z := lc_oI (lm_room sl k)) (by exact lm_rm_end (by omega) hE) ?_
        exact hret _ _ _ _ d_M_room_51 hP hD hS
      · skip
        refine lv_aload_n hx hb d_M_room_10 rfl (lv_at hl 0 rfl) ?_
        refine va_get (D := D) (ci := 4) (v := .ref a2) (C := R_M) (T := F_M) (N := 12) hx hb hts i_M hown hK hP 0 rfl rfl 1 (by decide) (hts _ kw_173) (fun _ h9 => h9) rfl d_M_room_11 ?_
        refine lv_iload_n hx hb d_M_room_14 rfl (lv_at hl 3 rfl) ?_
        refine zz_iald hx hb hK hP 2 0 (f := (fun uu => nI (sl uu))) rfl rfl (i := i) (by omega) (by omega) d_M_room_15 ?_
        refine zz_top (z := nI (sl i)) rfl ?_
        have hsi := hs i (by omega)
        refine zz_if_le (tgt := 35) hx hb (by omega) d_M_room_16 (by decide) (fun c16 => ?_) (fun c16 => ?_)
        · skip
          refine lv_iinc (v := nI (run + 1)) (lv' := [(2, .int (nI (run + 1))), (0, .ref g0), (1, .int (nI k)), (3, .int (nI i))]) hx hb d_M_room_35 hl (k := 2) rfl (nI_1 _) (by decide) rfl (fun ls hl => ?_)
          refine lv_iinc (v := nI (i + 1)) (lv' := [(3, .int (nI (i + 1))), (2, .int (nI (run + 1))), (0, .ref g0), (1, .int (nI k))]) hx hb d_M_room_38 hl (k := 3) rfl (nI_1 _) (by decide) rfl (fun ls hl => ?_)
          refine lv_iload_n hx hb d_M_room_41 rfl (lv_at hl 1 rfl) ?_
          refine lv_iload_n hx hb d_M_room_42 rfl (lv_at hl 3 rfl) ?_
          refine zz_icmp_ne (tgt := 4) hx hb (by omega) (by omega) d_M_room_43 (by decide) (fun c43 => ?_) (fun c43 => ?_)
          · skip
            exact ih4 (i + 1) (run + 1) (by omega) (by omega) (by omega) (by first | exact (lm_rm_s1 (by omega) (by omega) (by assumption)).trans hE | exact (lm_rm_s0 (by omega) (by omega)).trans hE) _ _ hP hD hS _ (lv_sub hl [2, 3, 1, 0] rfl)
          · skip
            refine lv_iload_n hx hb d_M_room_46 rfl (lv_at hl 0 rfl) ?_
            refine lv_iload_n hx hb d_M_room_47 rfl (lv_at hl 3 rfl) ?_
            refine zz_isub hx hb (by omega) d_M_room_48 ?_
            refine zz_top (z := lc_oI (lm_room sl k)) (by exact lm_rm_ret (by omega) (by omega) (by assumption) hr hE) ?_
            exact hret _ _ _ _ d_M_room_49 hP hD hS
        · skip
          refine lv_iconst (v := nI 0) hx hb d_M_room_19 (by decide +kernel) ?_
          refine lv_istore_n (lv' := [(2, .int (nI 0)), (0, .ref g0), (1, .int (nI k)), (3, .int (nI i))]) hx hb d_M_room_20 rfl hl (by decide) rfl (fun ls hl => ?_)
          refine lv_iload_n hx hb d_M_room_21 rfl (lv_at hl 3 rfl) ?_
          refine lv_aload_n hx hb d_M_room_22 rfl (lv_at hl 1 rfl) ?_
          refine va_get (D := D) (ci := 4) (v := .ref a2) (C := R_M) (T := F_M) (N := 12) hx hb hts i_M hown hK hP 0 rfl rfl 1 (by decide) (hts _ kw_173) (fun _ h9 => h9) rfl d_M_room_23 ?_
          refine lv_iload_n hx hb d_M_room_26 rfl (lv_at hl 3 rfl) ?_
          refine zz_iald hx hb hK hP 2 0 (f := (fun uu => nI (sl uu))) rfl rfl (i := i) (by omega) (by omega) d_M_room_27 ?_
          refine zz_top (z := nI (sl i)) rfl ?_
          refine zz_iadd hx hb d_M_room_28 ?_
          refine lv_iconst (v := nI 1) hx hb d_M_room_29 (by decide +kernel) ?_
          refine zz_iadd hx hb d_M_room_30 ?_
          refine lv_istore_n (lv' := [(3, .int (nI ((i + (sl i)) + 1))), (2, .int (nI 0)), (0, .ref g0), (1, .int (nI k))]) hx hb d_M_room_31 rfl hl (by decide) rfl (fun ls hl => ?_)
          refine lv_goto (tgt := 4) hx hb d_M_room_32 (by decide) ?_
          exact ih4 ((i + (sl i)) + 1) 0 (by omega) (by omega) (by omega) (by first | exact (lm_rm_s1 (by omega) (by omega) (by assumption)).trans hE | exact (lm_rm_s0 (by omega) (by omega)).trans hE) _ _ hP hD hS _ (lv_sub hl [2, 3, 1, 0] rfl)
  exact loop4 49 0 0 (by omega) (by omega) (by omega) (lm_room_i sl k) _ _ hP hD hS _ (lv_sub hl [2, 3, 1, 0] rfl)
end
section
set_option maxHeartbeats 4000000 in
set_option maxRecDepth 100000 in
theorem c_M_push (l : Launch) (D : va_G) (cI : ClassId) (cZ : ClassId) (g0 : Nat) (a1 : Nat) (a2 : Nat) (a3 : Nat) (a4 : Nat) (a5 : Nat) (a6 : Nat) (a7 : Nat) (a8 : Nat) (nu : lc_A) (sl : Nat → Nat) (co : lc_A) (nt : Nat → Bool) (ho : lc_A) (md : Nat) (ht : Nat) (fp : lc_A) (en : Nat) (wh : lc_A) (he : lc_A) (rn : Int32) (x : Int32) (hh : ht < 8) : zz_MV l y_M_push b_M_push 2 ({ frames := 0, cells := 0, slots := 0, locals := 0 } : Room) D [(cI, .int), (cZ, .boolean)] [.ref g0, .int x] [(g0, .inr (4, [.ref a1, .ref a2, .ref a3, .ref a4, .ref a5, .int (nI md), .int (nI ht), .ref a6, .int (nI en), .ref a7, .ref a8, .int rn])), (a1, .inl (cI, 48, .inl nu)), (a2, .inl (cI, 48, .inl (fun uu => nI (sl uu)))), (a3, .inl (cI, 48, .inl co)), (a4, .inl (cZ, 48, .inl (fun uu => lc_bI (nt uu)))), (a5, .inl (cI, 48, .inl ho)), (a6, .inl (cI, 8, .inl fp)), (a7, .inl (cI, 5, .inl wh)), (a8, .inl (cI, 20, .inl he))] [(g0, .inr (4, [.ref a1, .ref a2, .ref a3, .ref a4, .ref a5, .int (nI md), .int (nI (ht + 1)), .ref a6, .int (nI en), .ref a7, .ref a8, .int rn])), (a1, .inl (cI, 48, .inl nu)), (a2, .inl (cI, 48, .inl (fun uu => nI (sl uu)))), (a3, .inl (cI, 48, .inl co)), (a4, .inl (cZ, 48, .inl (fun uu => lc_bI (nt uu)))), (a5, .inl (cI, 48, .inl ho)), (a6, .inl (cI, 8, .inl (upd fp ht x))), (a7, .inl (cI, 5, .inl wh)), (a8, .inl (cI, 20, .inl he))] := by
  refine zz_MV_of (by decide) (Nat.le_of_ble_eq_true rfl) ?_
  intro p e s m args below meth c A ls Q hx hb hml hown hts hK hP hD hS hA hl hret
  have hown : s.vm.findClass R_M = some m.cls := hown
  have hl : lv_has ls 2 [(0, .ref g0), (1, .int x)] := hl
  refine lv_aload_n hx hb d_M_push_0 rfl (lv_at hl 0 rfl) ?_
  refine va_get (D := D) (ci := 4) (v := .ref a6) (C := R_M) (T := F_M) (N := 12) hx hb hts i_M hown hK hP 0 rfl rfl 7 (by decide) (hts _ kw_177) (fun _ h9 => h9) rfl d_M_push_1 ?_
  refine lv_aload_n hx hb d_M_push_4 rfl (lv_at hl 0 rfl) ?_
  refine va_get (D := D) (ci := 4) (v := .int (nI ht)) (C := R_M) (T := F_M) (N := 12) hx hb hts i_M hown hK hP 0 rfl rfl 6 (by decide) (hts _ kw_176) (fun _ h9 => h9) rfl d_M_push_5 ?_
  refine lv_iload_n hx hb d_M_push_8 rfl (lv_at hl 1 rfl) ?_
  refine zz_iast hx hb hK hP hD hS 6 0 (f := fp) rfl rfl (i := ht) (by omega) (by omega) d_M_push_9 (g := upd fp ht x) rfl (ws' := [(g0, .inr (4, [.ref a1, .ref a2, .ref a3, .ref a4, .ref a5, .int (nI md), .int (nI ht), .ref a6, .int (nI en), .ref a7, .ref a8, .int rn])), (a1, .inl (cI, 48, .inl nu)), (a2, .inl (cI, 48, .inl (fun uu => nI (sl uu)))), (a3, .inl (cI, 48, .inl co)), (a4, .inl (cZ, 48, .inl (fun uu => lc_bI (nt uu)))), (a5, .inl (cI, 48, .inl ho)), (a6, .inl (cI, 8, .inl (upd fp ht x))), (a7, .inl (cI, 5, .inl wh)), (a8, .inl (cI, 20, .inl he))]) rfl (fun H locs hP hD hS => ?_)
  refine lv_aload_n hx hb d_M_push_10 rfl (lv_at hl 0 rfl) ?_
  refine lv_dup hx hb d_M_push_11 rfl ?_
  refine va_get (D := D) (ci := 4) (v := .int (nI ht)) (C := R_M) (T := F_M) (N := 12) hx hb hts i_M hown hK hP 0 rfl rfl 6 (by decide) (hts _ kw_176) (fun _ h9 => h9) rfl d_M_push_12 ?_
  refine lv_iconst (v := nI 1) hx hb d_M_push_15 (by decide +kernel) ?_
  refine zz_iadd hx hb d_M_push_16 ?_
  refine va_put (D := D) (ci := 4) (v := .int (nI (ht + 1))) (ty := .int) (C := R_M) (T := F_M) (N := 12) hx hb hts i_M t_M t_M_ok n_M hown hK hP hD hS 0 rfl rfl 6 (by decide) (hts _ kw_176) (fun _ h9 => h9) rfl (by decide +kernel) rfl rfl (Nat.le_of_ble_eq_true rfl) d_M_push_17 (fun H locs hP hD hS => ?_)
  have hP : va_P D classes [(g0, .inr (4, [.ref a1, .ref a2, .ref a3, .ref a4, .ref a5, .int (nI md), .int (nI (ht + 1)), .ref a6, .int (nI en), .ref a7, .ref a8, .int rn])), (a1, .inl (cI, 48, .inl nu)), (a2, .inl (cI, 48, .inl (fun uu => nI (sl uu)))), (a3, .inl (cI, 48, .inl co)), (a4, .inl (cZ, 48, .inl (fun uu => lc_bI (nt uu)))), (a5, .inl (cI, 48, .inl ho)), (a6, .inl (cI, 8, .inl (upd fp ht x))), (a7, .inl (cI, 5, .inl wh)), (a8, .inl (cI, 20, .inl he))] H := hP
  have hD : va_D A [(g0, .inr (4, [.ref a1, .ref a2, .ref a3, .ref a4, .ref a5, .int (nI md), .int (nI (ht + 1)), .ref a6, .int (nI en), .ref a7, .ref a8, .int rn])), (a1, .inl (cI, 48, .inl nu)), (a2, .inl (cI, 48, .inl (fun uu => nI (sl uu)))), (a3, .inl (cI, 48, .inl co)), (a4, .inl (cZ, 48, .inl (fun uu => lc_bI (nt uu)))), (a5, .inl (cI, 48, .inl ho)), (a6, .inl (cI, 8, .inl (upd fp ht x))), (a7, .inl (cI, 5, .inl wh)), (a8, .inl (cI, 20, .inl he))] := hD
  exact hret _ _ _ _ d_M_push_20 hP hD hS
end
section
set_option maxHeartbeats 4000000 in
set_option maxRecDepth 100000 in
theorem c_M_make (l : Launch) (D : va_G) (cI : ClassId) (cZ : ClassId) (g0 : Nat) (a1 : Nat) (a2 : Nat) (a3 : Nat) (a4 : Nat) (a5 : Nat) (a6 : Nat) (a7 : Nat) (a8 : Nat) (nu : lc_A) (sl : Nat → Nat) (co : lc_A) (nt : Nat → Bool) (ho : lc_A) (md : Nat) (ht : Nat) (fp : lc_A) (en : Nat) (wh : lc_A) (he : lc_A) (rn : Int32) (x : Int32) (hs : ∀ i, i < 48 → i + sl i < 48) (hht : ht ≤ 8) : zz_MI l y_M_make b_M_make 4 .int ({ frames := 3, cells := 0, slots := 0, locals := 66 } : Room) D [(cI, .int), (cZ, .boolean)] [.ref g0, .int x] [(g0, .inr (4, [.ref a1, .ref a2, .ref a3, .ref a4, .ref a5, .int (nI md), .int (nI ht), .ref a6, .int (nI en), .ref a7, .ref a8, .int rn])), (a1, .inl (cI, 48, .inl nu)), (a2, .inl (cI, 48, .inl (fun uu => nI (sl uu)))), (a3, .inl (cI, 48, .inl co)), (a4, .inl (cZ, 48, .inl (fun uu => lc_bI (nt uu)))), (a5, .inl (cI, 48, .inl ho)), (a6, .inl (cI, 8, .inl fp)), (a7, .inl (cI, 5, .inl wh)), (a8, .inl (cI, 20, .inl he))] ((lm_make nu sl co nt ho md ht fp en wh he rn x).1) [(g0, .inr (4, [.ref a1, .ref a2, .ref a3, .ref a4, .ref a5, .int (nI (((lm_make nu sl co nt ho md ht fp en wh he rn x).2).2.2.2.2.2.1)), .int (nI (((lm_make nu sl co nt ho md ht fp en wh he rn x).2).2.2.2.2.2.2.1)), .ref a6, .int (nI (((lm_make nu sl co nt ho md ht fp en wh he rn x).2).2.2.2.2.2.2.2.2.1)), .ref a7, .ref a8, .int (((lm_make nu sl co nt ho md ht fp en wh he rn x).2).2.2.2.2.2.2.2.2.2.2.2)])), (a1, .inl (cI, 48, .inl (((lm_make nu sl co nt ho md ht fp en wh he rn x).2).1))), (a2, .inl (cI, 48, .inl (fun uu => nI ((((lm_make nu sl co nt ho md ht fp en wh he rn x).2).2.1) uu)))), (a3, .inl (cI, 48, .inl (((lm_make nu sl co nt ho md ht fp en wh he rn x).2).2.2.1))), (a4, .inl (cZ, 48, .inl (fun uu => lc_bI ((((lm_make nu sl co nt ho md ht fp en wh he rn x).2).2.2.2.1) uu)))), (a5, .inl (cI, 48, .inl (((lm_make nu sl co nt ho md ht fp en wh he rn x).2).2.2.2.2.1))), (a6, .inl (cI, 8, .inl (((lm_make nu sl co nt ho md ht fp en wh he rn x).2).2.2.2.2.2.2.2.1))), (a7, .inl (cI, 5, .inl (((lm_make nu sl co nt ho md ht fp en wh he rn x).2).2.2.2.2.2.2.2.2.2.1))), (a8, .inl (cI, 20, .inl (((lm_make nu sl co nt ho md ht fp en wh he rn x).2).2.2.2.2.2.2.2.2.2.2.1)))] := by
  refine zz_MI_of (by decide) (Nat.le_of_ble_eq_true rfl) (vp_nar_int _) ?_
  intro p e s m args below meth c A ls Q hx hb hml hown hts hK hP hD hS hA hl hret
  have hown : s.vm.findClass R_M = some m.cls := hown
  have hl : lv_has ls 4 [(0, .ref g0), (1, .int x)] := hl
  have hs2 := lm_st_48 nu ho fp ht 50 sl co nt hs
  refine lv_iload_n hx hb d_M_make_0 rfl (lv_at hl 1 rfl) ?_
  refine lv_iconst (v := nI 1) hx hb d_M_make_1 (by decide +kernel) ?_
  refine lv_iconst (v := nI 4) hx hb d_M_make_2 (by decide +kernel) ?_
  refine zz_callS (np := 3) hx hb hml hown hts hK hP hD hS hA (c_M_within l D x (nI 1) (nI 4) ) (zz_gs kw_208 kw_209 kw_184 kc_207) (by decide +kernel) rfl rfl ⟨Nat.le_of_ble_eq_true rfl, Nat.le_of_ble_eq_true rfl⟩ ⟨Nat.zero_le _, Nat.zero_le _⟩ [0, 1, 2, 3, 4, 5, 6, 7, 8] rfl (by decide) rfl hl.1 rfl (Nat.le_of_ble_eq_true rfl) d_M_make_3 (fun H locs hP hD hS => ?_)
  refine zz_bI (fun h3 => ?_) (fun h3 => ?_)
  · skip
    obtain ⟨n, hn1, hn4, ex, e14⟩ := lc_14_w h3
    subst ex
    refine zz_if_ne (tgt := 11) hx hb (by omega) d_M_make_6 (by decide) (fun c6 => ?_) (fun c6 => ?_)
    · skip
      refine lv_aload_n hx hb d_M_make_11 rfl (lv_at hl 0 rfl) ?_
      refine va_get (D := D) (ci := 4) (v := .int (nI ht)) (C := R_M) (T := F_M) (N := 12) hx hb hts i_M hown hK hP 0 rfl rfl 6 (by decide) (hts _ kw_176) (fun _ h9 => h9) rfl d_M_make_12 ?_
      refine lv_bipush (v := nI 8) hx hb d_M_make_15 (by decide +kernel) ?_
      refine zz_icmp_ne (tgt := 23) hx hb (by omega) (by omega) d_M_make_17 (by decide) (fun c17 => ?_) (fun c17 => ?_)
      · skip
        refine lv_aload_n hx hb d_M_make_23 rfl (lv_at hl 0 rfl) ?_
        refine lv_iload_n hx hb d_M_make_24 rfl (lv_at hl 1 rfl) ?_
        refine lv_iconst (v := nI 1) hx hb d_M_make_25 (by decide +kernel) ?_
        refine zz_iadd hx hb d_M_make_26 ?_
        refine zz_callI (np := 1) hx hb hml hown hts hK hP hD hS hA (c_M_room l D cI cZ g0 a1 a2 a3 a4 a5 a6 a7 a8 nu sl co nt ho md ht fp en wh he rn (n + 1) hs (by omega) (by omega)) (zz_gv kw_211 kw_212 kw_213 kw_184 kc_210) (by decide +kernel) rfl rfl ⟨Nat.le_of_ble_eq_true rfl, Nat.le_of_ble_eq_true rfl⟩ ⟨Nat.zero_le _, Nat.zero_le _⟩ [0, 1] rfl 0 4 rfl rfl rfl [0, 1, 2, 3, 4, 5, 6, 7, 8] [] [0, 1, 2, 3, 4, 5, 6, 7, 8] rfl (by decide) (wr := []) rfl (by decide) (by decide) (ws' := [(g0, .inr (4, [.ref a1, .ref a2, .ref a3, .ref a4, .ref a5, .int (nI md), .int (nI ht), .ref a6, .int (nI en), .ref a7, .ref a8, .int rn])), (a1, .inl (cI, 48, .inl nu)), (a2, .inl (cI, 48, .inl (fun uu => nI (sl uu)))), (a3, .inl (cI, 48, .inl co)), (a4, .inl (cZ, 48, .inl (fun uu => lc_bI (nt uu)))), (a5, .inl (cI, 48, .inl ho)), (a6, .inl (cI, 8, .inl fp)), (a7, .inl (cI, 5, .inl wh)), (a8, .inl (cI, 20, .inl he))]) rfl (by decide) rfl hl.1 rfl (Nat.le_of_ble_eq_true rfl) d_M_make_27 (fun H locs hP hD hS => ?_)
        refine zz_oI (fun h27 => ?_) (fun a h27 => ?_)
        · skip
          refine lv_istore_n (lv' := [(2, .int (-1)), (0, .ref g0), (1, .int (nI n))]) hx hb d_M_make_30 rfl hl (by decide) rfl (fun ls hl => ?_)
          refine lv_iload_n hx hb d_M_make_31 rfl (lv_at hl 0 rfl) ?_
          refine lv_if_ge (tgt := 47) hx hb d_M_make_32 (by decide) (fun c32 => ?_) (fun c32 => ?_)
          · skip
            exact absurd c32 (by decide)
          · skip
            refine lv_aload_n hx hb d_M_make_35 rfl (lv_at hl 1 rfl) ?_
            refine zz_callV (np := 0) hx hb hml hown hts hK hP hD hS hA (c_M_settle l D cI cZ g0 a1 a2 a3 a4 a5 a6 a7 a8 nu sl co nt ho md ht fp en wh he rn hs hht) (zz_gv kw_204 kw_205 kw_206 kw_184 kc_203) (by decide +kernel) rfl rfl ⟨Nat.le_of_ble_eq_true rfl, Nat.le_of_ble_eq_true rfl⟩ ⟨Nat.zero_le _, Nat.zero_le _⟩ [0, 1] rfl 0 4 rfl rfl rfl [0, 1, 2, 3, 4, 5, 6, 7, 8] [] [0, 1, 2, 3, 4, 5, 6, 7, 8] rfl (by decide) (wr := []) rfl (by decide) (by decide) (ws' := [(g0, .inr (4, [.ref a1, .ref a2, .ref a3, .ref a4, .ref a5, .int (nI md), .int (nI ht), .ref a6, .int (nI 0), .ref a7, .ref a8, .int (rn + nI 1)])), (a1, .inl (cI, 48, .inl nu)), (a2, .inl (cI, 48, .inl (fun uu => nI (((lm_st nu ho fp ht 50 sl co nt).1) uu)))), (a3, .inl (cI, 48, .inl ((lm_st nu ho fp ht 50 sl co nt).2.1))), (a4, .inl (cZ, 48, .inl (fun uu => lc_bI (((lm_st nu ho fp ht 50 sl co nt).2.2) uu)))), (a5, .inl (cI, 48, .inl ho)), (a6, .inl (cI, 8, .inl fp)), (a7, .inl (cI, 5, .inl wh)), (a8, .inl (cI, 20, .inl he))]) rfl (by decide) rfl hl.1 rfl (Nat.le_of_ble_eq_true rfl) d_M_make_36 (fun H locs hP hD hS => ?_)
            refine lv_aload_n hx hb d_M_make_39 rfl (lv_at hl 1 rfl) ?_
            refine lv_iload_n hx hb d_M_make_40 rfl (lv_at hl 2 rfl) ?_
            refine lv_iconst (v := nI 1) hx hb d_M_make_41 (by decide +kernel) ?_
            refine zz_iadd hx hb d_M_make_42 ?_
            refine zz_callI (np := 1) hx hb hml hown hts hK hP hD hS hA (c_M_room l D cI cZ g0 a1 a2 a3 a4 a5 a6 a7 a8 nu ((lm_st nu ho fp ht 50 sl co nt).1) ((lm_st nu ho fp ht 50 sl co nt).2.1) ((lm_st nu ho fp ht 50 sl co nt).2.2) ho md ht fp 0 wh he (rn + nI 1) (n + 1) hs2 (by omega) (by omega)) (zz_gv kw_211 kw_212 kw_213 kw_184 kc_210) (by decide +kernel) rfl rfl ⟨Nat.le_of_ble_eq_true rfl, Nat.le_of_ble_eq_true rfl⟩ ⟨Nat.zero_le _, Nat.zero_le _⟩ [0, 1] rfl 0 4 rfl rfl rfl [0, 1, 2, 3, 4, 5, 6, 7, 8] [] [0, 1, 2, 3, 4, 5, 6, 7, 8] rfl (by decide) (wr := []) rfl (by decide) (by decide) (ws' := [(g0, .inr (4, [.ref a1, .ref a2, .ref a3, .ref a4, .ref a5, .int (nI md), .int (nI ht), .ref a6, .int (nI 0), .ref a7, .ref a8, .int (rn + nI 1)])), (a1, .inl (cI, 48, .inl nu)), (a2, .inl (cI, 48, .inl (fun uu => nI (((lm_st nu ho fp ht 50 sl co nt).1) uu)))), (a3, .inl (cI, 48, .inl ((lm_st nu ho fp ht 50 sl co nt).2.1))), (a4, .inl (cZ, 48, .inl (fun uu => lc_bI (((lm_st nu ho fp ht 50 sl co nt).2.2) uu)))), (a5, .inl (cI, 48, .inl ho)), (a6, .inl (cI, 8, .inl fp)), (a7, .inl (cI, 5, .inl wh)), (a8, .inl (cI, 20, .inl he))]) rfl (by decide) rfl hl.1 rfl (Nat.le_of_ble_eq_true rfl) d_M_make_43 (fun H locs hP hD hS => ?_)
            refine zz_oI (fun h43 => ?_) (fun a h43 => ?_)
            · skip
              refine lv_istore_n (lv' := [(2, .int (-1)), (0, .ref g0), (1, .int (nI n))]) hx hb d_M_make_46 rfl hl (by decide) rfl (fun ls hl => ?_)
              refine lv_iload_n hx hb d_M_make_47 rfl (lv_at hl 0 rfl) ?_
              refine lv_if_ge (tgt := 54) hx hb d_M_make_48 (by decide) (fun c48 => ?_) (fun c48 => ?_)
              · skip
                exact absurd c48 (by decide)
              · skip
                refine lv_bipush (v := (-3)) hx hb d_M_make_51 (by decide +kernel) ?_
                refine zz_top (z := (lm_make nu sl co nt ho md ht fp en wh he rn (nI n)).1) (by first | (simp only [lm_make, lm_lay, lm_settle, if_true, if_false, nI_0, *]; done) | (rw [show j = n by omega]; simp only [lm_make, lm_lay, lm_settle, if_true, if_false, nI_0, *]) | simp [lm_make, lm_lay, lm_settle, *]) ?_
                have eW : ([(g0, .inr (4, [.ref a1, .ref a2, .ref a3, .ref a4, .ref a5, .int (nI md), .int (nI ht), .ref a6, .int (nI 0), .ref a7, .ref a8, .int (rn + nI 1)])), (a1, .inl (cI, 48, .inl nu)), (a2, .inl (cI, 48, .inl (fun uu => nI (((lm_st nu ho fp ht 50 sl co nt).1) uu)))), (a3, .inl (cI, 48, .inl ((lm_st nu ho fp ht 50 sl co nt).2.1))), (a4, .inl (cZ, 48, .inl (fun uu => lc_bI (((lm_st nu ho fp ht 50 sl co nt).2.2) uu)))), (a5, .inl (cI, 48, .inl ho)), (a6, .inl (cI, 8, .inl fp)), (a7, .inl (cI, 5, .inl wh)), (a8, .inl (cI, 20, .inl he))] : va_W) = [(g0, .inr (4, [.ref a1, .ref a2, .ref a3, .ref a4, .ref a5, .int (nI (((lm_make nu sl co nt ho md ht fp en wh he rn (nI n)).2).2.2.2.2.2.1)), .int (nI (((lm_make nu sl co nt ho md ht fp en wh he rn (nI n)).2).2.2.2.2.2.2.1)), .ref a6, .int (nI (((lm_make nu sl co nt ho md ht fp en wh he rn (nI n)).2).2.2.2.2.2.2.2.2.1)), .ref a7, .ref a8, .int (((lm_make nu sl co nt ho md ht fp en wh he rn (nI n)).2).2.2.2.2.2.2.2.2.2.2.2)])), (a1, .inl (cI, 48, .inl (((lm_make nu sl co nt ho md ht fp en wh he rn (nI n)).2).1))), (a2, .inl (cI, 48, .inl (fun uu => nI ((((lm_make nu sl co nt ho md ht fp en wh he rn (nI n)).2).2.1) uu)))), (a3, .inl (cI, 48, .inl (((lm_make nu sl co nt ho md ht fp en wh he rn (nI n)).2).2.2.1))), (a4, .inl (cZ, 48, .inl (fun uu => lc_bI ((((lm_make nu sl co nt ho md ht fp en wh he rn (nI n)).2).2.2.2.1) uu)))), (a5, .inl (cI, 48, .inl (((lm_make nu sl co nt ho md ht fp en wh he rn (nI n)).2).2.2.2.2.1))), (a6, .inl (cI, 8, .inl (((lm_make nu sl co nt ho md ht fp en wh he rn (nI n)).2).2.2.2.2.2.2.2.1))), (a7, .inl (cI, 5, .inl (((lm_make nu sl co nt ho md ht fp en wh he rn (nI n)).2).2.2.2.2.2.2.2.2.2.1))), (a8, .inl (cI, 20, .inl (((lm_make nu sl co nt ho md ht fp en wh he rn (nI n)).2).2.2.2.2.2.2.2.2.2.2.1)))] := by first | (simp only [lm_make, lm_lay, lm_settle, if_true, if_false, nI_0, *]; done) | (rw [show j = n by omega]; simp only [lm_make, lm_lay, lm_settle, if_true, if_false, nI_0, *]) | simp [lm_make, lm_lay, lm_settle, *]
                exact hret _ _ _ _ d_M_make_53 (zz_toP eW hP) (zz_toD eW hD) hS
            · skip
              have hrm := lm_room_lt (by omega) hs2 h43
              refine lv_istore_n (lv' := [(2, .int (nI a)), (0, .ref g0), (1, .int (nI n))]) hx hb d_M_make_46 rfl hl (by decide) rfl (fun ls hl => ?_)
              refine lv_iload_n hx hb d_M_make_47 rfl (lv_at hl 0 rfl) ?_
              refine lv_if_ge (tgt := 54) hx hb d_M_make_48 (by decide) (fun c48 => ?_) (fun c48 => ?_)
              · skip
                refine lv_aload_n hx hb d_M_make_54 rfl (lv_at hl 1 rfl) ?_
                refine lv_dup hx hb d_M_make_55 rfl ?_
                refine va_get (D := D) (ci := 4) (v := .int (nI md)) (C := R_M) (T := F_M) (N := 12) hx hb hts i_M hown hK hP 0 rfl rfl 5 (by decide) (hts _ kw_214) (fun _ h9 => h9) rfl d_M_make_56 ?_
                refine lv_iconst (v := nI 1) hx hb d_M_make_59 (by decide +kernel) ?_
                refine zz_iadd hx hb d_M_make_60 ?_
                refine va_put (D := D) (ci := 4) (v := .int (nI (md + 1))) (ty := .int) (C := R_M) (T := F_M) (N := 12) hx hb hts i_M t_M t_M_ok n_M hown hK hP hD hS 0 rfl rfl 5 (by decide) (hts _ kw_214) (fun _ h9 => h9) rfl (by decide +kernel) rfl rfl (Nat.le_of_ble_eq_true rfl) d_M_make_61 (fun H locs hP hD hS => ?_)
                have hP : va_P D classes [(g0, .inr (4, [.ref a1, .ref a2, .ref a3, .ref a4, .ref a5, .int (nI (md + 1)), .int (nI ht), .ref a6, .int (nI 0), .ref a7, .ref a8, .int (rn + nI 1)])), (a1, .inl (cI, 48, .inl nu)), (a2, .inl (cI, 48, .inl (fun uu => nI (((lm_st nu ho fp ht 50 sl co nt).1) uu)))), (a3, .inl (cI, 48, .inl ((lm_st nu ho fp ht 50 sl co nt).2.1))), (a4, .inl (cZ, 48, .inl (fun uu => lc_bI (((lm_st nu ho fp ht 50 sl co nt).2.2) uu)))), (a5, .inl (cI, 48, .inl ho)), (a6, .inl (cI, 8, .inl fp)), (a7, .inl (cI, 5, .inl wh)), (a8, .inl (cI, 20, .inl he))] H := hP
                have hD : va_D A [(g0, .inr (4, [.ref a1, .ref a2, .ref a3, .ref a4, .ref a5, .int (nI (md + 1)), .int (nI ht), .ref a6, .int (nI 0), .ref a7, .ref a8, .int (rn + nI 1)])), (a1, .inl (cI, 48, .inl nu)), (a2, .inl (cI, 48, .inl (fun uu => nI (((lm_st nu ho fp ht 50 sl co nt).1) uu)))), (a3, .inl (cI, 48, .inl ((lm_st nu ho fp ht 50 sl co nt).2.1))), (a4, .inl (cZ, 48, .inl (fun uu => lc_bI (((lm_st nu ho fp ht 50 sl co nt).2.2) uu)))), (a5, .inl (cI, 48, .inl ho)), (a6, .inl (cI, 8, .inl fp)), (a7, .inl (cI, 5, .inl wh)), (a8, .inl (cI, 20, .inl he))] := hD
                refine lv_aload_n hx hb d_M_make_64 rfl (lv_at hl 1 rfl) ?_
                refine va_get (D := D) (ci := 4) (v := .ref a1) (C := R_M) (T := F_M) (N := 12) hx hb hts i_M hown hK hP 0 rfl rfl 0 (by decide) (hts _ kw_174) (fun _ h9 => h9) rfl d_M_make_65 ?_
                refine lv_iload_n hx hb d_M_make_68 rfl (lv_at hl 0 rfl) ?_
                refine lv_aload_n hx hb d_M_make_69 rfl (lv_at hl 1 rfl) ?_
                refine va_get (D := D) (ci := 4) (v := .int (nI (md + 1))) (C := R_M) (T := F_M) (N := 12) hx hb hts i_M hown hK hP 0 rfl rfl 5 (by decide) (hts _ kw_214) (fun _ h9 => h9) rfl d_M_make_70 ?_
                refine zz_iast hx hb hK hP hD hS 1 0 (f := nu) rfl rfl (i := a) (by omega) (by omega) d_M_make_73 (g := upd nu a (nI (md + 1))) rfl (ws' := [(g0, .inr (4, [.ref a1, .ref a2, .ref a3, .ref a4, .ref a5, .int (nI (md + 1)), .int (nI ht), .ref a6, .int (nI 0), .ref a7, .ref a8, .int (rn + nI 1)])), (a1, .inl (cI, 48, .inl (upd nu a (nI (md + 1))))), (a2, .inl (cI, 48, .inl (fun uu => nI (((lm_st nu ho fp ht 50 sl co nt).1) uu)))), (a3, .inl (cI, 48, .inl ((lm_st nu ho fp ht 50 sl co nt).2.1))), (a4, .inl (cZ, 48, .inl (fun uu => lc_bI (((lm_st nu ho fp ht 50 sl co nt).2.2) uu)))), (a5, .inl (cI, 48, .inl ho)), (a6, .inl (cI, 8, .inl fp)), (a7, .inl (cI, 5, .inl wh)), (a8, .inl (cI, 20, .inl he))]) rfl (fun H locs hP hD hS => ?_)
                refine lv_aload_n hx hb d_M_make_74 rfl (lv_at hl 1 rfl) ?_
                refine va_get (D := D) (ci := 4) (v := .ref a2) (C := R_M) (T := F_M) (N := 12) hx hb hts i_M hown hK hP 0 rfl rfl 1 (by decide) (hts _ kw_173) (fun _ h9 => h9) rfl d_M_make_75 ?_
                refine lv_iload_n hx hb d_M_make_78 rfl (lv_at hl 0 rfl) ?_
                refine lv_iload_n hx hb d_M_make_79 rfl (lv_at hl 2 rfl) ?_
                refine zz_iast hx hb hK hP hD hS 2 0 (f := (fun uu => nI (((lm_st nu ho fp ht 50 sl co nt).1) uu))) rfl rfl (i := a) (by omega) (by omega) d_M_make_80 (g := (fun uu => nI ((va_up ((lm_st nu ho fp ht 50 sl co nt).1) a n) uu))) (zz_upN _ _ _) (ws' := [(g0, .inr (4, [.ref a1, .ref a2, .ref a3, .ref a4, .ref a5, .int (nI (md + 1)), .int (nI ht), .ref a6, .int (nI 0), .ref a7, .ref a8, .int (rn + nI 1)])), (a1, .inl (cI, 48, .inl (upd nu a (nI (md + 1))))), (a2, .inl (cI, 48, .inl (fun uu => nI ((va_up ((lm_st nu ho fp ht 50 sl co nt).1) a n) uu)))), (a3, .inl (cI, 48, .inl ((lm_st nu ho fp ht 50 sl co nt).2.1))), (a4, .inl (cZ, 48, .inl (fun uu => lc_bI (((lm_st nu ho fp ht 50 sl co nt).2.2) uu)))), (a5, .inl (cI, 48, .inl ho)), (a6, .inl (cI, 8, .inl fp)), (a7, .inl (cI, 5, .inl wh)), (a8, .inl (cI, 20, .inl he))]) rfl (fun H locs hP hD hS => ?_)
                refine lv_aload_n hx hb d_M_make_81 rfl (lv_at hl 1 rfl) ?_
                refine va_get (D := D) (ci := 4) (v := .ref a3) (C := R_M) (T := F_M) (N := 12) hx hb hts i_M hown hK hP 0 rfl rfl 2 (by decide) (hts _ kw_178) (fun _ h9 => h9) rfl d_M_make_82 ?_
                refine lv_iload_n hx hb d_M_make_85 rfl (lv_at hl 0 rfl) ?_
                refine lv_iconst (v := nI 0) hx hb d_M_make_86 (by decide +kernel) ?_
                refine zz_iast hx hb hK hP hD hS 3 0 (f := ((lm_st nu ho fp ht 50 sl co nt).2.1)) rfl rfl (i := a) (by omega) (by omega) d_M_make_87 (g := upd ((lm_st nu ho fp ht 50 sl co nt).2.1) a (nI 0)) rfl (ws' := [(g0, .inr (4, [.ref a1, .ref a2, .ref a3, .ref a4, .ref a5, .int (nI (md + 1)), .int (nI ht), .ref a6, .int (nI 0), .ref a7, .ref a8, .int (rn + nI 1)])), (a1, .inl (cI, 48, .inl (upd nu a (nI (md + 1))))), (a2, .inl (cI, 48, .inl (fun uu => nI ((va_up ((lm_st nu ho fp ht 50 sl co nt).1) a n) uu)))), (a3, .inl (cI, 48, .inl (upd ((lm_st nu ho fp ht 50 sl co nt).2.1) a (nI 0)))), (a4, .inl (cZ, 48, .inl (fun uu => lc_bI (((lm_st nu ho fp ht 50 sl co nt).2.2) uu)))), (a5, .inl (cI, 48, .inl ho)), (a6, .inl (cI, 8, .inl fp)), (a7, .inl (cI, 5, .inl wh)), (a8, .inl (cI, 20, .inl he))]) rfl (fun H locs hP hD hS => ?_)
                refine lv_aload_n hx hb d_M_make_88 rfl (lv_at hl 1 rfl) ?_
                refine va_get (D := D) (ci := 4) (v := .ref a4) (C := R_M) (T := F_M) (N := 12) hx hb hts i_M hown hK hP 0 rfl rfl 3 (by decide) (hts _ kw_179) (fun _ h9 => h9) rfl d_M_make_89 ?_
                refine lv_iload_n hx hb d_M_make_92 rfl (lv_at hl 0 rfl) ?_
                refine lv_iconst (v := nI 0) hx hb d_M_make_93 (by decide +kernel) ?_
                refine zz_zast hx hb hK hP hD hS 4 1 (f := (fun uu => lc_bI (((lm_st nu ho fp ht 50 sl co nt).2.2) uu))) rfl rfl (i := a) (by omega) (by omega) d_M_make_94 (by decide +kernel) (g := (fun uu => lc_bI ((va_up ((lm_st nu ho fp ht 50 sl co nt).2.2) a false) uu))) (zz_upB ((lm_st nu ho fp ht 50 sl co nt).2.2) a false) (ws' := [(g0, .inr (4, [.ref a1, .ref a2, .ref a3, .ref a4, .ref a5, .int (nI (md + 1)), .int (nI ht), .ref a6, .int (nI 0), .ref a7, .ref a8, .int (rn + nI 1)])), (a1, .inl (cI, 48, .inl (upd nu a (nI (md + 1))))), (a2, .inl (cI, 48, .inl (fun uu => nI ((va_up ((lm_st nu ho fp ht 50 sl co nt).1) a n) uu)))), (a3, .inl (cI, 48, .inl (upd ((lm_st nu ho fp ht 50 sl co nt).2.1) a (nI 0)))), (a4, .inl (cZ, 48, .inl (fun uu => lc_bI ((va_up ((lm_st nu ho fp ht 50 sl co nt).2.2) a false) uu)))), (a5, .inl (cI, 48, .inl ho)), (a6, .inl (cI, 8, .inl fp)), (a7, .inl (cI, 5, .inl wh)), (a8, .inl (cI, 20, .inl he))]) rfl (fun H locs hP hD hS => ?_)
                refine lv_iconst (v := nI 1) hx hb d_M_make_95 (by decide +kernel) ?_
                refine lv_istore_n (lv' := [(3, .int (nI 1)), (2, .int (nI a)), (0, .ref g0), (1, .int (nI n))]) hx hb d_M_make_96 rfl hl (by decide) rfl (fun ls hl => ?_)
                have loop97 : ∀ (fu : Nat) (j : Nat), 48 - j < fu → (hj : j ≤ n) → ∀ (H : Heap) (locs : List Loc), va_P D classes [(g0, .inr (4, [.ref a1, .ref a2, .ref a3, .ref a4, .ref a5, .int (nI (md + 1)), .int (nI ht), .ref a6, .int (nI 0), .ref a7, .ref a8, .int (rn + nI 1)])), (a1, .inl (cI, 48, .inl (upd nu a (nI (md + 1))))), (a2, .inl (cI, 48, .inl (fun uu => nI ((va_up ((lm_st nu ho fp ht 50 sl co nt).1) a n) uu)))), (a3, .inl (cI, 48, .inl (upd ((lm_st nu ho fp ht 50 sl co nt).2.1) a (nI 0)))), (a4, .inl (cZ, 48, .inl (fun uu => lc_bI ((va_up ((lm_st nu ho fp ht 50 sl co nt).2.2) a false) uu)))), (a5, .inl (cI, 48, .inl (lc_fill ho (a + 1) j 0))), (a6, .inl (cI, 8, .inl fp)), (a7, .inl (cI, 5, .inl wh)), (a8, .inl (cI, 20, .inl he))] H → va_D A [(g0, .inr (4, [.ref a1, .ref a2, .ref a3, .ref a4, .ref a5, .int (nI (md + 1)), .int (nI ht), .ref a6, .int (nI 0), .ref a7, .ref a8, .int (rn + nI 1)])), (a1, .inl (cI, 48, .inl (upd nu a (nI (md + 1))))), (a2, .inl (cI, 48, .inl (fun uu => nI ((va_up ((lm_st nu ho fp ht 50 sl co nt).1) a n) uu)))), (a3, .inl (cI, 48, .inl (upd ((lm_st nu ho fp ht 50 sl co nt).2.1) a (nI 0)))), (a4, .inl (cZ, 48, .inl (fun uu => lc_bI ((va_up ((lm_st nu ho fp ht 50 sl co nt).2.2) a false) uu)))), (a5, .inl (cI, 48, .inl (lc_fill ho (a + 1) j 0))), (a6, .inl (cI, 8, .inl fp)), (a7, .inl (cI, 5, .inl wh)), (a8, .inl (cI, 20, .inl he))] → va_S A s.heap H locs → ∀ (ls : Array Slot), lv_has ls 4 [(0, .ref g0), (1, .int (nI n)), (2, .int (nI a)), (3, .int (nI (j + 1)))] → W p l e ({ frames := 3, cells := 0, slots := 0, locals := 66 } : Room) s m args below meth c H locs 0 0 Q (F0 m 97 ls []) := by
                  intro fu
                  induction fu with
                  | zero => intro j hf; omega
                  | succ fu ih97 =>
                    intro j hf hj H locs hP hD hS ls hl
                    refine lv_iload_n hx hb d_M_make_97 rfl (lv_at hl 3 rfl) ?_
                    refine lv_iload_n hx hb d_M_make_98 rfl (lv_at hl 1 rfl) ?_
                    refine zz_icmp_gt (tgt := 117) hx hb (by omega) (by omega) d_M_make_99 (by decide) (fun c99 => ?_) (fun c99 => ?_)
                    · skip
                      refine lv_aload_n hx hb d_M_make_117 rfl (lv_at hl 0 rfl) ?_
                      refine lv_aload_n hx hb d_M_make_118 rfl (lv_at hl 0 rfl) ?_
                      refine va_get (D := D) (ci := 4) (v := .int (nI (md + 1))) (C := R_M) (T := F_M) (N := 12) hx hb hts i_M hown hK hP 0 rfl rfl 5 (by decide) (hts _ kw_214) (fun _ h9 => h9) rfl d_M_make_119 ?_
                      refine zz_callV (np := 1) hx hb hml hown hts hK hP hD hS hA (c_M_push l D cI cZ g0 a1 a2 a3 a4 a5 a6 a7 a8 (upd nu a (nI (md + 1))) (va_up ((lm_st nu ho fp ht 50 sl co nt).1) a n) (upd ((lm_st nu ho fp ht 50 sl co nt).2.1) a (nI 0)) (va_up ((lm_st nu ho fp ht 50 sl co nt).2.2) a false) (lc_fill ho (a + 1) j 0) (md + 1) ht fp 0 wh he (rn + nI 1) (nI (md + 1)) (by omega)) (zz_gv kw_216 kw_217 kw_218 kw_184 kc_215) (by decide +kernel) rfl rfl ⟨Nat.le_of_ble_eq_true rfl, Nat.le_of_ble_eq_true rfl⟩ ⟨Nat.zero_le _, Nat.zero_le _⟩ [0, 1] rfl 0 4 rfl rfl rfl [0, 1, 2, 3, 4, 5, 6, 7, 8] [] [0, 1, 2, 3, 4, 5, 6, 7, 8] rfl (by decide) (wr := []) rfl (by decide) (by decide) (ws' := [(g0, .inr (4, [.ref a1, .ref a2, .ref a3, .ref a4, .ref a5, .int (nI (md + 1)), .int (nI (ht + 1)), .ref a6, .int (nI 0), .ref a7, .ref a8, .int (rn + nI 1)])), (a1, .inl (cI, 48, .inl (upd nu a (nI (md + 1))))), (a2, .inl (cI, 48, .inl (fun uu => nI ((va_up ((lm_st nu ho fp ht 50 sl co nt).1) a n) uu)))), (a3, .inl (cI, 48, .inl (upd ((lm_st nu ho fp ht 50 sl co nt).2.1) a (nI 0)))), (a4, .inl (cZ, 48, .inl (fun uu => lc_bI ((va_up ((lm_st nu ho fp ht 50 sl co nt).2.2) a false) uu)))), (a5, .inl (cI, 48, .inl (lc_fill ho (a + 1) j 0))), (a6, .inl (cI, 8, .inl (upd fp ht (nI (md + 1))))), (a7, .inl (cI, 5, .inl wh)), (a8, .inl (cI, 20, .inl he))]) rfl (by decide) rfl hl.1 rfl (Nat.le_of_ble_eq_true rfl) d_M_make_122 (fun H locs hP hD hS => ?_)
                      refine lv_aload_n hx hb d_M_make_125 rfl (lv_at hl 0 rfl) ?_
                      refine va_get (D := D) (ci := 4) (v := .int (nI (md + 1))) (C := R_M) (T := F_M) (N := 12) hx hb hts i_M hown hK hP 0 rfl rfl 5 (by decide) (hts _ kw_214) (fun _ h9 => h9) rfl d_M_make_126 ?_
                      refine zz_top (z := (lm_make nu sl co nt ho md ht fp en wh he rn (nI n)).1) (by first | (simp only [lm_make, lm_lay, lm_settle, if_true, if_false, nI_0, *]; done) | (rw [show j = n by omega]; simp only [lm_make, lm_lay, lm_settle, if_true, if_false, nI_0, *]) | simp [lm_make, lm_lay, lm_settle, *]) ?_
                      have eW : ([(g0, .inr (4, [.ref a1, .ref a2, .ref a3, .ref a4, .ref a5, .int (nI (md + 1)), .int (nI (ht + 1)), .ref a6, .int (nI 0), .ref a7, .ref a8, .int (rn + nI 1)])), (a1, .inl (cI, 48, .inl (upd nu a (nI (md + 1))))), (a2, .inl (cI, 48, .inl (fun uu => nI ((va_up ((lm_st nu ho fp ht 50 sl co nt).1) a n) uu)))), (a3, .inl (cI, 48, .inl (upd ((lm_st nu ho fp ht 50 sl co nt).2.1) a (nI 0)))), (a4, .inl (cZ, 48, .inl (fun uu => lc_bI ((va_up ((lm_st nu ho fp ht 50 sl co nt).2.2) a false) uu)))), (a5, .inl (cI, 48, .inl (lc_fill ho (a + 1) j 0))), (a6, .inl (cI, 8, .inl (upd fp ht (nI (md + 1))))), (a7, .inl (cI, 5, .inl wh)), (a8, .inl (cI, 20, .inl he))] : va_W) = [(g0, .inr (4, [.ref a1, .ref a2, .ref a3, .ref a4, .ref a5, .int (nI (((lm_make nu sl co nt ho md ht fp en wh he rn (nI n)).2).2.2.2.2.2.1)), .int (nI (((lm_make nu sl co nt ho md ht fp en wh he rn (nI n)).2).2.2.2.2.2.2.1)), .ref a6, .int (nI (((lm_make nu sl co nt ho md ht fp en wh he rn (nI n)).2).2.2.2.2.2.2.2.2.1)), .ref a7, .ref a8, .int (((lm_make nu sl co nt ho md ht fp en wh he rn (nI n)).2).2.2.2.2.2.2.2.2.2.2.2)])), (a1, .inl (cI, 48, .inl (((lm_make nu sl co nt ho md ht fp en wh he rn (nI n)).2).1))), (a2, .inl (cI, 48, .inl (fun uu => nI ((((lm_make nu sl co nt ho md ht fp en wh he rn (nI n)).2).2.1) uu)))), (a3, .inl (cI, 48, .inl (((lm_make nu sl co nt ho md ht fp en wh he rn (nI n)).2).2.2.1))), (a4, .inl (cZ, 48, .inl (fun uu => lc_bI ((((lm_make nu sl co nt ho md ht fp en wh he rn (nI n)).2).2.2.2.1) uu)))), (a5, .inl (cI, 48, .inl (((lm_make nu sl co nt ho md ht fp en wh he rn (nI n)).2).2.2.2.2.1))), (a6, .inl (cI, 8, .inl (((lm_make nu sl co nt ho md ht fp en wh he rn (nI n)).2).2.2.2.2.2.2.2.1))), (a7, .inl (cI, 5, .inl (((lm_make nu sl co nt ho md ht fp en wh he rn (nI n)).2).2.2.2.2.2.2.2.2.2.1))), (a8, .inl (cI, 20, .inl (((lm_make nu sl co nt ho md ht fp en wh he rn (nI n)).2).2.2.2.2.2.2.2.2.2.2.1)))] := by first | (simp only [lm_make, lm_lay, lm_settle, if_true, if_false, nI_0, *]; done) | (rw [show j = n by omega]; simp only [lm_make, lm_lay, lm_settle, if_true, if_false, nI_0, *]) | simp [lm_make, lm_lay, lm_settle, *]
                      exact hret _ _ _ _ d_M_make_129 (zz_toP eW hP) (zz_toD eW hD) hS
                    · skip
                      refine lv_aload_n hx hb d_M_make_102 rfl (lv_at hl 0 rfl) ?_
                      refine va_get (D := D) (ci := 4) (v := .ref a5) (C := R_M) (T := F_M) (N := 12) hx hb hts i_M hown hK hP 0 rfl rfl 4 (by decide) (hts _ kw_175) (fun _ h9 => h9) rfl d_M_make_103 ?_
                      refine lv_iload_n hx hb d_M_make_106 rfl (lv_at hl 2 rfl) ?_
                      refine lv_iload_n hx hb d_M_make_107 rfl (lv_at hl 3 rfl) ?_
                      refine zz_iadd hx hb d_M_make_108 ?_
                      refine lv_iconst (v := nI 0) hx hb d_M_make_109 (by decide +kernel) ?_
                      refine zz_iast hx hb hK hP hD hS 5 0 (f := lc_fill ho (a + 1) j 0) rfl rfl (i := a + (j + 1)) (by omega) (by omega) d_M_make_110 (g := lc_fill ho (a + 1) (j + 1) 0) (by rw [nI_0, show a + (j + 1) = a + 1 + j by omega]; exact lc_fill_s _ _ _ _) (ws' := [(g0, .inr (4, [.ref a1, .ref a2, .ref a3, .ref a4, .ref a5, .int (nI (md + 1)), .int (nI ht), .ref a6, .int (nI 0), .ref a7, .ref a8, .int (rn + nI 1)])), (a1, .inl (cI, 48, .inl (upd nu a (nI (md + 1))))), (a2, .inl (cI, 48, .inl (fun uu => nI ((va_up ((lm_st nu ho fp ht 50 sl co nt).1) a n) uu)))), (a3, .inl (cI, 48, .inl (upd ((lm_st nu ho fp ht 50 sl co nt).2.1) a (nI 0)))), (a4, .inl (cZ, 48, .inl (fun uu => lc_bI ((va_up ((lm_st nu ho fp ht 50 sl co nt).2.2) a false) uu)))), (a5, .inl (cI, 48, .inl (lc_fill ho (a + 1) (j + 1) 0))), (a6, .inl (cI, 8, .inl fp)), (a7, .inl (cI, 5, .inl wh)), (a8, .inl (cI, 20, .inl he))]) rfl (fun H locs hP hD hS => ?_)
                      refine lv_iinc (v := nI ((j + 1) + 1)) (lv' := [(3, .int (nI ((j + 1) + 1))), (0, .ref g0), (1, .int (nI n)), (2, .int (nI a))]) hx hb d_M_make_111 hl (k := 3) rfl (nI_1 _) (by decide) rfl (fun ls hl => ?_)
                      refine lv_goto (tgt := 97) hx hb d_M_make_114 (by decide) ?_
                      exact ih97 (j + 1) (by omega) (by omega) _ _ hP hD hS _ (lv_sub hl [1, 2, 3, 0] rfl)
                have eL1 : 1 = 0 + 1 := by omega
                have eW2 : ([(g0, .inr (4, [.ref a1, .ref a2, .ref a3, .ref a4, .ref a5, .int (nI (md + 1)), .int (nI ht), .ref a6, .int (nI 0), .ref a7, .ref a8, .int (rn + nI 1)])), (a1, .inl (cI, 48, .inl (upd nu a (nI (md + 1))))), (a2, .inl (cI, 48, .inl (fun uu => nI ((va_up ((lm_st nu ho fp ht 50 sl co nt).1) a n) uu)))), (a3, .inl (cI, 48, .inl (upd ((lm_st nu ho fp ht 50 sl co nt).2.1) a (nI 0)))), (a4, .inl (cZ, 48, .inl (fun uu => lc_bI ((va_up ((lm_st nu ho fp ht 50 sl co nt).2.2) a false) uu)))), (a5, .inl (cI, 48, .inl ho)), (a6, .inl (cI, 8, .inl fp)), (a7, .inl (cI, 5, .inl wh)), (a8, .inl (cI, 20, .inl he))] : va_W) = [(g0, .inr (4, [.ref a1, .ref a2, .ref a3, .ref a4, .ref a5, .int (nI (md + 1)), .int (nI ht), .ref a6, .int (nI 0), .ref a7, .ref a8, .int (rn + nI 1)])), (a1, .inl (cI, 48, .inl (upd nu a (nI (md + 1))))), (a2, .inl (cI, 48, .inl (fun uu => nI ((va_up ((lm_st nu ho fp ht 50 sl co nt).1) a n) uu)))), (a3, .inl (cI, 48, .inl (upd ((lm_st nu ho fp ht 50 sl co nt).2.1) a (nI 0)))), (a4, .inl (cZ, 48, .inl (fun uu => lc_bI ((va_up ((lm_st nu ho fp ht 50 sl co nt).2.2) a false) uu)))), (a5, .inl (cI, 48, .inl (lc_fill ho (a + 1) 0 0))), (a6, .inl (cI, 8, .inl fp)), (a7, .inl (cI, 5, .inl wh)), (a8, .inl (cI, 20, .inl he))] := by simp only [lc_fill_0]
                have hP := zz_toP eW2 hP
                have hD := zz_toD eW2 hD
                exact loop97 49 0 (by omega) (by omega) _ _ hP hD hS _ (zz_hlc (lv_sub (l' := [(0, .ref g0), (1, .int (nI n)), (2, .int (nI a)), (3, .int (nI 1))]) hl [2, 3, 1, 0] rfl) (zz_c1 rfl (zz_c1 rfl (zz_c1 rfl (zz_c1 (congrArg (fun v => ((3 : Nat), Value.int (nI v))) eL1) rfl)))))
              · skip
                exact absurd (nI_pos' (by omega)) c48
        · skip
          have hrm := lm_room_lt (by omega) hs h27
          refine lv_istore_n (lv' := [(2, .int (nI a)), (0, .ref g0), (1, .int (nI n))]) hx hb d_M_make_30 rfl hl (by decide) rfl (fun ls hl => ?_)
          refine lv_iload_n hx hb d_M_make_31 rfl (lv_at hl 0 rfl) ?_
          refine lv_if_ge (tgt := 47) hx hb d_M_make_32 (by decide) (fun c32 => ?_) (fun c32 => ?_)
          · skip
            refine lv_iload_n hx hb d_M_make_47 rfl (lv_at hl 0 rfl) ?_
            refine lv_if_ge (tgt := 54) hx hb d_M_make_48 (by decide) (fun c48 => ?_) (fun c48 => ?_)
            · skip
              refine lv_aload_n hx hb d_M_make_54 rfl (lv_at hl 1 rfl) ?_
              refine lv_dup hx hb d_M_make_55 rfl ?_
              refine va_get (D := D) (ci := 4) (v := .int (nI md)) (C := R_M) (T := F_M) (N := 12) hx hb hts i_M hown hK hP 0 rfl rfl 5 (by decide) (hts _ kw_214) (fun _ h9 => h9) rfl d_M_make_56 ?_
              refine lv_iconst (v := nI 1) hx hb d_M_make_59 (by decide +kernel) ?_
              refine zz_iadd hx hb d_M_make_60 ?_
              refine va_put (D := D) (ci := 4) (v := .int (nI (md + 1))) (ty := .int) (C := R_M) (T := F_M) (N := 12) hx hb hts i_M t_M t_M_ok n_M hown hK hP hD hS 0 rfl rfl 5 (by decide) (hts _ kw_214) (fun _ h9 => h9) rfl (by decide +kernel) rfl rfl (Nat.le_of_ble_eq_true rfl) d_M_make_61 (fun H locs hP hD hS => ?_)
              have hP : va_P D classes [(g0, .inr (4, [.ref a1, .ref a2, .ref a3, .ref a4, .ref a5, .int (nI (md + 1)), .int (nI ht), .ref a6, .int (nI en), .ref a7, .ref a8, .int rn])), (a1, .inl (cI, 48, .inl nu)), (a2, .inl (cI, 48, .inl (fun uu => nI (sl uu)))), (a3, .inl (cI, 48, .inl co)), (a4, .inl (cZ, 48, .inl (fun uu => lc_bI (nt uu)))), (a5, .inl (cI, 48, .inl ho)), (a6, .inl (cI, 8, .inl fp)), (a7, .inl (cI, 5, .inl wh)), (a8, .inl (cI, 20, .inl he))] H := hP
              have hD : va_D A [(g0, .inr (4, [.ref a1, .ref a2, .ref a3, .ref a4, .ref a5, .int (nI (md + 1)), .int (nI ht), .ref a6, .int (nI en), .ref a7, .ref a8, .int rn])), (a1, .inl (cI, 48, .inl nu)), (a2, .inl (cI, 48, .inl (fun uu => nI (sl uu)))), (a3, .inl (cI, 48, .inl co)), (a4, .inl (cZ, 48, .inl (fun uu => lc_bI (nt uu)))), (a5, .inl (cI, 48, .inl ho)), (a6, .inl (cI, 8, .inl fp)), (a7, .inl (cI, 5, .inl wh)), (a8, .inl (cI, 20, .inl he))] := hD
              refine lv_aload_n hx hb d_M_make_64 rfl (lv_at hl 1 rfl) ?_
              refine va_get (D := D) (ci := 4) (v := .ref a1) (C := R_M) (T := F_M) (N := 12) hx hb hts i_M hown hK hP 0 rfl rfl 0 (by decide) (hts _ kw_174) (fun _ h9 => h9) rfl d_M_make_65 ?_
              refine lv_iload_n hx hb d_M_make_68 rfl (lv_at hl 0 rfl) ?_
              refine lv_aload_n hx hb d_M_make_69 rfl (lv_at hl 1 rfl) ?_
              refine va_get (D := D) (ci := 4) (v := .int (nI (md + 1))) (C := R_M) (T := F_M) (N := 12) hx hb hts i_M hown hK hP 0 rfl rfl 5 (by decide) (hts _ kw_214) (fun _ h9 => h9) rfl d_M_make_70 ?_
              refine zz_iast hx hb hK hP hD hS 1 0 (f := nu) rfl rfl (i := a) (by omega) (by omega) d_M_make_73 (g := upd nu a (nI (md + 1))) rfl (ws' := [(g0, .inr (4, [.ref a1, .ref a2, .ref a3, .ref a4, .ref a5, .int (nI (md + 1)), .int (nI ht), .ref a6, .int (nI en), .ref a7, .ref a8, .int rn])), (a1, .inl (cI, 48, .inl (upd nu a (nI (md + 1))))), (a2, .inl (cI, 48, .inl (fun uu => nI (sl uu)))), (a3, .inl (cI, 48, .inl co)), (a4, .inl (cZ, 48, .inl (fun uu => lc_bI (nt uu)))), (a5, .inl (cI, 48, .inl ho)), (a6, .inl (cI, 8, .inl fp)), (a7, .inl (cI, 5, .inl wh)), (a8, .inl (cI, 20, .inl he))]) rfl (fun H locs hP hD hS => ?_)
              refine lv_aload_n hx hb d_M_make_74 rfl (lv_at hl 1 rfl) ?_
              refine va_get (D := D) (ci := 4) (v := .ref a2) (C := R_M) (T := F_M) (N := 12) hx hb hts i_M hown hK hP 0 rfl rfl 1 (by decide) (hts _ kw_173) (fun _ h9 => h9) rfl d_M_make_75 ?_
              refine lv_iload_n hx hb d_M_make_78 rfl (lv_at hl 0 rfl) ?_
              refine lv_iload_n hx hb d_M_make_79 rfl (lv_at hl 2 rfl) ?_
              refine zz_iast hx hb hK hP hD hS 2 0 (f := (fun uu => nI (sl uu))) rfl rfl (i := a) (by omega) (by omega) d_M_make_80 (g := (fun uu => nI ((va_up sl a n) uu))) (zz_upN _ _ _) (ws' := [(g0, .inr (4, [.ref a1, .ref a2, .ref a3, .ref a4, .ref a5, .int (nI (md + 1)), .int (nI ht), .ref a6, .int (nI en), .ref a7, .ref a8, .int rn])), (a1, .inl (cI, 48, .inl (upd nu a (nI (md + 1))))), (a2, .inl (cI, 48, .inl (fun uu => nI ((va_up sl a n) uu)))), (a3, .inl (cI, 48, .inl co)), (a4, .inl (cZ, 48, .inl (fun uu => lc_bI (nt uu)))), (a5, .inl (cI, 48, .inl ho)), (a6, .inl (cI, 8, .inl fp)), (a7, .inl (cI, 5, .inl wh)), (a8, .inl (cI, 20, .inl he))]) rfl (fun H locs hP hD hS => ?_)
              refine lv_aload_n hx hb d_M_make_81 rfl (lv_at hl 1 rfl) ?_
              refine va_get (D := D) (ci := 4) (v := .ref a3) (C := R_M) (T := F_M) (N := 12) hx hb hts i_M hown hK hP 0 rfl rfl 2 (by decide) (hts _ kw_178) (fun _ h9 => h9) rfl d_M_make_82 ?_
              refine lv_iload_n hx hb d_M_make_85 rfl (lv_at hl 0 rfl) ?_
              refine lv_iconst (v := nI 0) hx hb d_M_make_86 (by decide +kernel) ?_
              refine zz_iast hx hb hK hP hD hS 3 0 (f := co) rfl rfl (i := a) (by omega) (by omega) d_M_make_87 (g := upd co a (nI 0)) rfl (ws' := [(g0, .inr (4, [.ref a1, .ref a2, .ref a3, .ref a4, .ref a5, .int (nI (md + 1)), .int (nI ht), .ref a6, .int (nI en), .ref a7, .ref a8, .int rn])), (a1, .inl (cI, 48, .inl (upd nu a (nI (md + 1))))), (a2, .inl (cI, 48, .inl (fun uu => nI ((va_up sl a n) uu)))), (a3, .inl (cI, 48, .inl (upd co a (nI 0)))), (a4, .inl (cZ, 48, .inl (fun uu => lc_bI (nt uu)))), (a5, .inl (cI, 48, .inl ho)), (a6, .inl (cI, 8, .inl fp)), (a7, .inl (cI, 5, .inl wh)), (a8, .inl (cI, 20, .inl he))]) rfl (fun H locs hP hD hS => ?_)
              refine lv_aload_n hx hb d_M_make_88 rfl (lv_at hl 1 rfl) ?_
              refine va_get (D := D) (ci := 4) (v := .ref a4) (C := R_M) (T := F_M) (N := 12) hx hb hts i_M hown hK hP 0 rfl rfl 3 (by decide) (hts _ kw_179) (fun _ h9 => h9) rfl d_M_make_89 ?_
              refine lv_iload_n hx hb d_M_make_92 rfl (lv_at hl 0 rfl) ?_
              refine lv_iconst (v := nI 0) hx hb d_M_make_93 (by decide +kernel) ?_
              refine zz_zast hx hb hK hP hD hS 4 1 (f := (fun uu => lc_bI (nt uu))) rfl rfl (i := a) (by omega) (by omega) d_M_make_94 (by decide +kernel) (g := (fun uu => lc_bI ((va_up nt a false) uu))) (zz_upB nt a false) (ws' := [(g0, .inr (4, [.ref a1, .ref a2, .ref a3, .ref a4, .ref a5, .int (nI (md + 1)), .int (nI ht), .ref a6, .int (nI en), .ref a7, .ref a8, .int rn])), (a1, .inl (cI, 48, .inl (upd nu a (nI (md + 1))))), (a2, .inl (cI, 48, .inl (fun uu => nI ((va_up sl a n) uu)))), (a3, .inl (cI, 48, .inl (upd co a (nI 0)))), (a4, .inl (cZ, 48, .inl (fun uu => lc_bI ((va_up nt a false) uu)))), (a5, .inl (cI, 48, .inl ho)), (a6, .inl (cI, 8, .inl fp)), (a7, .inl (cI, 5, .inl wh)), (a8, .inl (cI, 20, .inl he))]) rfl (fun H locs hP hD hS => ?_)
              refine lv_iconst (v := nI 1) hx hb d_M_make_95 (by decide +kernel) ?_
              refine lv_istore_n (lv' := [(3, .int (nI 1)), (2, .int (nI a)), (0, .ref g0), (1, .int (nI n))]) hx hb d_M_make_96 rfl hl (by decide) rfl (fun ls hl => ?_)
              have loop97 : ∀ (fu : Nat) (j : Nat), 48 - j < fu → (hj : j ≤ n) → ∀ (H : Heap) (locs : List Loc), va_P D classes [(g0, .inr (4, [.ref a1, .ref a2, .ref a3, .ref a4, .ref a5, .int (nI (md + 1)), .int (nI ht), .ref a6, .int (nI en), .ref a7, .ref a8, .int rn])), (a1, .inl (cI, 48, .inl (upd nu a (nI (md + 1))))), (a2, .inl (cI, 48, .inl (fun uu => nI ((va_up sl a n) uu)))), (a3, .inl (cI, 48, .inl (upd co a (nI 0)))), (a4, .inl (cZ, 48, .inl (fun uu => lc_bI ((va_up nt a false) uu)))), (a5, .inl (cI, 48, .inl (lc_fill ho (a + 1) j 0))), (a6, .inl (cI, 8, .inl fp)), (a7, .inl (cI, 5, .inl wh)), (a8, .inl (cI, 20, .inl he))] H → va_D A [(g0, .inr (4, [.ref a1, .ref a2, .ref a3, .ref a4, .ref a5, .int (nI (md + 1)), .int (nI ht), .ref a6, .int (nI en), .ref a7, .ref a8, .int rn])), (a1, .inl (cI, 48, .inl (upd nu a (nI (md + 1))))), (a2, .inl (cI, 48, .inl (fun uu => nI ((va_up sl a n) uu)))), (a3, .inl (cI, 48, .inl (upd co a (nI 0)))), (a4, .inl (cZ, 48, .inl (fun uu => lc_bI ((va_up nt a false) uu)))), (a5, .inl (cI, 48, .inl (lc_fill ho (a + 1) j 0))), (a6, .inl (cI, 8, .inl fp)), (a7, .inl (cI, 5, .inl wh)), (a8, .inl (cI, 20, .inl he))] → va_S A s.heap H locs → ∀ (ls : Array Slot), lv_has ls 4 [(0, .ref g0), (1, .int (nI n)), (2, .int (nI a)), (3, .int (nI (j + 1)))] → W p l e ({ frames := 3, cells := 0, slots := 0, locals := 66 } : Room) s m args below meth c H locs 0 0 Q (F0 m 97 ls []) := by
                intro fu
                induction fu with
                | zero => intro j hf; omega
                | succ fu ih97 =>
                  intro j hf hj H locs hP hD hS ls hl
                  refine lv_iload_n hx hb d_M_make_97 rfl (lv_at hl 3 rfl) ?_
                  refine lv_iload_n hx hb d_M_make_98 rfl (lv_at hl 1 rfl) ?_
                  refine zz_icmp_gt (tgt := 117) hx hb (by omega) (by omega) d_M_make_99 (by decide) (fun c99 => ?_) (fun c99 => ?_)
                  · skip
                    refine lv_aload_n hx hb d_M_make_117 rfl (lv_at hl 0 rfl) ?_
                    refine lv_aload_n hx hb d_M_make_118 rfl (lv_at hl 0 rfl) ?_
                    refine va_get (D := D) (ci := 4) (v := .int (nI (md + 1))) (C := R_M) (T := F_M) (N := 12) hx hb hts i_M hown hK hP 0 rfl rfl 5 (by decide) (hts _ kw_214) (fun _ h9 => h9) rfl d_M_make_119 ?_
                    refine zz_callV (np := 1) hx hb hml hown hts hK hP hD hS hA (c_M_push l D cI cZ g0 a1 a2 a3 a4 a5 a6 a7 a8 (upd nu a (nI (md + 1))) (va_up sl a n) (upd co a (nI 0)) (va_up nt a false) (lc_fill ho (a + 1) j 0) (md + 1) ht fp en wh he rn (nI (md + 1)) (by omega)) (zz_gv kw_216 kw_217 kw_218 kw_184 kc_215) (by decide +kernel) rfl rfl ⟨Nat.le_of_ble_eq_true rfl, Nat.le_of_ble_eq_true rfl⟩ ⟨Nat.zero_le _, Nat.zero_le _⟩ [0, 1] rfl 0 4 rfl rfl rfl [0, 1, 2, 3, 4, 5, 6, 7, 8] [] [0, 1, 2, 3, 4, 5, 6, 7, 8] rfl (by decide) (wr := []) rfl (by decide) (by decide) (ws' := [(g0, .inr (4, [.ref a1, .ref a2, .ref a3, .ref a4, .ref a5, .int (nI (md + 1)), .int (nI (ht + 1)), .ref a6, .int (nI en), .ref a7, .ref a8, .int rn])), (a1, .inl (cI, 48, .inl (upd nu a (nI (md + 1))))), (a2, .inl (cI, 48, .inl (fun uu => nI ((va_up sl a n) uu)))), (a3, .inl (cI, 48, .inl (upd co a (nI 0)))), (a4, .inl (cZ, 48, .inl (fun uu => lc_bI ((va_up nt a false) uu)))), (a5, .inl (cI, 48, .inl (lc_fill ho (a + 1) j 0))), (a6, .inl (cI, 8, .inl (upd fp ht (nI (md + 1))))), (a7, .inl (cI, 5, .inl wh)), (a8, .inl (cI, 20, .inl he))]) rfl (by decide) rfl hl.1 rfl (Nat.le_of_ble_eq_true rfl) d_M_make_122 (fun H locs hP hD hS => ?_)
                    refine lv_aload_n hx hb d_M_make_125 rfl (lv_at hl 0 rfl) ?_
                    refine va_get (D := D) (ci := 4) (v := .int (nI (md + 1))) (C := R_M) (T := F_M) (N := 12) hx hb hts i_M hown hK hP 0 rfl rfl 5 (by decide) (hts _ kw_214) (fun _ h9 => h9) rfl d_M_make_126 ?_
                    refine zz_top (z := (lm_make nu sl co nt ho md ht fp en wh he rn (nI n)).1) (by first | (simp only [lm_make, lm_lay, lm_settle, if_true, if_false, nI_0, *]; done) | (rw [show j = n by omega]; simp only [lm_make, lm_lay, lm_settle, if_true, if_false, nI_0, *]) | simp [lm_make, lm_lay, lm_settle, *]) ?_
                    have eW : ([(g0, .inr (4, [.ref a1, .ref a2, .ref a3, .ref a4, .ref a5, .int (nI (md + 1)), .int (nI (ht + 1)), .ref a6, .int (nI en), .ref a7, .ref a8, .int rn])), (a1, .inl (cI, 48, .inl (upd nu a (nI (md + 1))))), (a2, .inl (cI, 48, .inl (fun uu => nI ((va_up sl a n) uu)))), (a3, .inl (cI, 48, .inl (upd co a (nI 0)))), (a4, .inl (cZ, 48, .inl (fun uu => lc_bI ((va_up nt a false) uu)))), (a5, .inl (cI, 48, .inl (lc_fill ho (a + 1) j 0))), (a6, .inl (cI, 8, .inl (upd fp ht (nI (md + 1))))), (a7, .inl (cI, 5, .inl wh)), (a8, .inl (cI, 20, .inl he))] : va_W) = [(g0, .inr (4, [.ref a1, .ref a2, .ref a3, .ref a4, .ref a5, .int (nI (((lm_make nu sl co nt ho md ht fp en wh he rn (nI n)).2).2.2.2.2.2.1)), .int (nI (((lm_make nu sl co nt ho md ht fp en wh he rn (nI n)).2).2.2.2.2.2.2.1)), .ref a6, .int (nI (((lm_make nu sl co nt ho md ht fp en wh he rn (nI n)).2).2.2.2.2.2.2.2.2.1)), .ref a7, .ref a8, .int (((lm_make nu sl co nt ho md ht fp en wh he rn (nI n)).2).2.2.2.2.2.2.2.2.2.2.2)])), (a1, .inl (cI, 48, .inl (((lm_make nu sl co nt ho md ht fp en wh he rn (nI n)).2).1))), (a2, .inl (cI, 48, .inl (fun uu => nI ((((lm_make nu sl co nt ho md ht fp en wh he rn (nI n)).2).2.1) uu)))), (a3, .inl (cI, 48, .inl (((lm_make nu sl co nt ho md ht fp en wh he rn (nI n)).2).2.2.1))), (a4, .inl (cZ, 48, .inl (fun uu => lc_bI ((((lm_make nu sl co nt ho md ht fp en wh he rn (nI n)).2).2.2.2.1) uu)))), (a5, .inl (cI, 48, .inl (((lm_make nu sl co nt ho md ht fp en wh he rn (nI n)).2).2.2.2.2.1))), (a6, .inl (cI, 8, .inl (((lm_make nu sl co nt ho md ht fp en wh he rn (nI n)).2).2.2.2.2.2.2.2.1))), (a7, .inl (cI, 5, .inl (((lm_make nu sl co nt ho md ht fp en wh he rn (nI n)).2).2.2.2.2.2.2.2.2.2.1))), (a8, .inl (cI, 20, .inl (((lm_make nu sl co nt ho md ht fp en wh he rn (nI n)).2).2.2.2.2.2.2.2.2.2.2.1)))] := by first | (simp only [lm_make, lm_lay, lm_settle, if_true, if_false, nI_0, *]; done) | (rw [show j = n by omega]; simp only [lm_make, lm_lay, lm_settle, if_true, if_false, nI_0, *]) | simp [lm_make, lm_lay, lm_settle, *]
                    exact hret _ _ _ _ d_M_make_129 (zz_toP eW hP) (zz_toD eW hD) hS
                  · skip
                    refine lv_aload_n hx hb d_M_make_102 rfl (lv_at hl 0 rfl) ?_
                    refine va_get (D := D) (ci := 4) (v := .ref a5) (C := R_M) (T := F_M) (N := 12) hx hb hts i_M hown hK hP 0 rfl rfl 4 (by decide) (hts _ kw_175) (fun _ h9 => h9) rfl d_M_make_103 ?_
                    refine lv_iload_n hx hb d_M_make_106 rfl (lv_at hl 2 rfl) ?_
                    refine lv_iload_n hx hb d_M_make_107 rfl (lv_at hl 3 rfl) ?_
                    refine zz_iadd hx hb d_M_make_108 ?_
                    refine lv_iconst (v := nI 0) hx hb d_M_make_109 (by decide +kernel) ?_
                    refine zz_iast hx hb hK hP hD hS 5 0 (f := lc_fill ho (a + 1) j 0) rfl rfl (i := a + (j + 1)) (by omega) (by omega) d_M_make_110 (g := lc_fill ho (a + 1) (j + 1) 0) (by rw [nI_0, show a + (j + 1) = a + 1 + j by omega]; exact lc_fill_s _ _ _ _) (ws' := [(g0, .inr (4, [.ref a1, .ref a2, .ref a3, .ref a4, .ref a5, .int (nI (md + 1)), .int (nI ht), .ref a6, .int (nI en), .ref a7, .ref a8, .int rn])), (a1, .inl (cI, 48, .inl (upd nu a (nI (md + 1))))), (a2, .inl (cI, 48, .inl (fun uu => nI ((va_up sl a n) uu)))), (a3, .inl (cI, 48, .inl (upd co a (nI 0)))), (a4, .inl (cZ, 48, .inl (fun uu => lc_bI ((va_up nt a false) uu)))), (a5, .inl (cI, 48, .inl (lc_fill ho (a + 1) (j + 1) 0))), (a6, .inl (cI, 8, .inl fp)), (a7, .inl (cI, 5, .inl wh)), (a8, .inl (cI, 20, .inl he))]) rfl (fun H locs hP hD hS => ?_)
                    refine lv_iinc (v := nI ((j + 1) + 1)) (lv' := [(3, .int (nI ((j + 1) + 1))), (0, .ref g0), (1, .int (nI n)), (2, .int (nI a))]) hx hb d_M_make_111 hl (k := 3) rfl (nI_1 _) (by decide) rfl (fun ls hl => ?_)
                    refine lv_goto (tgt := 97) hx hb d_M_make_114 (by decide) ?_
                    exact ih97 (j + 1) (by omega) (by omega) _ _ hP hD hS _ (lv_sub hl [1, 2, 3, 0] rfl)
              have eL3 : 1 = 0 + 1 := by omega
              have eW4 : ([(g0, .inr (4, [.ref a1, .ref a2, .ref a3, .ref a4, .ref a5, .int (nI (md + 1)), .int (nI ht), .ref a6, .int (nI en), .ref a7, .ref a8, .int rn])), (a1, .inl (cI, 48, .inl (upd nu a (nI (md + 1))))), (a2, .inl (cI, 48, .inl (fun uu => nI ((va_up sl a n) uu)))), (a3, .inl (cI, 48, .inl (upd co a (nI 0)))), (a4, .inl (cZ, 48, .inl (fun uu => lc_bI ((va_up nt a false) uu)))), (a5, .inl (cI, 48, .inl ho)), (a6, .inl (cI, 8, .inl fp)), (a7, .inl (cI, 5, .inl wh)), (a8, .inl (cI, 20, .inl he))] : va_W) = [(g0, .inr (4, [.ref a1, .ref a2, .ref a3, .ref a4, .ref a5, .int (nI (md + 1)), .int (nI ht), .ref a6, .int (nI en), .ref a7, .ref a8, .int rn])), (a1, .inl (cI, 48, .inl (upd nu a (nI (md + 1))))), (a2, .inl (cI, 48, .inl (fun uu => nI ((va_up sl a n) uu)))), (a3, .inl (cI, 48, .inl (upd co a (nI 0)))), (a4, .inl (cZ, 48, .inl (fun uu => lc_bI ((va_up nt a false) uu)))), (a5, .inl (cI, 48, .inl (lc_fill ho (a + 1) 0 0))), (a6, .inl (cI, 8, .inl fp)), (a7, .inl (cI, 5, .inl wh)), (a8, .inl (cI, 20, .inl he))] := by simp only [lc_fill_0]
              have hP := zz_toP eW4 hP
              have hD := zz_toD eW4 hD
              exact loop97 49 0 (by omega) (by omega) _ _ hP hD hS _ (zz_hlc (lv_sub (l' := [(0, .ref g0), (1, .int (nI n)), (2, .int (nI a)), (3, .int (nI 1))]) hl [2, 3, 1, 0] rfl) (zz_c1 rfl (zz_c1 rfl (zz_c1 rfl (zz_c1 (congrArg (fun v => ((3 : Nat), Value.int (nI v))) eL3) rfl)))))
            · skip
              exact absurd (nI_pos' (by omega)) c48
          · skip
            exact absurd (nI_pos' (by omega)) c32
      · skip
        refine lv_bipush (v := (-2)) hx hb d_M_make_20 (by decide +kernel) ?_
        refine zz_top (z := (lm_make nu sl co nt ho md ht fp en wh he rn (nI n)).1) (by first | (simp only [lm_make, lm_lay, lm_settle, if_true, if_false, nI_0, *]; done) | (rw [show j = n by omega]; simp only [lm_make, lm_lay, lm_settle, if_true, if_false, nI_0, *]) | simp [lm_make, lm_lay, lm_settle, *]) ?_
        have eW : ([(g0, .inr (4, [.ref a1, .ref a2, .ref a3, .ref a4, .ref a5, .int (nI md), .int (nI ht), .ref a6, .int (nI en), .ref a7, .ref a8, .int rn])), (a1, .inl (cI, 48, .inl nu)), (a2, .inl (cI, 48, .inl (fun uu => nI (sl uu)))), (a3, .inl (cI, 48, .inl co)), (a4, .inl (cZ, 48, .inl (fun uu => lc_bI (nt uu)))), (a5, .inl (cI, 48, .inl ho)), (a6, .inl (cI, 8, .inl fp)), (a7, .inl (cI, 5, .inl wh)), (a8, .inl (cI, 20, .inl he))] : va_W) = [(g0, .inr (4, [.ref a1, .ref a2, .ref a3, .ref a4, .ref a5, .int (nI (((lm_make nu sl co nt ho md ht fp en wh he rn (nI n)).2).2.2.2.2.2.1)), .int (nI (((lm_make nu sl co nt ho md ht fp en wh he rn (nI n)).2).2.2.2.2.2.2.1)), .ref a6, .int (nI (((lm_make nu sl co nt ho md ht fp en wh he rn (nI n)).2).2.2.2.2.2.2.2.2.1)), .ref a7, .ref a8, .int (((lm_make nu sl co nt ho md ht fp en wh he rn (nI n)).2).2.2.2.2.2.2.2.2.2.2.2)])), (a1, .inl (cI, 48, .inl (((lm_make nu sl co nt ho md ht fp en wh he rn (nI n)).2).1))), (a2, .inl (cI, 48, .inl (fun uu => nI ((((lm_make nu sl co nt ho md ht fp en wh he rn (nI n)).2).2.1) uu)))), (a3, .inl (cI, 48, .inl (((lm_make nu sl co nt ho md ht fp en wh he rn (nI n)).2).2.2.1))), (a4, .inl (cZ, 48, .inl (fun uu => lc_bI ((((lm_make nu sl co nt ho md ht fp en wh he rn (nI n)).2).2.2.2.1) uu)))), (a5, .inl (cI, 48, .inl (((lm_make nu sl co nt ho md ht fp en wh he rn (nI n)).2).2.2.2.2.1))), (a6, .inl (cI, 8, .inl (((lm_make nu sl co nt ho md ht fp en wh he rn (nI n)).2).2.2.2.2.2.2.2.1))), (a7, .inl (cI, 5, .inl (((lm_make nu sl co nt ho md ht fp en wh he rn (nI n)).2).2.2.2.2.2.2.2.2.2.1))), (a8, .inl (cI, 20, .inl (((lm_make nu sl co nt ho md ht fp en wh he rn (nI n)).2).2.2.2.2.2.2.2.2.2.2.1)))] := by first | (simp only [lm_make, lm_lay, lm_settle, if_true, if_false, nI_0, *]; done) | (rw [show j = n by omega]; simp only [lm_make, lm_lay, lm_settle, if_true, if_false, nI_0, *]) | simp [lm_make, lm_lay, lm_settle, *]
        exact hret _ _ _ _ d_M_make_22 (zz_toP eW hP) (zz_toD eW hD) hS
    · skip
      exact absurd c6 (by omega)
  · skip
    have e14 := lc_14_wn h3
    refine zz_if_ne (tgt := 11) hx hb (by omega) d_M_make_6 (by decide) (fun c6 => ?_) (fun c6 => ?_)
    · skip
      exact absurd c6 (by omega)
    · skip
      refine lv_iconst (v := (-1)) hx hb d_M_make_9 (by decide +kernel) ?_
      refine zz_top (z := (lm_make nu sl co nt ho md ht fp en wh he rn x).1) (by first | (simp only [lm_make, lm_lay, lm_settle, if_true, if_false, nI_0, *]; done) | (rw [show j = n by omega]; simp only [lm_make, lm_lay, lm_settle, if_true, if_false, nI_0, *]) | simp [lm_make, lm_lay, lm_settle, *]) ?_
      have eW : ([(g0, .inr (4, [.ref a1, .ref a2, .ref a3, .ref a4, .ref a5, .int (nI md), .int (nI ht), .ref a6, .int (nI en), .ref a7, .ref a8, .int rn])), (a1, .inl (cI, 48, .inl nu)), (a2, .inl (cI, 48, .inl (fun uu => nI (sl uu)))), (a3, .inl (cI, 48, .inl co)), (a4, .inl (cZ, 48, .inl (fun uu => lc_bI (nt uu)))), (a5, .inl (cI, 48, .inl ho)), (a6, .inl (cI, 8, .inl fp)), (a7, .inl (cI, 5, .inl wh)), (a8, .inl (cI, 20, .inl he))] : va_W) = [(g0, .inr (4, [.ref a1, .ref a2, .ref a3, .ref a4, .ref a5, .int (nI (((lm_make nu sl co nt ho md ht fp en wh he rn x).2).2.2.2.2.2.1)), .int (nI (((lm_make nu sl co nt ho md ht fp en wh he rn x).2).2.2.2.2.2.2.1)), .ref a6, .int (nI (((lm_make nu sl co nt ho md ht fp en wh he rn x).2).2.2.2.2.2.2.2.2.1)), .ref a7, .ref a8, .int (((lm_make nu sl co nt ho md ht fp en wh he rn x).2).2.2.2.2.2.2.2.2.2.2.2)])), (a1, .inl (cI, 48, .inl (((lm_make nu sl co nt ho md ht fp en wh he rn x).2).1))), (a2, .inl (cI, 48, .inl (fun uu => nI ((((lm_make nu sl co nt ho md ht fp en wh he rn x).2).2.1) uu)))), (a3, .inl (cI, 48, .inl (((lm_make nu sl co nt ho md ht fp en wh he rn x).2).2.2.1))), (a4, .inl (cZ, 48, .inl (fun uu => lc_bI ((((lm_make nu sl co nt ho md ht fp en wh he rn x).2).2.2.2.1) uu)))), (a5, .inl (cI, 48, .inl (((lm_make nu sl co nt ho md ht fp en wh he rn x).2).2.2.2.2.1))), (a6, .inl (cI, 8, .inl (((lm_make nu sl co nt ho md ht fp en wh he rn x).2).2.2.2.2.2.2.2.1))), (a7, .inl (cI, 5, .inl (((lm_make nu sl co nt ho md ht fp en wh he rn x).2).2.2.2.2.2.2.2.2.2.1))), (a8, .inl (cI, 20, .inl (((lm_make nu sl co nt ho md ht fp en wh he rn x).2).2.2.2.2.2.2.2.2.2.2.1)))] := by first | (simp only [lm_make, lm_lay, lm_settle, if_true, if_false, nI_0, *]; done) | (rw [show j = n by omega]; simp only [lm_make, lm_lay, lm_settle, if_true, if_false, nI_0, *]) | simp [lm_make, lm_lay, lm_settle, *]
      exact hret _ _ _ _ d_M_make_10 (zz_toP eW hP) (zz_toD eW hD) hS
end
