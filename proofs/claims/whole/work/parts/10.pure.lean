section PURE1
/-! pure words, and what they say: first, last, count, any, sum, run -/
def lc_bI (b : Bool) : Int32 := if b = true then nI 1 else nI 0
def lc_oI (o : Option Nat) : Int32 := match o with
  | none => -1
  | some k => nI k
def lc_ff (p : Nat → Bool) : Nat → Nat → Option Nat
  | 0, _ => none
  | f + 1, i => if p i = true then some i else lc_ff p f (i + 1)
def lc_lf (p : Nat → Bool) : Nat → Option Nat
  | 0 => none
  | n + 1 => if p n = true then some n else lc_lf p n
def lc_ct (p : Nat → Bool) : Nat → Nat
  | 0 => 0
  | n + 1 => lc_ct p n + (if p n = true then 1 else 0)
def lc_an (p : Nat → Bool) : Nat → Bool
  | 0 => false
  | n + 1 => lc_an p n || p n
def lc_sm (f : Nat → Nat) : Nat → Nat
  | 0 => 0
  | n + 1 => lc_sm f n + f n
def lc_rn (p : Nat → Bool) : Nat → Nat → Nat
  | 0, _ => 0
  | f + 1, i => if p i = true then lc_rn p f (i + 1) + 1 else 0
theorem lc_ff_none {p : Nat → Bool} : ∀ (f i : Nat), (∀ k, i ≤ k → k < i + f → p k = false) → lc_ff p f i = none := by
  intro f
  induction f with
  | zero => intro i _; rfl
  | succ f ih =>
    intro i h
    have h0 : p i = false := h i (Nat.le_refl i) (by omega)
    simp only [lc_ff, h0]
    exact ih (i + 1) (fun k h1 h2 => h k (by omega) (by omega))
theorem lc_ff_some {p : Nat → Bool} : ∀ (f i k : Nat), i ≤ k → k < i + f → p k = true → (∀ j, i ≤ j → j < k → p j = false) → lc_ff p f i = some k := by
  intro f
  induction f with
  | zero => intro i k h1 h2; omega
  | succ f ih =>
    intro i k h1 h2 h3 h4
    by_cases e : i = k
    · subst e
      simp only [lc_ff, h3, if_true]
    · have h0 : p i = false := h4 i (Nat.le_refl i) (by omega)
      simp only [lc_ff, h0]
      exact ih (i + 1) k (by omega) (by omega) h3 (fun j a b => h4 j (by omega) b)
theorem lc_ff_spec {p : Nat → Bool} : ∀ (f i k : Nat), lc_ff p f i = some k → i ≤ k ∧ k < i + f ∧ p k = true ∧ ∀ j, i ≤ j → j < k → p j = false := by
  intro f
  induction f with
  | zero => intro i k h; simp [lc_ff] at h
  | succ f ih =>
    intro i k h
    by_cases e : p i = true
    · simp only [lc_ff, e, if_true] at h
      cases h
      exact ⟨Nat.le_refl i, by omega, e, fun j a b => by omega⟩
    · simp only [lc_ff, e] at h
      obtain ⟨h1, h2, h3, h4⟩ := ih (i + 1) k h
      refine ⟨by omega, by omega, h3, fun j a b => ?_⟩
      by_cases ej : j = i
      · subst ej; simpa using e
      · exact h4 j (by omega) b
theorem lc_ff_nspec {p : Nat → Bool} : ∀ (f i : Nat), lc_ff p f i = none → ∀ k, i ≤ k → k < i + f → p k = false := by
  intro f
  induction f with
  | zero => intro i _ k h1 h2; omega
  | succ f ih =>
    intro i h k h1 h2
    by_cases e : p i = true
    · simp only [lc_ff, e, if_true] at h
      cases h
    · simp only [lc_ff, e] at h
      by_cases ek : k = i
      · subst ek; simpa using e
      · exact ih (i + 1) h k (by omega) (by omega)
theorem lc_ff_ext {p q : Nat → Bool} : ∀ (f i : Nat), (∀ k, i ≤ k → k < i + f → p k = q k) → lc_ff p f i = lc_ff q f i := by
  intro f
  induction f with
  | zero => intro i _; rfl
  | succ f ih =>
    intro i h
    simp only [lc_ff, h i (Nat.le_refl i) (by omega), ih (i + 1) (fun k a b => h k (by omega) (by omega))]
theorem lc_lf_none {p : Nat → Bool} : ∀ (n : Nat), (∀ k, k < n → p k = false) → lc_lf p n = none := by
  intro n
  induction n with
  | zero => intro _; rfl
  | succ n ih =>
    intro h
    have h0 : p n = false := h n (by omega)
    simp only [lc_lf, h0]
    exact ih (fun k a => h k (by omega))
theorem lc_lf_some {p : Nat → Bool} : ∀ (n k : Nat), k < n → p k = true → (∀ j, j < n → p j = true → j = k) → lc_lf p n = some k := by
  intro n
  induction n with
  | zero => intro k h; omega
  | succ n ih =>
    intro k h1 h2 h3
    by_cases e : p n = true
    · have := h3 n (by omega) e
      subst this
      simp only [lc_lf, e, if_true]
    · simp only [lc_lf, e]
      refine ih k ?_ h2 (fun j a b => h3 j (by omega) b)
      rcases Nat.lt_or_ge k n with q | q
      · exact q
      · have : k = n := by omega
        subst this
        exact absurd h2 e
theorem lc_ct_ext {p q : Nat → Bool} : ∀ (n : Nat), (∀ k, k < n → p k = q k) → lc_ct p n = lc_ct q n := by
  intro n
  induction n with
  | zero => intro _; rfl
  | succ n ih =>
    intro h
    simp only [lc_ct, h n (by omega), ih (fun k a => h k (by omega))]
theorem lc_ct_le {p : Nat → Bool} : ∀ (n : Nat), lc_ct p n ≤ n := by
  intro n
  induction n with
  | zero => exact Nat.le_refl 0
  | succ n ih =>
    simp only [lc_ct]
    split <;> omega
theorem lc_ct_mono {p q : Nat → Bool} : ∀ (n : Nat), (∀ k, k < n → p k = true → q k = true) → lc_ct p n ≤ lc_ct q n := by
  intro n
  induction n with
  | zero => intro _; exact Nat.le_refl 0
  | succ n ih =>
    intro h
    have h1 := ih (fun k a => h k (by omega))
    have h2 := h n (by omega)
    simp only [lc_ct]
    by_cases e : p n = true
    · simp only [e, h2 e, if_true]; omega
    · by_cases f : q n = true
      · simp only [e, f, if_true, if_false, Bool.false_eq_true]; omega
      · simp only [e, f, if_false, Bool.false_eq_true]; omega
theorem lc_ct_zero {p : Nat → Bool} : ∀ (n : Nat), lc_ct p n = 0 → ∀ k, k < n → p k = false := by
  intro n
  induction n with
  | zero => intro _ k h; omega
  | succ n ih =>
    intro h k hk
    simp only [lc_ct] at h
    have h1 : lc_ct p n = 0 := by omega
    by_cases e : p n = true
    · simp [e] at h
    · by_cases ek : k = n
      · subst ek; simpa using e
      · exact ih h1 k (by omega)
theorem lc_ct_none {p : Nat → Bool} : ∀ (n : Nat), (∀ k, k < n → p k = false) → lc_ct p n = 0 := by
  intro n
  induction n with
  | zero => intro _; rfl
  | succ n ih =>
    intro h
    simp [lc_ct, h n (by omega), ih (fun k a => h k (by omega))]
theorem lc_ct_upd {p q : Nat → Bool} : ∀ (n a : Nat), a < n → (∀ k, k < n → k ≠ a → q k = p k) → lc_ct q n + (if p a = true then 1 else 0) = lc_ct p n + (if q a = true then 1 else 0) := by
  intro n
  induction n with
  | zero => intro a h; omega
  | succ n ih =>
    intro a h1 h2
    simp only [lc_ct]
    by_cases e : a = n
    · subst e
      rw [lc_ct_ext a (fun k hk => h2 k (by omega) (by omega))]
      omega
    · rw [h2 n (by omega) (fun z => e z.symm)]
      have := ih a (by omega) (fun k hk hn => h2 k (by omega) hn)
      omega
theorem lc_sm_ext {f g : Nat → Nat} : ∀ (n : Nat), (∀ k, k < n → f k = g k) → lc_sm f n = lc_sm g n := by
  intro n
  induction n with
  | zero => intro _; rfl
  | succ n ih =>
    intro h
    simp only [lc_sm, h n (by omega), ih (fun k a => h k (by omega))]
theorem lc_sm_mono {f g : Nat → Nat} : ∀ (n : Nat), (∀ k, k < n → f k ≤ g k) → lc_sm f n ≤ lc_sm g n := by
  intro n
  induction n with
  | zero => intro _; exact Nat.le_refl 0
  | succ n ih =>
    intro h
    have h1 := ih (fun k a => h k (by omega))
    have h2 := h n (by omega)
    simp only [lc_sm]
    omega
theorem lc_sm_upd {f g : Nat → Nat} : ∀ (n a : Nat), a < n → (∀ k, k < n → k ≠ a → g k = f k) → lc_sm g n + f a = lc_sm f n + g a := by
  intro n
  induction n with
  | zero => intro a h; omega
  | succ n ih =>
    intro a h1 h2
    simp only [lc_sm]
    by_cases e : a = n
    · subst e
      rw [lc_sm_ext a (fun k hk => h2 k (by omega) (by omega))]
      omega
    · rw [h2 n (by omega) (fun z => e z.symm)]
      have := ih a (by omega) (fun k hk hn => h2 k (by omega) hn)
      omega
theorem lc_sm_zero {f : Nat → Nat} : ∀ (n : Nat), lc_sm f n = 0 → ∀ k, k < n → f k = 0 := by
  intro n
  induction n with
  | zero => intro _ k h; omega
  | succ n ih =>
    intro h k hk
    simp only [lc_sm] at h
    by_cases ek : k = n
    · subst ek; omega
    · exact ih (by omega) k (by omega)
theorem lc_sm_le {f : Nat → Nat} {b : Nat} : ∀ (n : Nat), (∀ k, k < n → f k ≤ b) → lc_sm f n ≤ n * b := by
  intro n
  induction n with
  | zero => intro _; simp [lc_sm]
  | succ n ih =>
    intro h
    have h1 := ih (fun k a => h k (by omega))
    have h2 := h n (by omega)
    simp only [lc_sm, Nat.succ_mul]
    omega
theorem lc_an_true {p : Nat → Bool} : ∀ (n i : Nat), i < n → p i = true → lc_an p n = true := by
  intro n
  induction n with
  | zero => intro i h; omega
  | succ n ih =>
    intro i h1 h2
    simp only [lc_an, Bool.or_eq_true]
    by_cases e : i = n
    · subst e; exact Or.inr h2
    · exact Or.inl (ih i (by omega) h2)
theorem lc_an_false {p : Nat → Bool} : ∀ (n : Nat), (∀ i, i < n → p i = false) → lc_an p n = false := by
  intro n
  induction n with
  | zero => intro _; rfl
  | succ n ih =>
    intro h
    simp [lc_an, h n (by omega), ih (fun k a => h k (by omega))]
theorem lc_an_spec {p : Nat → Bool} : ∀ (n : Nat), lc_an p n = true → ∃ i, i < n ∧ p i = true := by
  intro n
  induction n with
  | zero => intro h; simp [lc_an] at h
  | succ n ih =>
    intro h
    simp only [lc_an, Bool.or_eq_true] at h
    rcases h with h | h
    · obtain ⟨i, h1, h2⟩ := ih h
      exact ⟨i, by omega, h2⟩
    · exact ⟨n, by omega, h⟩
theorem lc_an_nspec {p : Nat → Bool} (n : Nat) (h : lc_an p n = false) : ∀ i, i < n → p i = false := by
  intro i hi
  cases e : p i with
  | false => rfl
  | true => rw [lc_an_true n i hi e] at h; cases h
theorem lc_rn_le {p : Nat → Bool} : ∀ (f i : Nat), lc_rn p f i ≤ f := by
  intro f
  induction f with
  | zero => intro i; exact Nat.le_refl 0
  | succ f ih =>
    intro i
    simp only [lc_rn]
    have := ih (i + 1)
    split <;> omega
theorem lc_rn_eq {p : Nat → Bool} : ∀ (f i j : Nat), j ≤ f → (∀ k, k < j → p (i + k) = true) → (j = f ∨ p (i + j) = false) → lc_rn p f i = j := by
  intro f
  induction f with
  | zero => intro i j h1 _ _; simp only [lc_rn]; omega
  | succ f ih =>
    intro i j h1 h2 h3
    cases j with
    | zero =>
      rcases h3 with h | h
      · omega
      · simp at h
        simp [lc_rn, h]
    | succ j =>
      have h0 : p i = true := by simpa using h2 0 (by omega)
      simp only [lc_rn, h0, if_true]
      rw [ih (i + 1) j (by omega) (fun k hk => by have := h2 (k + 1) (by omega); rwa [show i + (k + 1) = i + 1 + k by omega] at this) (by
        rcases h3 with h | h
        · exact Or.inl (by omega)
        · exact Or.inr (by rwa [show i + (j + 1) = i + 1 + j by omega] at h))]
theorem lc_rn_all {p : Nat → Bool} : ∀ (f i k : Nat), k < lc_rn p f i → p (i + k) = true := by
  intro f
  induction f with
  | zero => intro i k h; simp [lc_rn] at h
  | succ f ih =>
    intro i k h
    by_cases e : p i = true
    · simp only [lc_rn, e, if_true] at h
      cases k with
      | zero => simpa using e
      | succ k =>
        have := ih (i + 1) k (by omega)
        rwa [show i + (k + 1) = i + 1 + k by omega]
    · simp [lc_rn, e] at h
theorem lc_ct_cutp {p q : Nat → Bool} : ∀ (n : Nat), (∀ c, c < n → q c = true → p c = true) → lc_ct p n = lc_ct (fun c => p c && !q c) n + lc_ct q n := by
  intro n
  induction n with
  | zero => intro _; rfl
  | succ n ih =>
    intro h
    have h1 := ih (fun c hc => h c (by omega))
    have h2 := h n (by omega)
    simp only [lc_ct]
    by_cases e1 : q n = true
    · simp only [e1, h2 e1, if_true, Bool.not_true, Bool.and_false, Bool.false_eq_true, if_false]; omega
    · have e2 : q n = false := by simpa using e1
      simp only [e2, Bool.not_false, Bool.and_true, Bool.false_eq_true, if_false]; omega
end PURE1
