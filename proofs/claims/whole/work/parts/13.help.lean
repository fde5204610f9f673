section HELP
variable {fo fw fp : lc_A} {x : Int32} {i k n a j run : Nat}
theorem lc_s48 (h : i < 48) : 48 - i = (48 - (i + 1)) + 1 := by omega
theorem lc_rm_s1 (hi : i < 48) (h0 : fo i = 0) (hne : run + 1 ≠ k) : lc_rm fo k (48 - (i + 1)) (i + 1) (run + 1) = lc_rm fo k (48 - i) i run := by
  rw [lc_s48 hi]
  simp only [lc_rm, if_pos h0, if_neg hne]
theorem lc_rm_s0 (hi : i < 48) (h0 : ¬ fo i = 0) (hk : 0 < k) : lc_rm fo k (48 - (i + 1)) (i + 1) 0 = lc_rm fo k (48 - i) i run := by
  rw [lc_s48 hi]
  simp only [lc_rm, if_neg h0]
  rw [if_neg (by omega)]
theorem lc_rm_ret (hi : i < 48) (h0 : fo i = 0) (hk : run + 1 = k) (hr : run ≤ i) (he : lc_rm fo k (48 - i) i run = lc_room fo k) : nI i - nI k + nI 1 = lc_oI (lc_room fo k) := by
  rw [← he, lc_s48 hi]
  simp only [lc_rm, if_pos h0, if_pos hk, lc_oI]
  have h1 : nI (i + 1 - k) + nI k = nI i + nI 1 := by
    rw [nI_add, nI_add]
    congr 1
    omega
  have h2 : nI (i + 1 - k) = nI i + nI 1 - nI k := by
    rw [← h1, Int32.add_sub_cancel]
  rw [h2, Int32.sub_eq_add_neg, Int32.sub_eq_add_neg, Int32.add_assoc, Int32.add_assoc, Int32.add_comm (-nI k)]
theorem lc_rm_end (hi : 48 ≤ i) (he : lc_rm fo k (48 - i) i run = lc_room fo k) : (-1 : Int32) = lc_oI (lc_room fo k) := by
  rw [← he, show 48 - i = 0 by omega]
  rfl
theorem lc_lt1 {P : Nat → Prop} (h : ∀ j, j < i → P j) (hi : P i) : ∀ j, j < i + 1 → P j := by
  intro j hj
  by_cases e : j = i
  · subst e; exact hi
  · exact h j (by omega)
theorem lc_first_0 (h : x = 0) : (-1 : Int32) = lc_oI (lc_first fo x) := by
  simp only [lc_first, if_pos h, lc_oI]
theorem lc_first_i (hi : i < 48) (h0 : ¬ x = 0) (he : fo i = x) (hn : ∀ j, j < i → fo j ≠ x) : nI i = lc_oI (lc_first fo x) := by
  simp only [lc_first, if_neg h0]
  rw [lc_ff_some 48 0 i (Nat.zero_le _) (by omega) (by simp [he]) (fun j _ hj => by simpa using hn j hj)]
  rfl
theorem lc_first_n (hi : 48 ≤ i) (h0 : ¬ x = 0) (hn : ∀ j, j < i → fo j ≠ x) : (-1 : Int32) = lc_oI (lc_first fo x) := by
  simp only [lc_first, if_neg h0]
  rw [lc_ff_none 48 0 (fun j _ hj => by simpa using hn j (by omega))]
  rfl
theorem lc_first_lt (h : lc_first fo x = some k) : k < 48 ∧ x ≠ 0 ∧ fo k = x := by
  unfold lc_first at h
  by_cases e : x = 0
  · rw [if_pos e] at h; cases h
  · rw [if_neg e] at h
    obtain ⟨-, h2, h3, -⟩ := lc_ff_spec 48 0 k h
    simp only [decide_eq_true_eq] at h3
    exact ⟨by omega, e, h3⟩
theorem lc_sa_le (fo : lc_A) (a : Nat) : lc_sa fo a ≤ 47 - a := lc_rn_le _ _
theorem lc_sa_end (ha : a < 48) (hj : a + 1 + j ≤ 48) (hn : ∀ k, k < j → fo (a + 1 + k) = fo a) (h : 48 ≤ a + 1 + j ∨ ¬ fo (a + 1 + j) = fo a) : nI j = nI (lc_sa fo a) := by
  congr 1
  refine (lc_rn_eq (47 - a) (a + 1) j (by omega) (fun k hk => by simpa using hn k hk) ?_).symm
  rcases h with h | h
  · exact Or.inl (by omega)
  · exact Or.inr (by simpa using h)
theorem lc_fill_s (f : lc_A) (a j : Nat) (v : Int32) : upd (lc_fill f a j v) (a + j) v = lc_fill f a (j + 1) v := by
  funext q
  by_cases e : q = a + j
  · subst e
    rw [pk_us]
    unfold lc_fill
    rw [if_pos (by omega)]
  · rw [pk_un e]
    unfold lc_fill
    by_cases h : a ≤ q ∧ q < a + j
    · rw [if_pos h, if_pos (by omega)]
    · rw [if_neg h, if_neg (by omega)]
theorem lc_fill_0 (f : lc_A) (a : Nat) (v : Int32) : lc_fill f a 0 v = f := by
  funext q
  unfold lc_fill
  rw [if_neg (by omega)]
theorem lc_has1 (h1 : ¬ x < 0) (h2 : ¬ nI n ≤ x) : nI 1 = lc_bI (lc_pl x n).isSome := by
  unfold lc_pl
  rw [if_pos ⟨Int32.not_lt.mp h1, Int32.not_le.mp h2⟩]
  rfl
theorem lc_has0 (h1 : x < 0) : nI 0 = lc_bI (lc_pl x n).isSome := by
  rw [lc_pl_no (Or.inl h1)]
  rfl
theorem lc_has2 (h1 : nI n ≤ x) : nI 0 = lc_bI (lc_pl x n).isSome := by
  rw [lc_pl_no (Or.inr h1)]
  rfl
theorem lc_on_t {ht : Nat} (hj : j < ht) (e : fp j = x) : nI 1 = lc_bI (lc_on fp ht x) := by
  unfold lc_on
  rw [lc_an_true ht j hj (by simp [e])]
  rfl
theorem lc_on_f {ht : Nat} (hi : ht ≤ i) (hn : ∀ j, j < i → fp j ≠ x) : nI 0 = lc_bI (lc_on fp ht x) := by
  unfold lc_on
  rw [lc_an_false ht (fun j hj => by simpa using hn j (by omega))]
  rfl
theorem lc_isF0 (h : fo i = 0) : nI 0 = lc_bI (lc_isF fo i) := by simp [lc_isF, lc_bI, h]
theorem lc_isF1 (h : ¬ fo i = 0) (h0 : i = 0) : nI 1 = lc_bI (lc_isF fo i) := by
  subst h0
  simp [lc_isF, lc_bI, h]
theorem lc_isF2 (h : ¬ fo i = 0) (h1 : ¬ fo (i - 1) = fo i) : nI 1 = lc_bI (lc_isF fo i) := by simp [lc_isF, lc_bI, h, h1]
theorem lc_isF3 (h0 : 0 < i) (h : fo (i - 1) = fo i) : nI 0 = lc_bI (lc_isF fo i) := by
  have : ¬ i = 0 := by omega
  simp [lc_isF, lc_bI, h, this]
theorem zz_narB (b : Bool) : narrow .boolean (.int (lc_bI b)) = .int (lc_bI b) := by
  cases b <;> decide +kernel
theorem lc_un_i {ht : Nat} (hi : i < 48) (h : (lc_isU fo fw i && !lc_on fp ht (fo i)) = true) (hn : ∀ j, j < i → (lc_isU fo fw j && !lc_on fp ht (fo j)) = false) : nI i = lc_oI (lc_un fo fw fp ht) := by
  unfold lc_un
  rw [lc_ff_some 48 0 i (Nat.zero_le _) (by omega) h (fun j _ hj => hn j hj)]
  rfl
theorem lc_un_n {ht : Nat} (hi : 48 ≤ i) (hn : ∀ j, j < i → (lc_isU fo fw j && !lc_on fp ht (fo j)) = false) : (-1 : Int32) = lc_oI (lc_un fo fw fp ht) := by
  unfold lc_un
  rw [lc_ff_none 48 0 (fun j _ hj => hn j (by omega))]
  rfl
theorem lc_un_lt {ht : Nat} (h : lc_un fo fw fp ht = some k) : k < 48 := by
  obtain ⟨-, h2, -, -⟩ := lc_ff_spec 48 0 k h
  omega
theorem lc_fr_s {ht : Nat} {R : lc_A × lc_A × Nat} (hk : k < 48) (h : lc_un fo fw fp ht = some a) (hE : (lc_fr fp ht (48 - k) fo fw).1 = R.1 ∧ (lc_fr fp ht (48 - k) fo fw).2.1 = R.2.1 ∧ k + (lc_fr fp ht (48 - k) fo fw).2.2 = R.2.2) :
    (lc_fr fp ht (48 - (k + 1)) (lc_fill fo a (lc_sa fo a + 1) 0) (lc_gb fo fw a (lc_sa fo a))).1 = R.1 ∧ (lc_fr fp ht (48 - (k + 1)) (lc_fill fo a (lc_sa fo a + 1) 0) (lc_gb fo fw a (lc_sa fo a))).2.1 = R.2.1 ∧ k + 1 + (lc_fr fp ht (48 - (k + 1)) (lc_fill fo a (lc_sa fo a + 1) 0) (lc_gb fo fw a (lc_sa fo a))).2.2 = R.2.2 := by
  rw [lc_s48 hk] at hE
  simp only [lc_fr, h] at hE
  obtain ⟨h1, h2, h3⟩ := hE
  exact ⟨h1, h2, by omega⟩
theorem lc_fr_0 {ht f : Nat} (h : lc_un fo fw fp ht = none) : lc_fr fp ht f fo fw = (fo, fw, 0) := by
  cases f with
  | zero => rfl
  | succ f => simp only [lc_fr, h]
theorem lc_fr_n {ht : Nat} {R : lc_A × lc_A × Nat} (h : lc_un fo fw fp ht = none) (hE : (lc_fr fp ht (48 - k) fo fw).1 = R.1 ∧ (lc_fr fp ht (48 - k) fo fw).2.1 = R.2.1 ∧ k + (lc_fr fp ht (48 - k) fo fw).2.2 = R.2.2) : R = (fo, fw, k) := by
  rw [lc_fr_0 h] at hE
  obtain ⟨h1, h2, h3⟩ := hE
  obtain ⟨r1, r2, r3⟩ := R
  simp only at h1 h2 h3
  rw [h1, h2, ← h3]
  rfl
theorem lc_fr_e {ht : Nat} {R : lc_A × lc_A × Nat} (h : 48 ≤ k) (hE : (lc_fr fp ht (48 - k) fo fw).1 = R.1 ∧ (lc_fr fp ht (48 - k) fo fw).2.1 = R.2.1 ∧ k + (lc_fr fp ht (48 - k) fo fw).2.2 = R.2.2) : R = (fo, fw, k) := by
  rw [show 48 - k = 0 by omega] at hE
  obtain ⟨h1, h2, h3⟩ := hE
  obtain ⟨r1, r2, r3⟩ := R
  simp only [lc_fr] at h1 h2 h3
  rw [h1, h2, ← h3]
  rfl
theorem lc_nr_0 (M : Nat → lc_A) (q : Nat) (fw : lc_A) (a : Nat) : va_up M q (lc_nr fw a (M q) 0) = M := by
  funext i
  by_cases e : i = q
  · subst e
    rw [va_up_self]
    funext j
    simp [lc_nr]
  · rw [va_up_ne M _ e]
theorem lc_nr_s (M : Nat → lc_A) (q : Nat) (fw : lc_A) (a j : Nat) : va_up (va_up M q (lc_nr fw a (M q) j)) q (upd (va_up M q (lc_nr fw a (M q) j) q) j (fw (a + 1 + j))) = va_up M q (lc_nr fw a (M q) (j + 1)) := by
  funext i
  by_cases e : i = q
  · subst e
    rw [va_up_self, va_up_self, va_up_self]
    funext k
    by_cases ek : k = j
    · subst ek
      rw [pk_us]
      simp [lc_nr]
    · rw [pk_un ek]
      unfold lc_nr
      by_cases h : k < j
      · rw [if_pos h, if_pos (by omega)]
      · rw [if_neg h, if_neg (by omega)]
  · rw [va_up_ne _ _ e, va_up_ne M _ e, va_up_ne M _ e]
theorem lc_fca_lt {ht : Nat} (h : lc_fca fo fp ht x = some a) : a < 48 := by
  unfold lc_fca at h
  cases e : lc_pl x ht with
  | none => rw [e] at h; cases h
  | some j => rw [e] at h; exact (lc_first_lt h).1
theorem zz_n1 : nI 1 = (1 : Int32) := by decide +kernel
theorem lc_pl_0 (x : Int32) : lc_pl x 0 = none := by
  cases e : lc_pl x 0 with
  | none => rfl
  | some j => have := (lc_pl_spec (by omega) e).1; omega
end HELP
