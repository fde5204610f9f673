section HELPM
variable {nu co ho fp he wh : lc_A} {sl : Nat → Nat} {nt : Nat → Bool} {x z v lo hi : Int32} {i k n a j run fu ht en : Nat}
theorem lc_w1 (h1 : ¬ v < lo) (h2 : ¬ hi < v) : nI 1 = lc_bI (decide (lo ≤ v) && decide (v ≤ hi)) := by
  have e1 := Int32.not_lt.mp h1
  have e2 := Int32.not_lt.mp h2
  simp [lc_bI, e1, e2]
theorem lc_w0 (h1 : v < lo) : nI 0 = lc_bI (decide (lo ≤ v) && decide (v ≤ hi)) := by
  have e1 := Int32.not_le.mpr h1
  simp [lc_bI, e1]
theorem lc_w2 (h1 : hi < v) : nI 0 = lc_bI (decide (lo ≤ v) && decide (v ≤ hi)) := by
  have e1 := Int32.not_le.mpr h1
  simp [lc_bI, e1]
theorem lc_within_pl (hn : n < 2 ^ 31) : lc_bI (decide (nI 0 ≤ x) && decide (x ≤ nI n - nI 1)) = lc_bI (lc_pl x n).isSome := by
  congr 1
  rcases pk_ix x hn with q | q | ⟨j, hj, rfl⟩
  · rw [lc_pl_no (Or.inl q)]
    have : ¬ nI 0 ≤ x := by rw [nI_0]; exact Int32.not_le.mpr q
    simp [this]
  · rw [lc_pl_no (Or.inr q)]
    have : ¬ (nI 0 ≤ x ∧ x ≤ nI n - nI 1) := by
      rintro ⟨r1, r2⟩
      cases n with
      | zero => exact absurd (Int32.le_trans r1 r2) (by decide +kernel)
      | succ n =>
        rw [pk_sub (by omega)] at r2
        exact absurd (Int32.le_trans q r2) (nI_ge (by omega) hn)
    simp only [Option.isSome_none]
    cases e : (decide (nI 0 ≤ x) && decide (x ≤ nI n - nI 1)) with
    | false => rfl
    | true =>
      simp only [Bool.and_eq_true, decide_eq_true_eq] at e
      exact absurd e this
  · rw [lc_pl_nI hn hj]
    cases n with
    | zero => omega
    | succ n =>
      rw [pk_sub (by omega)]
      have h1 : nI 0 ≤ nI j := nI_le (by omega) (by omega)
      have h2 : nI j ≤ nI (n + 1 - 1) := nI_le (by omega) (by omega)
      rw [show n + 1 - 1 = n by omega] at h2 ⊢
      simp [h1, h2]
theorem lc_14_w (h : (decide (nI 1 ≤ x) && decide (x ≤ nI 4)) = true) : ∃ n, 1 ≤ n ∧ n ≤ 4 ∧ x = nI n ∧ lc_14 x = some n := by
  simp only [Bool.and_eq_true, decide_eq_true_eq] at h
  exact lc_14_yes h.1 h.2
theorem lc_14_wn (h : (decide (nI 1 ≤ x) && decide (x ≤ nI 4)) = false) : lc_14 x = none := by
  unfold lc_14
  rw [if_neg]
  rintro ⟨h1, h2⟩
  simp [h1, h2] at h
theorem lm_mix_0 (g f : lc_A) : lm_mix 0 g f = f := by
  funext q
  simp [lm_mix]
theorem lm_mixB_0 (f : Nat → Bool) : lm_mixB 0 f = f := by
  funext q
  simp [lm_mixB]
theorem lm_mix_s {g f : lc_A} (h : v = g i) : upd (lm_mix i g f) i v = lm_mix (i + 1) g f := by
  funext q
  unfold lm_mix
  by_cases e : q = i
  · subst e
    rw [pk_us, if_pos (by omega), h]
  · rw [pk_un e]
    by_cases h2 : q < i
    · rw [if_pos h2, if_pos (by omega)]
    · rw [if_neg h2, if_neg (by omega)]
theorem lm_mixB_s (i : Nat) (f : Nat → Bool) : upd (fun k => lc_bI (lm_mixB i f k)) i (nI 0) = fun k => lc_bI (lm_mixB (i + 1) f k) := by
  funext q
  by_cases e : q = i
  · subst e
    rw [pk_us]
    simp [lm_mixB, lc_bI]
  · rw [pk_un e]
    unfold lm_mixB
    by_cases h2 : q < i
    · rw [if_pos h2, if_pos (by omega)]
    · rw [if_neg h2, if_neg (by omega)]
theorem lm_cut_0 (p : Nat → Bool) (s : Nat → Nat) : lm_cut p s 0 = s := by
  funext q
  simp [lm_cut]
theorem lm_cut_i (p : Nat → Bool) (s : Nat → Nat) (i : Nat) : lm_cut p s i i = s i := by
  simp [lm_cut]
theorem lm_cut_n {p : Nat → Bool} {s : Nat → Nat} (h : p i = false) : lm_cut p s i = lm_cut p s (i + 1) := by
  funext q
  unfold lm_cut
  by_cases e : q = i
  · subst e
    simp [h]
  · by_cases h2 : q < i
    · simp [h2, show q < i + 1 by omega]
    · simp [h2, show ¬ q < i + 1 by omega]
theorem lm_cut_s {p : Nat → Bool} {s : Nat → Nat} (h : p i = true) : upd (fun k => nI (lm_cut p s i k)) i (nI 0) = fun k => nI (lm_cut p s (i + 1) k) := by
  funext q
  by_cases e : q = i
  · subst e
    rw [pk_us]
    simp [lm_cut, h]
  · rw [pk_un e]
    unfold lm_cut
    by_cases h2 : q < i
    · simp [h2, show q < i + 1 by omega]
    · simp [h2, show ¬ q < i + 1 by omega]
theorem lm_cut_le (p : Nat → Bool) (s : Nat → Nat) (n i : Nat) : lm_cut p s n i ≤ s i := by
  unfold lm_cut
  split <;> omega
theorem lm_cut_48 {p : Nat → Bool} {s : Nat → Nat} (h : ∀ i, i < 48 → i + s i < 48) : ∀ i, i < 48 → i + lm_cut p s 48 i < 48 := by
  intro i hi
  have := lm_cut_le p s 48 i
  have := h i hi
  omega
def lm_lp (nu ho fp : lc_A) (ht f k : Nat) (s : Nat → Nat) (co : lc_A) (nt : Nat → Bool) : (Nat → Nat) × lc_A × (Nat → Bool) := if k = 0 then (s, co, nt) else lm_st nu ho fp ht f s co nt
theorem lm_lp_0 {T : (Nat → Nat) × lc_A × (Nat → Bool)} (hk : k = 0) (h : lm_lp nu ho fp ht n k sl co nt = T) : T = (sl, co, nt) := by
  unfold lm_lp at h
  rw [if_pos hk] at h
  exact h.symm
theorem lm_lp_s {T : (Nat → Nat) × lc_A × (Nat → Bool)} (hk : 0 < k) (h : lm_lp nu ho fp ht (fu + 1) k sl co nt = T) :
    lm_lp nu ho fp ht fu (lc_ct (lm_fr sl (lm_mix 48 (lm_rc sl nu ho) co) nu fp ht) 48) (lm_cut (lm_fr sl (lm_mix 48 (lm_rc sl nu ho) co) nu fp ht) sl 48) (lm_mix 48 (lm_rc sl nu ho) co) (lm_mixB 48 nt) = T := by
  unfold lm_lp at h
  rw [if_neg (by omega)] at h
  unfold lm_lp
  simp only [lm_st] at h
  exact h
theorem lm_fr_ct (s : Nat → Nat) (c1 : lc_A) : lc_ct (fun c => decide (0 < s c)) 48 = lc_ct (fun c => decide (0 < lm_cut (lm_fr s c1 nu fp ht) s 48 c)) 48 + lc_ct (lm_fr s c1 nu fp ht) 48 := by
  rw [lc_ct_cutp (q := lm_fr s c1 nu fp ht) 48 (fun c hc q => by simp only [lm_fr, Bool.and_eq_true] at q; exact q.1.1)]
  congr 1
  refine lc_ct_ext 48 (fun c hc => ?_)
  unfold lm_cut
  cases e3 : lm_fr s c1 nu fp ht c with
  | true => simp [hc]
  | false => simp
theorem lm_lp_m {c1 : lc_A} (hk : 0 < k) (hf : (if k = 0 then 0 else lc_ct (fun c => decide (0 < sl c)) 48 + 1) < fu + 1) :
    (if lc_ct (lm_fr sl c1 nu fp ht) 48 = 0 then 0 else lc_ct (fun c => decide (0 < lm_cut (lm_fr sl c1 nu fp ht) sl 48 c)) 48 + 1) < fu := by
  rw [if_neg (by omega)] at hf
  have := lm_fr_ct (nu := nu) (fp := fp) (ht := ht) sl c1
  split <;> omega
theorem lm_lp_m0 : (if 1 = 0 then 0 else lc_ct (fun c => decide (0 < sl c)) 48 + 1) < 50 := by
  have := lc_ct_le (p := fun c => decide (0 < sl c)) 48
  rw [if_neg (by omega)]
  omega
theorem lm_st_48 (nu ho fp : lc_A) (ht : Nat) : ∀ (f : Nat) (s : Nat → Nat) (co : lc_A) (nt : Nat → Bool), (∀ i, i < 48 → i + s i < 48) → ∀ i, i < 48 → i + (lm_st nu ho fp ht f s co nt).1 i < 48 := by
  intro f
  induction f with
  | zero => intro s co nt h; exact h
  | succ f ih =>
    intro s co nt h
    simp only [lm_st]
    split
    · exact lm_cut_48 h
    · exact ih _ _ _ (lm_cut_48 h)
theorem lm_rm_s1 (hi : i < 48) (h0 : sl i = 0) (hne : run + 1 ≠ k) : lm_rm sl k fu (i + 1) (run + 1) = lm_rm sl k (fu + 1) i run := by
  simp only [lm_rm, if_pos hi, h0, Nat.lt_irrefl, if_false, if_neg hne]
theorem lm_rm_s0 (hi : i < 48) (h0 : 0 < sl i) : lm_rm sl k fu (i + sl i + 1) 0 = lm_rm sl k (fu + 1) i run := by
  simp only [lm_rm, if_pos hi, if_pos h0]
theorem lm_rm_ret (hi : i < 48) (h0 : sl i = 0) (hk : run + 1 = k) (hr : run ≤ i) (he : lm_rm sl k (fu + 1) i run = lm_room sl k) : nI (i + 1 - k) = lc_oI (lm_room sl k) := by
  rw [← he]
  simp only [lm_rm, if_pos hi, h0, Nat.lt_irrefl, if_false, if_pos hk]
  rfl
theorem lm_rm_end (hi : 48 ≤ i) (he : lm_rm sl k (fu + 1) i run = lm_room sl k) : (-1 : Int32) = lc_oI (lm_room sl k) := by
  rw [← he]
  simp only [lm_rm]
  rw [if_neg (by omega)]
  rfl
theorem lm_rm_lt (hk : 0 < k) (hs : ∀ i, i < 48 → i + sl i < 48) : ∀ (f i run a : Nat), i ≤ 48 → run ≤ i → run < k → lm_rm sl k f i run = some a → a + k ≤ 48 := by
  intro f
  induction f with
  | zero => intro i run a _ _ _ h; simp [lm_rm] at h
  | succ f ih =>
    intro i run a hi hr hrk h
    simp only [lm_rm] at h
    by_cases e : i < 48
    · rw [if_pos e] at h
      have := hs i e
      by_cases e2 : 0 < sl i
      · rw [if_pos e2] at h
        exact ih _ _ a (by omega) (by omega) hk h
      · rw [if_neg e2] at h
        by_cases e3 : run + 1 = k
        · rw [if_pos e3] at h
          cases h
          omega
        · rw [if_neg e3] at h
          exact ih _ _ a (by omega) (by omega) (by omega) h
    · rw [if_neg e] at h
      cases h
theorem lm_room_lt (hk : 0 < k) (hs : ∀ i, i < 48 → i + sl i < 48) (h : lm_room sl k = some a) : a + k ≤ 48 := lm_rm_lt hk hs 49 0 0 a (by omega) (by omega) hk h
theorem lm_find_lt (h : lm_find nu sl x = some a) : a < 48 ∧ 0 < sl a := by
  have key : ∀ n, lc_lf (fun c => decide (0 < sl c) && decide (nu c = x)) n = some a → a < n ∧ 0 < sl a := by
    intro n
    induction n with
    | zero => intro h; simp [lc_lf] at h
    | succ n ih =>
      intro h
      simp only [lc_lf] at h
      split at h
      · cases h
        rename_i h2
        simp only [Bool.and_eq_true, decide_eq_true_eq] at h2
        exact ⟨by omega, h2.1⟩
      · have := ih h
        exact ⟨by omega, this.2⟩
  exact key 48 h
theorem lm_slotc_spec (hs : ∀ i, i < 48 → i + sl i < 48) (hht : ht ≤ 8) (h : lm_slotc nu sl fp ht x z = some (a, j)) : a < 48 ∧ 0 < sl a ∧ j < sl a ∧ z = nI j := by
  unfold lm_slotc at h
  cases e : lc_pl x ht with
  | none => rw [e] at h; cases h
  | some k =>
    rw [e] at h
    simp only at h
    split at h
    · cases e2 : lm_find nu sl (fp k) with
      | none => rw [e2] at h; cases h
      | some a' =>
        rw [e2] at h
        simp only at h
        obtain ⟨h1, h2⟩ := lm_find_lt e2
        have h3 := hs a' h1
        cases e3 : lc_pl z (sl a') with
        | none => rw [e3] at h; cases h
        | some j' =>
          rw [e3] at h
          cases h
          obtain ⟨h4, h5⟩ := lc_pl_spec (by omega) e3
          exact ⟨h1, h2, h4, h5⟩
    · cases h
theorem lm_so_lt (hs : ∀ i, i < 48 → i + sl i < 48) (x : Int32) : am_so nu sl x < 48 := by
  unfold am_so
  cases e : lm_find nu sl x with
  | none => simp
  | some a =>
    have := hs a (lm_find_lt e).1
    simp only
    omega
theorem lm_nr_0 (s : Nat → Nat) (ho : lc_A) (a en : Nat) (he : lc_A) : lm_nr s ho a en he 0 = he := by
  funext q
  unfold lm_nr
  rw [if_neg (by omega)]
theorem lm_nr_s {s : Nat → Nat} (h : v = if j < s a then ho (a + 1 + j) else 0) : upd (lm_nr s ho a en he j) (4 * en + j) v = lm_nr s ho a en he (j + 1) := by
  funext q
  by_cases e : q = 4 * en + j
  · subst e
    rw [pk_us, h]
    unfold lm_nr
    have c1 : 4 * en ≤ 4 * en + j ∧ 4 * en + j < 4 * en + (j + 1) := by omega
    rw [if_pos c1, show 4 * en + j - 4 * en = j by omega]
  · rw [pk_un e]
    unfold lm_nr
    by_cases h2 : 4 * en ≤ q ∧ q < 4 * en + j
    · have c1 : 4 * en ≤ q ∧ q < 4 * en + (j + 1) := by omega
      rw [if_pos h2, if_pos c1]
    · have c1 : ¬ (4 * en ≤ q ∧ q < 4 * en + (j + 1)) := by omega
      rw [if_neg h2, if_neg c1]
theorem lm_fr_0 : nI 48 = nI 48 - nI (lc_sm (lc_wt sl) 0) := by
  show nI 48 = nI 48 - nI 0
  decide +kernel
theorem lm_fr_1 (h : sl i = 0) : nI 48 - nI (lc_sm (lc_wt sl) i) = nI 48 - nI (lc_sm (lc_wt sl) (i + 1)) := by
  simp [lc_sm, lc_wt, h]
theorem lm_fr_2 (h : 0 < sl i) : nI 48 - nI (lc_sm (lc_wt sl) i) - nI (sl i) - nI 1 = nI 48 - nI (lc_sm (lc_wt sl) (i + 1)) := by
  simp only [lc_sm, lc_wt, if_pos h]
  rw [← nI_add, ← nI_add]
  rw [Int32.sub_sub, Int32.sub_sub]
end HELPM
section HELPW
variable {p : Program} {l : Launch} {e : Env} {R : Room} {s : State} {m : MethodId} {args : Array Value} {below : List Frame} {meth : Method} {c : Code} {H : Heap} {locs : List Loc} {cells slots pc : Nat} {Q : State → Prop} {ls : Array Slot} {rest : List Value}
theorem zz_sc {o : Option (Nat × Nat)} (kn : o = none → W p l e R s m args below meth c H locs cells slots Q (F0 m pc ls (.int (-1) :: rest))) (ks : ∀ a j, o = some (a, j) → W p l e R s m args below meth c H locs cells slots Q (F0 m pc ls (.int (nI (a + 1 + j)) :: rest))) : W p l e R s m args below meth c H locs cells slots Q (F0 m pc ls (.int (lc_oI (o.map (fun q => q.1 + 1 + q.2))) :: rest)) := by
  cases o with
  | none => exact kn rfl
  | some q => exact ks q.1 q.2 rfl
theorem zz_c1 {α : Type} {a a' : α} {l l' : List α} (h : a = a') (k : l = l') : a :: l = a' :: l' := by rw [h, k]
theorem zz_hlc {ls : Array Slot} {n : Nat} {l l' : List (Nat × Value)} (h : lv_has ls n l) (e : l = l') : lv_has ls n l' := e ▸ h
end HELPW
