section RECKON
variable {s t : Nat → Nat} {nu fo fw ho fp fe : lc_A} {md ht len : Nat}
/-- how often x stands among the values v d j of the slots j of the objects d -/
def lc_cn (s : Nat → Nat) (v : Nat → lc_A) (x : Int32) : Nat := lc_sm (fun d => lc_ct (fun j => decide (v d j = x)) (s d)) 48
/-- what the slots hold -/
def lc_hv (ho : lc_A) : Nat → lc_A := fun d j => ho (d + 1 + j)
theorem lc_cn_ext {v w : Nat → lc_A} {x : Int32} (h : ∀ d j, d < 48 → j < s d → v d j = w d j) : lc_cn s v x = lc_cn s w x := by
  refine lc_sm_ext 48 (fun d hd => lc_ct_ext (s d) (fun j hj => ?_))
  rw [h d j hd hj]
theorem lc_cn_upd {v w : Nat → lc_A} {x : Int32} {a b : Nat} (ha : a < 48) (hb : b < s a) (h : ∀ d j, d < 48 → j < s d → ¬ (d = a ∧ j = b) → w d j = v d j) :
    lc_cn s w x + (if v a b = x then 1 else 0) = lc_cn s v x + (if w a b = x then 1 else 0) := by
  have h1 := lc_sm_upd (f := fun d => lc_ct (fun j => decide (v d j = x)) (s d)) (g := fun d => lc_ct (fun j => decide (w d j = x)) (s d)) 48 a ha (fun k hk hn => lc_ct_ext (s k) (fun j hj => by rw [h k j hk hj (fun q => hn q.1)]))
  have h2 := lc_ct_upd (p := fun j => decide (v a j = x)) (q := fun j => decide (w a j = x)) (s a) b hb (fun k hk hn => by rw [h a k ha hk (fun q => hn q.2)])
  simp only [decide_eq_true_eq] at h2
  unfold lc_cn
  omega
theorem lc_cn_le {v : Nat → lc_A} {x : Int32} (h4 : ∀ d, d < 48 → s d ≤ 4) : lc_cn s v x ≤ 192 := by
  have := lc_sm_le (f := fun d => lc_ct (fun j => decide (v d j = x)) (s d)) (b := 4) 48 (fun d hd => Nat.le_trans (lc_ct_le (s d)) (h4 d hd))
  unfold lc_cn
  omega
theorem lc_cn_pos {v : Nat → lc_A} {x : Int32} {d j : Nat} (hd : d < 48) (hj : j < s d) (e : v d j = x) : lc_cn s v x ≠ 0 := by
  intro h
  have h1 := lc_sm_zero 48 h d hd
  have h2 := lc_ct_zero (s d) h1 j hj
  simp [e] at h2
theorem lay_4 (h : lc_Lay s nu fo md) {d : Nat} (hd : d < 48) : s d ≤ 4 := by
  by_cases hs : 0 < s d
  · exact (h.1 d hd hs).1
  · omega
/-- the words: an object's first is its count w, the others are what it holds -/
def lc_CW (s : Nat → Nat) (nu fw ho : lc_A) (w : Int32 → Int32) : Prop := ∀ c, c < 48 → 0 < s c → fw c = w (nu c) ∧ ∀ k, k < s c → fw (c + 1 + k) = ho (c + 1 + k)
theorem lc_CW.to {w w' : Int32 → Int32} (h : lc_CW s nu fw ho w) (e : ∀ c, c < 48 → 0 < s c → w (nu c) = w' (nu c)) : lc_CW s nu fw ho w' := fun c hc hs => ⟨(h c hc hs).1.trans (e c hc hs), (h c hc hs).2⟩
theorem cw_add (h : lc_Lay s nu fo md) {w : Int32 → Int32} (hw : lc_CW s nu fw ho w) (x d : Int32) : lc_CW s nu (lc_add fo fw x d) ho (fun z => if z = x then w z + d else w z) := by
  by_cases e : lc_al s nu x
  · obtain ⟨a, ha, hsa, rfl⟩ := e
    intro c hc hs
    obtain ⟨h1, h2⟩ := hw c hc hs
    unfold lc_add
    rw [lay_first h ha hsa]
    refine ⟨?_, fun k hk => ?_⟩
    · by_cases ec : c = a
      · subst ec
        simp only [if_true]
        rw [pk_us, h1]
      · show upd fw a (fw a + d) c = if nu c = nu a then w (nu c) + d else w (nu c)
        rw [if_neg (fun q => ec (lay_inj h hc ha hs hsa q)), pk_un ec, h1]
    · have h0 := (h.1 c hc hs).2.2 k hk
      have hne : c + 1 + k ≠ a := fun q => by rw [q] at h0; omega
      rw [← h2 k hk]
      exact pk_un hne
  · intro c hc hs
    obtain ⟨h1, h2⟩ := hw c hc hs
    unfold lc_add
    rw [lay_firstN h e]
    refine ⟨?_, h2⟩
    show fw c = if nu c = x then w (nu c) + d else w (nu c)
    rw [if_neg (fun q => e ⟨c, hc, hs, q⟩)]
    exact h1
theorem lc_m1p1 (x : Int32) : x + (-1) + 1 = x := by
  rw [Int32.add_assoc, show (-1 : Int32) + 1 = 0 by decide, Int32.add_zero]
/-- one entry: its object's slots from what the entry holds to what they hold -/
theorem cw_cc (h : lc_Lay s nu fo md) {v : Nat → lc_A} {B : lc_A} {a : Nat} (ha : a < 48) (hsa : 0 < s a) (hB : ∀ j, j < s a → v a j = B j) (hw : lc_CW s nu fw ho (fun z => nI (lc_cn s v z))) :
    ∀ j, j ≤ s a → lc_CW s nu (lc_cc fo a B fw j) ho (fun z => nI (lc_cn s (fun d i => if d = a ∧ i < j then ho (a + 1 + i) else v d i) z)) := by
  intro j
  induction j with
  | zero =>
    intro _
    refine hw.to (fun c hc hs => ?_)
    simp only [Nat.not_lt_zero, and_false, if_false]
  | succ j ih =>
    intro hj
    have h1 := cw_add h (ih (by omega)) (B j) (-1)
    have e1 : lc_add fo (lc_cc fo a B fw j) (B j) (-1) (a + 1 + j) = ho (a + 1 + j) := (h1 a ha hsa).2 j (by omega)
    have h2 := cw_add h h1 (ho (a + 1 + j)) 1
    simp only [lc_cc]
    rw [e1]
    refine h2.to (fun c hc hs => ?_)
    have hu := lc_cn_upd (s := s) (v := fun d i => if d = a ∧ i < j then ho (a + 1 + i) else v d i) (w := fun d i => if d = a ∧ i < j + 1 then ho (a + 1 + i) else v d i) (x := nu c) (a := a) (b := j) ha (by omega) (fun d i _ _ hn => by
      by_cases ed : d = a
      · by_cases ei : i < j
        · simp only [ed, ei, if_true, true_and]
          rw [if_pos (by omega)]
        · have : ¬ i < j + 1 := fun q => hn ⟨ed, by omega⟩
          simp only [ei, this, and_false, if_false]
      · simp only [ed, false_and, if_false])
    simp only [Nat.lt_irrefl, and_false, if_false, Nat.lt_succ_self, and_self, if_true] at hu
    rw [hB j (by omega)] at hu
    generalize lc_cn s (fun d i => if d = a ∧ i < j then ho (a + 1 + i) else v d i) (nu c) = N at hu ⊢
    generalize lc_cn s (fun d i => if d = a ∧ i < j + 1 then ho (a + 1 + i) else v d i) (nu c) = N' at hu ⊢
    by_cases p1 : nu c = B j
    · by_cases p2 : nu c = ho (a + 1 + j)
      · rw [if_pos p2, if_pos p1, lc_m1p1]
        rw [if_pos p1.symm, if_pos p2.symm] at hu
        congr 1
        omega
      · rw [if_neg p2, if_pos p1]
        rw [if_pos p1.symm, if_neg (fun q => p2 q.symm)] at hu
        rw [show N = N' + 1 by omega]
        exact pk_m1 N'
    · by_cases p2 : nu c = ho (a + 1 + j)
      · rw [if_pos p2, if_neg p1]
        rw [if_neg (fun q => p1 q.symm), if_pos p2.symm] at hu
        rw [nI_1]
        congr 1
        omega
      · rw [if_neg p2, if_neg p1]
        rw [if_neg (fun q => p1 q.symm), if_neg (fun q => p2 q.symm)] at hu
        congr 1
        omega
/-- what the slots held, but for the entries below k, which are brought up to date -/
def lc_od (nu fe ho : lc_A) (M : Nat → lc_A) (len k : Nat) : Nat → lc_A := fun d j => match lc_ff (fun i => decide (fe i = nu d)) len 0 with
  | some i => if i < k then ho (d + 1 + j) else M i j
  | none => ho (d + 1 + j)
theorem cw_cl (h : lc_Lay s nu fo md) {M : Nat → lc_A} (hal : ∀ k, k < len → lc_al s nu (fe k)) (hdis : ∀ j k, j < len → k < len → fe j = fe k → j = k)
    (hw : lc_CW s nu fw ho (fun z => nI (lc_cn s (lc_od nu fe ho M len 0) z))) :
    ∀ k, k ≤ len → lc_CW s nu (lc_cl fo fe M fw k) ho (fun z => nI (lc_cn s (lc_od nu fe ho M len k) z)) := by
  intro k
  induction k with
  | zero => intro _; exact hw
  | succ k ih =>
    intro hk
    obtain ⟨a, ha, hsa, hna⟩ := hal k (by omega)
    have hff : lc_ff (fun i => decide (fe i = nu a)) len 0 = some k := by
      refine lc_ff_some len 0 k (Nat.zero_le _) (by omega) (by simp [hna]) (fun j _ hj => ?_)
      simp only [decide_eq_false_iff_not]
      intro q
      have := hdis j k (by omega) (by omega) (q.trans hna)
      omega
    have h1 := cw_cc h ha hsa (B := M k) (v := lc_od nu fe ho M len k) (fun j _ => by simp only [lc_od, hff, Nat.lt_irrefl, if_false]) (ih (by omega)) (s a) (Nat.le_refl _)
    simp only [lc_cl]
    rw [← hna, lay_first h ha hsa]
    simp only [lc_cco]
    rw [lay_sa h ha hsa]
    refine h1.to (fun c hc hs => congrArg nI (lc_cn_ext (fun d j hd hj => ?_)))
    by_cases ed : d = a
    · subst ed
      rw [if_pos ⟨rfl, hj⟩]
      simp only [lc_od, hff, Nat.lt_succ_self, if_true]
    · rw [if_neg (fun q => ed q.1)]
      cases e : lc_ff (fun i => decide (fe i = nu d)) len 0 with
      | none => simp only [lc_od, e]
      | some i =>
        simp only [lc_od, e]
        obtain ⟨-, q2, q3, -⟩ := lc_ff_spec len 0 i e
        simp only [decide_eq_true_eq] at q3
        have hik : i ≠ k := by
          intro q
          subst q
          exact ed (lay_inj h hd ha (by omega) hsa (q3.symm.trans hna.symm))
        by_cases ei : i < k
        · rw [if_pos ei, if_pos (by omega)]
        · rw [if_neg ei, if_neg (by omega)]
theorem cw_all (h : lc_Lay s nu fo md) {M : Nat → lc_A} (hal : ∀ k, k < len → lc_al s nu (fe k)) (hdis : ∀ j k, j < len → k < len → fe j = fe k → j = k)
    (hw : lc_CW s nu fw ho (fun z => nI (lc_cn s (lc_od nu fe ho M len 0) z))) : lc_CW s nu (lc_cl fo fe M fw len) ho (fun z => nI (lc_cn s (lc_hv ho) z)) := by
  refine (cw_cl h hal hdis hw len (Nat.le_refl _)).to (fun c hc hs => congrArg nI (lc_cn_ext (fun d j _ _ => ?_)))
  cases e : lc_ff (fun i => decide (fe i = nu d)) len 0 with
  | none => simp only [lc_od, e, lc_hv]
  | some i =>
    obtain ⟨-, q2, -, -⟩ := lc_ff_spec len 0 i e
    simp only [lc_od, e, lc_hv]
    rw [if_pos (by omega)]
/-! giving back -/
def lc_Val (s : Nat → Nat) (nu ho : lc_A) : Prop := ∀ c, c < 48 → 0 < s c → ∀ k, k < s c → lc_rf s nu (ho (c + 1 + k))
def lc_Stk (s : Nat → Nat) (nu fp : lc_A) (ht : Nat) : Prop := ht ≤ 8 ∧ ∀ j, j < ht → lc_rf s nu (fp j)
def lc_sub (t s : Nat → Nat) : Prop := (∀ c, t c = s c ∨ t c = 0) ∧ ∀ c, 48 ≤ c → t c = s c
def lc_stuck (t : Nat → Nat) (nu ho fp : lc_A) (ht : Nat) : Prop := ∀ c, c < 48 → 0 < t c → lc_cn t (lc_hv ho) (nu c) ≠ 0 ∨ lc_on fp ht (nu c) = true
def lc_FI (s : Nat → Nat) (nu fo fw ho fp : lc_A) (md ht : Nat) : Prop := lc_Lay s nu fo md ∧ lc_CW s nu fw ho (fun z => nI (lc_cn s (lc_hv ho) z)) ∧ lc_Val s nu ho ∧ lc_Stk s nu fp ht
theorem lc_cn_mono {v : Nat → lc_A} {x : Int32} (h : ∀ c, t c = s c ∨ t c = 0) : lc_cn t v x ≤ lc_cn s v x := by
  refine lc_sm_mono 48 (fun d hd => ?_)
  rcases h d with e | e
  · rw [e]; exact Nat.le_refl _
  · rw [e]; exact Nat.zero_le _
/-- the slots of the one that is given back no longer count -/
theorem cw_gb (h : lc_Lay s nu fo md) {a : Nat} (ha : a < 48) (hsa : 0 < s a) (hw : lc_CW s nu fw ho (fun z => nI (lc_cn s (lc_hv ho) z))) :
    ∀ j, j ≤ s a → lc_CW s nu (lc_gb fo fw a j) ho (fun z => nI (lc_cn s (fun d i => if d = a ∧ i < j then 0 else lc_hv ho d i) z)) := by
  intro j
  induction j with
  | zero =>
    intro _
    refine hw.to (fun c hc hs => ?_)
    simp only [Nat.not_lt_zero, and_false, if_false]
  | succ j ih =>
    intro hj
    have h0 := ih (by omega)
    have e1 : lc_gb fo fw a j (a + 1 + j) = ho (a + 1 + j) := (h0 a ha hsa).2 j (by omega)
    have h2 := cw_add h h0 (ho (a + 1 + j)) (-1)
    simp only [lc_gb]
    rw [e1]
    refine h2.to (fun c hc hs => ?_)
    have hu := lc_cn_upd (s := s) (v := fun d i => if d = a ∧ i < j then 0 else lc_hv ho d i) (w := fun d i => if d = a ∧ i < j + 1 then 0 else lc_hv ho d i) (x := nu c) (a := a) (b := j) ha (by omega) (fun d i _ _ hn => by
      by_cases ed : d = a
      · by_cases ei : i < j
        · simp only [ed, ei, if_true, true_and]
          rw [if_pos (by omega)]
        · have : ¬ i < j + 1 := fun q => hn ⟨ed, by omega⟩
          simp only [ei, this, and_false, if_false]
      · simp only [ed, false_and, if_false])
    simp only [Nat.lt_irrefl, and_false, if_false, Nat.lt_succ_self, and_self, if_true] at hu
    rw [if_neg (show ¬ (0 : Int32) = nu c from fun q => lay_ne0 h hc hs q.symm)] at hu
    generalize lc_cn s (fun d i => if d = a ∧ i < j then 0 else lc_hv ho d i) (nu c) = N at hu ⊢
    generalize lc_cn s (fun d i => if d = a ∧ i < j + 1 then 0 else lc_hv ho d i) (nu c) = N' at hu ⊢
    rw [show lc_hv ho a j = ho (a + 1 + j) from rfl] at hu
    by_cases p2 : nu c = ho (a + 1 + j)
    · rw [if_pos p2]
      rw [if_pos p2.symm] at hu
      rw [show N = N' + 1 by omega]
      exact pk_m1 N'
    · rw [if_neg p2]
      rw [if_neg (fun q => p2 q.symm)] at hu
      congr 1
      omega
theorem up0_pos {a c : Nat} (h : 0 < va_up s a 0 c) : c ≠ a ∧ va_up s a 0 c = s c := by
  by_cases e : c = a
  · subst e; rw [va_up_self] at h; omega
  · exact ⟨e, va_up_ne s 0 e⟩
theorem lay_gb (h : lc_Lay s nu fo md) {a : Nat} (ha : a < 48) (hsa : 0 < s a) : lc_Lay (va_up s a 0) nu (lc_fill fo a (s a + 1) 0) md := by
  obtain ⟨h1, h2, h3, h4, h5, h6⟩ := id h
  refine ⟨fun c hc hs => ?_, fun c hc hs k hk => ?_, fun i hi h0 => ?_, fun c hc hs => ?_, fun c d hc hd hs hsd e => ?_, h6⟩
  · obtain ⟨e1, e2⟩ := up0_pos hs
    rw [e2] at hs ⊢
    obtain ⟨q1, q2, q3⟩ := h1 c hc hs
    refine ⟨q1, q2, fun k hk => ?_⟩
    by_cases e : c + 1 + k = a
    · rw [e, va_up_self]
    · rw [va_up_ne s 0 e]; exact q3 k hk
  · obtain ⟨e1, e2⟩ := up0_pos hs
    rw [e2] at hs hk
    unfold lc_fill
    rw [if_neg, h2 c hc hs k hk]
    intro q
    have ea := h2 a ha hsa (c + k - a) (by omega)
    rw [show a + (c + k - a) = c + k by omega, h2 c hc hs k hk] at ea
    exact e1 (lay_inj h hc ha hs hsa ea)
  · unfold lc_fill at h0
    by_cases q : a ≤ i ∧ i < a + (s a + 1)
    · rw [if_pos q] at h0; exact absurd rfl h0
    · rw [if_neg q] at h0
      obtain ⟨c, c1, c2, c3⟩ := h3 i hi h0
      have : c ≠ a := fun z => q (by subst z; omega)
      exact ⟨c, c1, by rw [va_up_ne s 0 this]; exact c2, by rw [va_up_ne s 0 this]; exact c3⟩
  · obtain ⟨e1, e2⟩ := up0_pos hs
    rw [e2] at hs
    exact h4 c hc hs
  · obtain ⟨e1, e2⟩ := up0_pos hs
    obtain ⟨e3, e4⟩ := up0_pos hsd
    rw [e2] at hs
    rw [e4] at hsd
    exact h5 c d hc hd hs hsd e
theorem lc_cn_up0 {a : Nat} {x : Int32} (hx : x ≠ 0) : lc_cn s (fun d i => if d = a ∧ i < s a then 0 else lc_hv ho d i) x = lc_cn (va_up s a 0) (lc_hv ho) x := by
  refine lc_sm_ext 48 (fun d hd => ?_)
  by_cases e : d = a
  · subst e
    rw [va_up_self]
    show _ = 0
    refine lc_ct_none (s d) (fun j hj => ?_)
    rw [decide_eq_false_iff_not]
    show ¬ (if d = d ∧ j < s d then (0 : Int32) else lc_hv ho d j) = x
    rw [if_pos ⟨rfl, hj⟩]
    exact fun q => hx q.symm
  · rw [va_up_ne s 0 e]
    refine lc_ct_ext (s d) (fun j hj => ?_)
    show decide ((if d = a ∧ j < s a then (0 : Int32) else lc_hv ho d j) = x) = _
    rw [if_neg (fun q => e q.1)]
theorem rf_up0 {a : Nat} {x : Int32} (h : lc_rf s nu x) (hx : x ≠ nu a) : lc_rf (va_up s a 0) nu x := by
  rcases h with h | ⟨c, hc, hs, e⟩
  · exact Or.inl h
  · refine Or.inr ⟨c, hc, ?_, e⟩
    have : c ≠ a := fun q => hx (by rw [← e, q])
    rw [va_up_ne s 0 this]; exact hs
theorem fi_gb (h : lc_FI s nu fo fw ho fp md ht) {a : Nat} (ha : a < 48) (hsa : 0 < s a) (h0 : lc_cn s (lc_hv ho) (nu a) = 0) (hst : lc_on fp ht (nu a) = false) :
    lc_FI (va_up s a 0) nu (lc_fill fo a (s a + 1) 0) (lc_gb fo fw a (s a)) ho fp md ht := by
  obtain ⟨hL, hW, hV, hS⟩ := h
  refine ⟨lay_gb hL ha hsa, fun c hc hs => ?_, fun c hc hs k hk => ?_, hS.1, fun j hj => ?_⟩
  · obtain ⟨e1, e2⟩ := up0_pos hs
    rw [e2] at hs
    obtain ⟨q1, q2⟩ := cw_gb hL ha hsa hW (s a) (Nat.le_refl _) c hc hs
    refine ⟨?_, fun k hk => q2 k (by rw [e2] at hk; exact hk)⟩
    exact q1.trans (congrArg nI (lc_cn_up0 (lay_ne0 hL hc hs)))
  · obtain ⟨e1, e2⟩ := up0_pos hs
    rw [e2] at hs hk
    refine rf_up0 (hV c hc hs k hk) (fun q => ?_)
    exact lc_cn_pos (s := s) (v := lc_hv ho) hc hk q h0
  · refine rf_up0 (hS.2 j hj) (fun q => ?_)
    have := lc_an_nspec ht hst j hj
    simp only [decide_eq_false_iff_not] at this
    exact this q
theorem sub_stuck (hst : lc_stuck t nu ho fp ht) (hsub : lc_sub t s) {a : Nat} (ha : a < 48) (h0 : lc_cn s (lc_hv ho) (nu a) = 0) (hon : lc_on fp ht (nu a) = false) : t a = 0 := by
  by_cases e : 0 < t a
  · rcases hst a ha e with q | q
    · have := lc_cn_mono (v := lc_hv ho) (x := nu a) hsub.1
      omega
    · rw [hon] at q; cases q
  · omega
theorem lc_ct_up0 {a : Nat} (ha : a < 48) (hsa : 0 < s a) : lc_ct (fun c => decide (0 < s c)) 48 = lc_ct (fun c => decide (0 < va_up s a 0 c)) 48 + 1 := by
  have := lc_ct_upd (p := fun c => decide (0 < s c)) (q := fun c => decide (0 < va_up s a 0 c)) 48 a ha (fun k hk hn => by rw [va_up_ne s 0 hn])
  simp only [va_up_self, hsa, decide_true, if_true] at this
  simp at this
  omega
theorem nI_z {n : Nat} (h : n ≤ 192) : nI n = 0 ↔ n = 0 := by
  rw [← nI_0]
  exact nI_eq (by omega) (by omega)
/-- the class gives back one by one: what is left can't be given back, and nothing that can stay was taken -/
theorem class_free : ∀ (f : Nat) (s : Nat → Nat) (fo fw : lc_A), lc_FI s nu fo fw ho fp md ht → lc_ct (fun c => decide (0 < s c)) 48 ≤ f →
    ∃ s' : Nat → Nat, lc_FI s' nu (lc_fr fp ht f fo fw).1 (lc_fr fp ht f fo fw).2.1 ho fp md ht ∧ lc_sub s' s ∧ lc_stuck s' nu ho fp ht ∧
      lc_ct (fun c => decide (0 < s c)) 48 = lc_ct (fun c => decide (0 < s' c)) 48 + (lc_fr fp ht f fo fw).2.2 ∧ ∀ t, lc_sub t s → lc_stuck t nu ho fp ht → ∀ c, c < 48 → 0 < t c → 0 < s' c := by
  intro f
  induction f with
  | zero =>
    intro s fo fw h hf
    have hz := lc_ct_zero 48 (Nat.le_zero.mp hf)
    refine ⟨s, h, ⟨fun c => Or.inl rfl, fun c _ => rfl⟩, fun c hc hs => ?_, rfl, fun t ht' hst c hc hs => ?_⟩
    · have := hz c hc; simp at this; omega
    · rcases ht'.1 c with q | q
      · rw [q] at hs; exact hs
      · omega
  | succ f ih =>
    intro s fo fw h hf
    cases e : lc_un fo fw fp ht with
    | none =>
      simp only [lc_fr, e]
      refine ⟨s, h, ⟨fun c => Or.inl rfl, fun c _ => rfl⟩, fun c hc hs => ?_, rfl, fun t ht' hst c hc hs => ?_⟩
      · have hn := lc_ff_nspec 48 0 e c (Nat.zero_le _) (by omega)
        simp only [lc_isU, lay_isF h.1 hc, hs, decide_true, Bool.true_and, lay_0 h.1 hc hs] at hn
        by_cases q : lc_cn s (lc_hv ho) (nu c) = 0
        · right
          have e2 := (h.2.1 c hc hs).1
          simp only [q] at e2
          rw [e2, nI_0] at hn
          simpa using hn
        · exact Or.inl q
      · rcases ht'.1 c with q | q
        · rw [q] at hs; exact hs
        · omega
    | some a =>
      simp only [lc_fr, e]
      obtain ⟨-, ha, hp, -⟩ := lc_ff_spec 48 0 a e
      have ha : a < 48 := by omega
      simp only [lc_isU, lay_isF h.1 ha, Bool.and_eq_true, decide_eq_true_eq, Bool.not_eq_true'] at hp
      obtain ⟨⟨hsa, hw0⟩, hon⟩ := hp
      rw [lay_0 h.1 ha hsa] at hon
      have h0 : lc_cn s (lc_hv ho) (nu a) = 0 := by
        have e2 := (h.2.1 a ha hsa).1
        rw [hw0] at e2
        exact (nI_z (lc_cn_le (fun d hd => lay_4 h.1 hd))).mp e2.symm
      rw [lay_sa h.1 ha hsa]
      have hc1 := lc_ct_up0 (s := s) ha hsa
      obtain ⟨s', q1, q2, q3, q4, q5⟩ := ih (va_up s a 0) _ _ (fi_gb h ha hsa h0 hon) (by omega)
      refine ⟨s', q1, ⟨fun c => ?_, fun c hc => ?_⟩, q3, by omega, fun t ht' hst c hc hs => ?_⟩
      · rcases q2.1 c with z | z
        · by_cases ec : c = a
          · subst ec; rw [va_up_self] at z; exact Or.inr z
          · rw [va_up_ne s 0 ec] at z; exact Or.inl z
        · exact Or.inr z
      · rw [q2.2 c hc, va_up_ne s 0 (by omega)]
      · have hta := sub_stuck hst ht' ha h0 hon
        refine q5 t ⟨fun d => ?_, fun d hd => ?_⟩ hst c hc hs
        · by_cases ed : d = a
          · subst ed; exact Or.inr hta
          · rw [va_up_ne s 0 ed]; exact ht'.1 d
        · rw [ht'.2 d hd, va_up_ne s 0 (by omega)]
theorem lm_rc_cn {c : Nat} (hs : 0 < s c) : lm_rc s nu ho c = nI (lc_cn s (lc_hv ho) (nu c)) := by
  unfold lm_rc
  rw [if_pos hs]
  rfl
/-- the reference gives back in rounds: the same two things -/
theorem model_free : ∀ (f : Nat) (s : Nat → Nat) (co : lc_A) (nt : Nat → Bool), (∀ d, d < 48 → s d ≤ 4) → lc_ct (fun c => decide (0 < s c)) 48 < f →
    lc_sub (lm_st nu ho fp ht f s co nt).1 s ∧ lc_stuck (lm_st nu ho fp ht f s co nt).1 nu ho fp ht ∧ (∀ c, c < 48 → (lm_st nu ho fp ht f s co nt).2.2 c = false) ∧
      (∀ c, c < 48 → 0 < (lm_st nu ho fp ht f s co nt).1 c → (lm_st nu ho fp ht f s co nt).2.1 c = nI (lc_cn (lm_st nu ho fp ht f s co nt).1 (lc_hv ho) (nu c))) ∧
      ∀ t, lc_sub t s → lc_stuck t nu ho fp ht → ∀ c, c < 48 → 0 < t c → 0 < (lm_st nu ho fp ht f s co nt).1 c := by
  intro f
  induction f with
  | zero => intro s co nt _ h; omega
  | succ f ih =>
    intro s co nt h4 hf
    generalize hco : lm_mix 48 (lm_rc s nu ho) co = co1
    generalize hnt : lm_mixB 48 nt = nt1
    generalize hp : lm_fr s co1 nu fp ht = p
    have hst : lm_st nu ho fp ht (f + 1) s co nt = if lc_ct p 48 = 0 then (lm_cut p s 48, co1, nt1) else lm_st nu ho fp ht f (lm_cut p s 48) co1 nt1 := by
      simp only [lm_st, hco, hnt, hp]
    have hp1 : ∀ c, c < 48 → (p c = true ↔ 0 < s c ∧ lc_cn s (lc_hv ho) (nu c) = 0 ∧ lc_on fp ht (nu c) = false) := by
      intro c hc
      rw [← hp]
      simp only [lm_fr, Bool.and_eq_true, decide_eq_true_eq, Bool.not_eq_true']
      constructor
      · rintro ⟨⟨a1, a2⟩, a3⟩
        refine ⟨a1, ?_, a3⟩
        rw [← hco] at a2
        simp only [lm_mix, if_pos hc] at a2
        rw [lm_rc_cn a1] at a2
        exact (nI_z (lc_cn_le h4)).mp a2
      · rintro ⟨a1, a2, a3⟩
        refine ⟨⟨a1, ?_⟩, a3⟩
        rw [← hco]
        simp only [lm_mix, if_pos hc]
        rw [lm_rc_cn a1, a2, nI_0]
    have hcut : lc_sub (lm_cut p s 48) s := by
      refine ⟨fun c => ?_, fun c hc => ?_⟩
      · unfold lm_cut
        split
        · exact Or.inr rfl
        · exact Or.inl rfl
      · unfold lm_cut
        rw [if_neg (by omega)]
    have hmax : ∀ t, lc_sub t s → lc_stuck t nu ho fp ht → lc_sub t (lm_cut p s 48) := by
      intro t ht' hstk
      refine ⟨fun c => ?_, fun c hc => ?_⟩
      · unfold lm_cut
        by_cases q : c < 48 ∧ p c = true
        · rw [if_pos q]
          obtain ⟨b1, b2, b3⟩ := (hp1 c q.1).mp q.2
          exact Or.inr (sub_stuck hstk ht' q.1 b2 b3)
        · rw [if_neg q]; exact ht'.1 c
      · rw [ht'.2 c hc, hcut.2 c hc]
    rw [hst]
    by_cases e : lc_ct p 48 = 0
    · rw [if_pos e]
      have hz := lc_ct_zero 48 e
      have hs : lm_cut p s 48 = s := by
        funext c
        unfold lm_cut
        by_cases hc : c < 48
        · rw [if_neg (by rw [hz c hc]; simp)]
        · rw [if_neg (by omega)]
      simp only [hs]
      refine ⟨⟨fun c => Or.inl rfl, fun c _ => rfl⟩, fun c hc hsc => ?_, fun c hc => ?_, fun c hc hsc => ?_, fun t ht' hstk c hc hsc => ?_⟩
      · by_cases q : lc_cn s (lc_hv ho) (nu c) = 0
        · right
          cases e3 : lc_on fp ht (nu c) with
          | true => rfl
          | false =>
            have := (hp1 c hc).mpr ⟨hsc, q, e3⟩
            rw [hz c hc] at this
            cases this
        · exact Or.inl q
      · rw [← hnt]
        simp only [lm_mixB, if_pos hc]
      · rw [← hco]
        simp only [lm_mix, if_pos hc]
        exact lm_rc_cn hsc
      · rcases ht'.1 c with q | q
        · rw [q] at hsc; exact hsc
        · omega
    · rw [if_neg e]
      have hal : lc_ct (fun c => decide (0 < s c)) 48 = lc_ct (fun c => decide (0 < lm_cut p s 48 c)) 48 + lc_ct p 48 := by
        rw [lc_ct_cutp (q := p) 48 (fun c hc q => by simp only [decide_eq_true_eq]; exact ((hp1 c hc).mp q).1)]
        refine congrArg (· + lc_ct p 48) (lc_ct_ext 48 (fun c hc => ?_))
        unfold lm_cut
        cases e3 : p c with
        | true => simp [hc]
        | false => simp
      obtain ⟨q1, q2, q3, q4, q5⟩ := ih (lm_cut p s 48) co1 nt1 (fun d hd => (hcut.1 d).elim (fun z => by rw [z]; exact h4 d hd) (fun z => by rw [z]; exact Nat.zero_le _)) (by omega)
      refine ⟨⟨fun c => ?_, fun c hc => by rw [q1.2 c hc, hcut.2 c hc]⟩, q2, q3, q4, fun t ht' hstk => q5 t (hmax t ht' hstk) hstk⟩
      rcases q1.1 c with z | z
      · rw [z]; exact hcut.1 c
      · exact Or.inr z
theorem sub_eq {u : Nat → Nat} (h1 : lc_sub t s) (h2 : lc_sub u s) (h3 : ∀ c, c < 48 → 0 < t c → 0 < u c) (h4 : ∀ c, c < 48 → 0 < u c → 0 < t c) : t = u := by
  funext c
  by_cases hc : c < 48
  · rcases h1.1 c with a | a <;> rcases h2.1 c with b | b
    · rw [a, b]
    · by_cases z : 0 < t c
      · have := h3 c hc z; omega
      · omega
    · by_cases z : 0 < u c
      · have := h4 c hc z; omega
      · omega
    · rw [a, b]
  · rw [h1.2 c (by omega), h2.2 c (by omega)]
end RECKON
