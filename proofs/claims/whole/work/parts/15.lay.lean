section LAY
variable {s : Nat → Nat} {nu fo fw ho fp : lc_A} {md ht : Nat}
/-! the layout: an object stands at its first cell c, 0 < s c its slots; nu its number; fo the cells' owners -/
def lc_al (s : Nat → Nat) (nu : lc_A) (x : Int32) : Prop := ∃ c, c < 48 ∧ 0 < s c ∧ nu c = x
def lc_rf (s : Nat → Nat) (nu : lc_A) (x : Int32) : Prop := x = 0 ∨ lc_al s nu x
def lc_Lay (s : Nat → Nat) (nu fo : lc_A) (md : Nat) : Prop :=
  (∀ c, c < 48 → 0 < s c → s c ≤ 4 ∧ c + s c < 48 ∧ ∀ k, k < s c → s (c + 1 + k) = 0) ∧
  (∀ c, c < 48 → 0 < s c → ∀ k, k ≤ s c → fo (c + k) = nu c) ∧
  (∀ i, i < 48 → fo i ≠ 0 → ∃ c, c ≤ i ∧ 0 < s c ∧ i ≤ c + s c) ∧
  (∀ c, c < 48 → 0 < s c → ∃ n, 1 ≤ n ∧ n ≤ md ∧ nu c = nI n) ∧
  (∀ c d, c < 48 → d < 48 → 0 < s c → 0 < s d → nu c = nu d → c = d) ∧ md ≤ 512
theorem lay_ne0 (h : lc_Lay s nu fo md) {c : Nat} (hc : c < 48) (hs : 0 < s c) : nu c ≠ 0 := by
  obtain ⟨-, -, -, h4, -, hm⟩ := h
  obtain ⟨n, h1, h2, h3⟩ := h4 c hc hs
  rw [h3]
  exact nI_ne0 (by omega) (by omega)
theorem lay_0 (h : lc_Lay s nu fo md) {c : Nat} (hc : c < 48) (hs : 0 < s c) : fo c = nu c := by
  have := h.2.1 c hc hs 0 (Nat.zero_le _)
  simpa using this
theorem lay_inj (h : lc_Lay s nu fo md) {c d : Nat} (hc : c < 48) (hd : d < 48) (hs : 0 < s c) (hsd : 0 < s d) (e : nu c = nu d) : c = d := h.2.2.2.2.1 c d hc hd hs hsd e
theorem lay_own (h : lc_Lay s nu fo md) {i : Nat} (hi : i < 48) (h0 : fo i ≠ 0) : ∃ c, c ≤ i ∧ c < 48 ∧ 0 < s c ∧ i ≤ c + s c ∧ fo i = nu c := by
  obtain ⟨-, h2, h3, -, -⟩ := h
  obtain ⟨c, a, b, d⟩ := h3 i hi h0
  refine ⟨c, a, by omega, b, d, ?_⟩
  have := h2 c (by omega) b (i - c) (by omega)
  rwa [show c + (i - c) = i by omega] at this
theorem lay_first (h : lc_Lay s nu fo md) {c : Nat} (hc : c < 48) (hs : 0 < s c) : lc_first fo (nu c) = some c := by
  have hne := lay_ne0 h hc hs
  unfold lc_first
  rw [if_neg hne]
  refine lc_ff_some 48 0 c (Nat.zero_le _) (by omega) ?_ ?_
  · simp only [decide_eq_true_eq]
    exact lay_0 h hc hs
  · intro j _ hj
    simp only [decide_eq_false_iff_not]
    intro e
    obtain ⟨d, a1, a2, a3, a4, a5⟩ := lay_own h (i := j) (by omega) (by rw [e]; exact hne)
    have := lay_inj h a2 hc a3 hs (a5.symm.trans e)
    omega
theorem lay_firstN (h : lc_Lay s nu fo md) {x : Int32} (hno : ¬ lc_al s nu x) : lc_first fo x = none := by
  unfold lc_first
  by_cases e : x = 0
  · rw [if_pos e]
  · rw [if_neg e]
    refine lc_ff_none 48 0 ?_
    intro k _ hk
    simp only [decide_eq_false_iff_not]
    intro e2
    obtain ⟨d, a1, a2, a3, a4, a5⟩ := lay_own h (i := k) (by omega) (by rw [e2]; exact e)
    exact hno ⟨d, a2, a3, a5.symm.trans e2⟩
theorem lay_fnd (h : lc_Lay s nu fo md) {c : Nat} (hc : c < 48) (hs : 0 < s c) : lm_find nu s (nu c) = some c := by
  unfold lm_find
  refine lc_lf_some 48 c hc (by simp [hs]) ?_
  intro j hj e
  simp only [Bool.and_eq_true, decide_eq_true_eq] at e
  exact lay_inj h hj hc e.1 hs e.2
theorem lay_fndN {x : Int32} (hno : ¬ lc_al s nu x) : lm_find nu s x = none := by
  unfold lm_find
  refine lc_lf_none 48 ?_
  intro k hk
  cases e : (decide (0 < s k) && decide (nu k = x)) with
  | false => rfl
  | true =>
    simp only [Bool.and_eq_true, decide_eq_true_eq] at e
    exact absurd ⟨k, hk, e.1, e.2⟩ hno
theorem lay_find (h : lc_Lay s nu fo md) (x : Int32) : lc_first fo x = lm_find nu s x := by
  by_cases e : lc_al s nu x
  · obtain ⟨c, hc, hs, rfl⟩ := e
    rw [lay_first h hc hs, lay_fnd h hc hs]
  · rw [lay_firstN h e, lay_fndN e]
theorem lay_fspec (h : lc_Lay s nu fo md) {x : Int32} {c : Nat} (e : lm_find nu s x = some c) : c < 48 ∧ 0 < s c ∧ nu c = x := by
  by_cases e2 : lc_al s nu x
  · obtain ⟨d, hc, hs, rfl⟩ := e2
    rw [lay_fnd h hc hs] at e
    cases e
    exact ⟨hc, hs, rfl⟩
  · rw [lay_fndN e2] at e
    cases e
theorem lay_sa (h : lc_Lay s nu fo md) {c : Nat} (hc : c < 48) (hs : 0 < s c) : lc_sa fo c = s c := by
  obtain ⟨a1, a2, a3⟩ := h.1 c hc hs
  have e0 := lay_0 h hc hs
  unfold lc_sa
  refine lc_rn_eq (47 - c) (c + 1) (s c) (by omega) ?_ ?_
  · intro k hk
    have e1 := h.2.1 c hc hs (k + 1) (by omega)
    simp only [decide_eq_true_eq]
    rw [show c + 1 + k = c + (k + 1) by omega, e1, e0]
  · by_cases e : s c = 47 - c
    · exact Or.inl e
    · right
      simp only [decide_eq_false_iff_not]
      intro q
      rw [e0] at q
      obtain ⟨d, b1, b2, b3, b4, b5⟩ := lay_own h (i := c + 1 + s c) (by omega) (by rw [q]; exact lay_ne0 h hc hs)
      have := lay_inj h b2 hc b3 hs (b5.symm.trans q)
      subst this
      omega
theorem lay_isF (h : lc_Lay s nu fo md) {i : Nat} (hi : i < 48) : lc_isF fo i = decide (0 < s i) := by
  by_cases hs : 0 < s i
  · have e0 := lay_0 h hi hs
    have hne := lay_ne0 h hi hs
    have hp : i = 0 ∨ fo (i - 1) ≠ fo i := by
      by_cases e : i = 0
      · exact Or.inl e
      · right
        intro q
        rw [e0] at q
        obtain ⟨d, b1, b2, b3, b4, b5⟩ := lay_own h (i := i - 1) (by omega) (by rw [q]; exact hne)
        have := lay_inj h b2 hi b3 hs (b5.symm.trans q)
        omega
    have : lc_isF fo i = true := by
      simp only [lc_isF, Bool.and_eq_true, Bool.or_eq_true, decide_eq_true_eq]
      exact ⟨by rw [e0]; exact hne, hp⟩
    rw [this]
    simp [hs]
  · have : lc_isF fo i = false := by
      cases e : lc_isF fo i with
      | false => rfl
      | true =>
        exfalso
        simp only [lc_isF, Bool.and_eq_true, Bool.or_eq_true, decide_eq_true_eq] at e
        obtain ⟨d, b1, b2, b3, b4, b5⟩ := lay_own h hi e.1
        have hdi : d ≠ i := fun q => hs (q ▸ b3)
        rcases e.2 with q | q
        · omega
        · apply q
          have e1 := h.2.1 d b2 b3 (i - 1 - d) (by omega)
          rw [show d + (i - 1 - d) = i - 1 by omega] at e1
          rw [e1, b5]
    rw [this]
    simp [hs]
/-- c stands between two objects -/
def lc_bd (s : Nat → Nat) (c : Nat) : Prop := ∀ d, d < c → 0 < s d → d + s d < c
theorem lay_free (h : lc_Lay s nu fo md) {c : Nat} (hc : c < 48) (hb : lc_bd s c) (h0 : s c = 0) : fo c = 0 := by
  by_cases e : fo c = 0
  · exact e
  · obtain ⟨d, b1, b2, b3, b4, b5⟩ := lay_own h hc e
    have hdc : d ≠ c := fun q => by rw [q] at b3; omega
    have := hb d (by omega) b3
    omega
theorem lay_bd1 {c : Nat} (hb : lc_bd s c) (h0 : s c = 0) : lc_bd s (c + 1) := by
  intro d hd hs
  by_cases e : d = c
  · subst e; omega
  · have := hb d (by omega) hs
    omega
theorem lay_bd2 (h : lc_Lay s nu fo md) {c : Nat} (hc : c < 48) (hb : lc_bd s c) (hs : 0 < s c) : lc_bd s (c + s c + 1) := by
  intro d hd hs2
  obtain ⟨-, a2, a3⟩ := h.1 c hc hs
  rcases Nat.lt_trichotomy d c with e | e | e
  · have := hb d e hs2
    omega
  · subst e; omega
  · have := a3 (d - c - 1) (by omega)
    rw [show c + 1 + (d - c - 1) = d by omega] at this
    omega
theorem lc_rm_skip {n : Nat} (hn : 0 < n) : ∀ (m f c : Nat), (∀ k, k < m → fo (c + k) ≠ 0) → lc_rm fo n (f + m) c 0 = lc_rm fo n f (c + m) 0 := by
  intro m
  induction m with
  | zero => intro f c _; rfl
  | succ m ih =>
    intro f c h
    have h0 : fo c ≠ 0 := by simpa using h 0 (by omega)
    rw [show f + (m + 1) = (f + m) + 1 by omega]
    simp only [lc_rm, if_neg h0]
    rw [if_neg (by omega), ih f (c + 1) (fun k hk => by have := h (k + 1) (by omega); rwa [show c + (k + 1) = c + 1 + k by omega] at this)]
    rw [show c + 1 + m = c + (m + 1) by omega]
theorem lay_rm (h : lc_Lay s nu fo md) {n : Nat} (hn : 0 < n) : ∀ (d c f run : Nat), c + d = 48 → d < f → run < n → lc_bd s c → lc_rm fo n d c run = lm_rm s n f c run := by
  intro d
  induction d using Nat.strongRecOn with
  | ind d ih =>
    intro c f run hcd hf hr hb
    cases f with
    | zero => omega
    | succ f =>
      cases d with
      | zero =>
        simp only [lc_rm, lm_rm]
        rw [if_neg (by omega)]
      | succ d =>
        have hc : c < 48 := by omega
        by_cases hs : 0 < s c
        · obtain ⟨-, a2, -⟩ := h.1 c hc hs
          have h0 : fo c ≠ 0 := by rw [lay_0 h hc hs]; exact lay_ne0 h hc hs
          simp only [lc_rm, lm_rm, if_neg h0, if_pos hc, if_pos hs]
          rw [if_neg (by omega)]
          rw [show d = (d - s c) + s c by omega, lc_rm_skip hn (s c) (d - s c) (c + 1) (fun k hk => ?_)]
          · rw [show c + 1 + s c = c + s c + 1 by omega]
            exact ih (d - s c) (by omega) (c + s c + 1) f 0 (by omega) (by omega) hn (lay_bd2 h hc hb hs)
          · have := h.2.1 c hc hs (k + 1) (by omega)
            rw [show c + 1 + k = c + (k + 1) by omega, this]
            exact lay_ne0 h hc hs
        · have hs0 : s c = 0 := by omega
          have h0 : fo c = 0 := lay_free h hc hb hs0
          simp only [lc_rm, lm_rm, if_pos h0, if_pos hc, if_neg hs]
          by_cases e : run + 1 = n
          · rw [if_pos e, if_pos e]
          · rw [if_neg e, if_neg e]
            exact ih d (by omega) (c + 1) f (run + 1) (by omega) (by omega) (by omega) (lay_bd1 hb hs0)
theorem lay_room (h : lc_Lay s nu fo md) {n : Nat} (hn : 0 < n) : lc_room fo n = lm_room s n := lay_rm h hn 48 0 49 0 rfl (by omega) hn (fun d hd => by omega)
/-- a room is free -/
theorem lc_rm_spec {n : Nat} (hn : 0 < n) : ∀ (f i run a : Nat), run ≤ i → (∀ k, i - run ≤ k → k < i → fo k = 0) → run < n → lc_rm fo n f i run = some a → a + n ≤ i + f ∧ ∀ k, a ≤ k → k < a + n → fo k = 0 := by
  intro f
  induction f with
  | zero => intro i run a _ _ _ h; simp [lc_rm] at h
  | succ f ih =>
    intro i run a h1 h2 h3 h
    by_cases e : fo i = 0
    · simp only [lc_rm, if_pos e] at h
      by_cases e2 : run + 1 = n
      · rw [if_pos e2] at h
        cases h
        refine ⟨by omega, fun k a b => ?_⟩
        by_cases ek : k = i
        · subst ek; exact e
        · exact h2 k (by omega) (by omega)
      · rw [if_neg e2] at h
        have := ih (i + 1) (run + 1) a (by omega) (fun k a b => by
          by_cases ek : k = i
          · subst ek; exact e
          · exact h2 k (by omega) (by omega)) (by omega) h
        exact ⟨by omega, this.2⟩
    · simp only [lc_rm, if_neg e] at h
      rw [if_neg (by omega)] at h
      have := ih (i + 1) 0 a (by omega) (fun k a b => by omega) hn h
      exact ⟨by omega, this.2⟩
theorem lc_room_spec {n a : Nat} (hn : 0 < n) (h : lc_room fo n = some a) : a + n ≤ 48 ∧ ∀ k, a ≤ k → k < a + n → fo k = 0 := by
  have := lc_rm_spec hn 48 0 0 a (by omega) (fun k a b => by omega) hn h
  simpa using this
theorem lc_ct_skip {p : Nat → Bool} (c : Nat) : ∀ (m : Nat), (∀ k, k < m → p (c + k) = false) → lc_ct p (c + m) = lc_ct p c := by
  intro m
  induction m with
  | zero => intro _; rfl
  | succ m ih =>
    intro h
    rw [show c + (m + 1) = (c + m) + 1 by omega]
    simp [lc_ct, h m (by omega), ih (fun k hk => h k (by omega))]
theorem lc_sm_skip {f : Nat → Nat} (c : Nat) : ∀ (m : Nat), (∀ k, k < m → f (c + k) = 0) → lc_sm f (c + m) = lc_sm f c := by
  intro m
  induction m with
  | zero => intro _; rfl
  | succ m ih =>
    intro h
    rw [show c + (m + 1) = (c + m) + 1 by omega]
    simp [lc_sm, h m (by omega), ih (fun k hk => h k (by omega))]
theorem lay_freeN (h : lc_Lay s nu fo md) : ∀ (d c : Nat), c + d = 48 → lc_bd s c → lc_ct (fun i => decide (fo i = 0)) c + lc_sm (lc_wt s) c = c → lc_ct (fun i => decide (fo i = 0)) 48 + lc_sm (lc_wt s) 48 = 48 := by
  intro d
  induction d using Nat.strongRecOn with
  | ind d ih =>
    intro c hcd hb hq
    cases d with
    | zero =>
      have : c = 48 := by omega
      subst this
      exact hq
    | succ d =>
      have hc : c < 48 := by omega
      by_cases hs : 0 < s c
      · obtain ⟨-, a2, a3⟩ := h.1 c hc hs
        refine ih (d - s c) (by omega) (c + s c + 1) (by omega) (lay_bd2 h hc hb hs) ?_
        rw [show c + s c + 1 = c + (s c + 1) by omega]
        rw [lc_ct_skip c (s c + 1) (fun k hk => by
          simp only [decide_eq_false_iff_not]
          rw [h.2.1 c hc hs k (by omega)]
          exact lay_ne0 h hc hs)]
        rw [show c + (s c + 1) = (c + 1) + s c by omega, lc_sm_skip (c + 1) (s c) (fun k hk => by simp [lc_wt, a3 k hk])]
        simp only [lc_sm, lc_wt, if_pos hs]
        omega
      · have hs0 : s c = 0 := by omega
        have h0 : fo c = 0 := lay_free h hc hb hs0
        refine ih d (by omega) (c + 1) (by omega) (lay_bd1 hb hs0) ?_
        simp only [lc_ct, lc_sm, lc_wt, if_neg hs, h0, decide_true, if_true]
        omega
theorem lay_cells (h : lc_Lay s nu fo md) : lc_ct (fun i => decide (fo i = 0)) 48 + lc_sm (lc_wt s) 48 = 48 := lay_freeN h 48 0 rfl (fun d hd => by omega) rfl
end LAY
