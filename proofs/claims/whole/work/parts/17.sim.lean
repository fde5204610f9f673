section SIM
variable {s : Nat → Nat} {nu fo fw ho fp fe co he : lc_A} {nt : Nat → Bool} {M : Nat → lc_A} {md ht len : Nat}
def lc_Log (s : Nat → Nat) (nu : lc_A) (nt : Nat → Bool) (fe : lc_A) (len : Nat) (M : Nat → lc_A) (he : lc_A) : Prop := len ≤ 5 ∧ (∀ k, k < len → lc_al s nu (fe k)) ∧ (∀ j k, j < len → k < len → fe j = fe k → j = k) ∧ (∀ c, c < 48 → 0 < s c → nt c = lc_on fe len (nu c)) ∧
  (∀ k c, k < len → c < 48 → 0 < s c → nu c = fe k → ∀ j, j < s c → M k j = he (4 * k + j) ∧ lc_rf s nu (M k j))
/-- class and reference agree; what both keep alike (made, stack, the log's objects and length) stands here once -/
def lc_Sim (fo fw : lc_A) (md : Nat) (fp : lc_A) (ht : Nat) (fe : lc_A) (M : Nat → lc_A) (len : Nat) (nu : lc_A) (s : Nat → Nat) (co : lc_A) (nt : Nat → Bool) (ho he : lc_A) : Prop :=
  lc_Lay s nu fo md ∧ lc_CW s nu fw ho (fun z => nI (lc_cn s (lc_od nu fe ho M len 0) z)) ∧ (∀ c, c < 48 → 0 < s c → co c = fw c) ∧ lc_Val s nu ho ∧ lc_Stk s nu fp ht ∧ lc_Log s nu nt fe len M he
/-- at the start -/
theorem sim_0 (fo fw fp fe nu co ho he : lc_A) (M : Nat → lc_A) (nt : Nat → Bool) (h : ∀ i, fo i = 0) : lc_Sim fo fw 0 fp 0 fe M 0 nu (fun _ => 0) co nt ho he := by
  exact ⟨⟨fun c _ hs => absurd hs (Nat.lt_irrefl 0), fun c _ hs => absurd hs (Nat.lt_irrefl 0), fun i _ h0 => absurd (h i) h0, fun c _ hs => absurd hs (Nat.lt_irrefl 0), fun c d _ _ hs => absurd hs (Nat.lt_irrefl 0), by omega⟩, fun c _ hs => absurd hs (Nat.lt_irrefl 0), fun c _ hs => absurd hs (Nat.lt_irrefl 0), fun c _ hs => absurd hs (Nat.lt_irrefl 0), ⟨by omega, fun j hj => by omega⟩, by omega, fun k hk => by omega, fun j k hj => by omega, fun c _ hs => absurd hs (Nat.lt_irrefl 0), fun k c hk => by omega⟩
theorem sim_reckon (h : lc_Sim fo fw md fp ht fe M len nu s co nt ho he) :
    lc_Sim (lc_bu fo fw fp ht fe M len).1 (lc_bu fo fw fp ht fe M len).2.1 md fp ht fe M 0 nu (lm_st nu ho fp ht 50 s co nt).1 (lm_st nu ho fp ht 50 s co nt).2.1 (lm_st nu ho fp ht 50 s co nt).2.2 ho he ∧
    lc_sub (lm_st nu ho fp ht 50 s co nt).1 s ∧ lc_ct (fun c => decide (0 < s c)) 48 = lc_ct (fun c => decide (0 < (lm_st nu ho fp ht 50 s co nt).1 c)) 48 + (lc_bu fo fw fp ht fe M len).2.2 := by
  obtain ⟨hL, hW, hC, hV, hS, hG⟩ := h
  have hFI : lc_FI s nu fo (lc_cl fo fe M fw len) ho fp md ht := ⟨hL, cw_all hL hG.2.1 hG.2.2.1 hW, hV, hS⟩
  obtain ⟨s', q1, q2, q3, q4, q5⟩ := class_free 48 s fo _ hFI (lc_ct_le 48)
  obtain ⟨m1, m2, m3, m4, m5⟩ := model_free (nu := nu) (ho := ho) (fp := fp) (ht := ht) 50 s co nt (fun d hd => lay_4 hL hd) (by have := lc_ct_le (p := fun c => decide (0 < s c)) 48; omega)
  have e : s' = (lm_st nu ho fp ht 50 s co nt).1 := sub_eq q2 m1 (fun c hc z => m5 s' q2 q3 c hc z) (fun c hc z => q5 _ m1 m2 c hc z)
  rw [← e] at m1 m2 m4 m5 ⊢
  refine ⟨⟨q1.1, ?_, ?_, q1.2.2.1, q1.2.2.2, ?_⟩, q2, q4⟩
  · exact q1.2.1
  · intro c hc hs
    rw [m4 c hc hs]
    exact ((q1.2.1 c hc hs).1).symm
  · refine ⟨by omega, fun k hk => by omega, fun j k hj => by omega, fun c hc _ => ?_, fun k c hk => by omega⟩
    rw [m3 c hc]
    rfl
theorem od_rf (h : lc_Sim fo fw md fp ht fe M len nu s co nt ho he) {d j : Nat} (hd : d < 48) (hj : j < s d) : lc_rf s nu (lc_od nu fe ho M len 0 d j) := by
  obtain ⟨hL, hW, hC, hV, hS, hG⟩ := h
  cases e : lc_ff (fun i => decide (fe i = nu d)) len 0 with
  | none => simp only [lc_od, e]; exact hV d hd (by omega) j hj
  | some i =>
    simp only [lc_od, e, Nat.not_lt_zero, if_false]
    obtain ⟨-, a2, a3, -⟩ := lc_ff_spec len 0 i e
    simp only [decide_eq_true_eq] at a3
    exact (hG.2.2.2.2 i d (by omega) hd (by omega) a3.symm j hj).2
theorem al_le (h : lc_Lay s nu fo md) {x : Int32} (hx : lc_rf s nu x) : x ≠ nI (md + 1) := by
  have hm := h.2.2.2.2.2
  rcases hx with rfl | ⟨c, hc, hs, rfl⟩
  · exact fun q => nI_ne0 (n := md + 1) (by omega) (by omega) q.symm
  · obtain ⟨n, a1, a2, a3⟩ := h.2.2.2.1 c hc hs
    rw [a3]
    exact fun q => by have := (nI_eq (by omega) (by omega)).mp q; omega
theorem sim_make (h : lc_Sim fo fw md fp ht fe M len nu s co nt ho he) {a n : Nat} (hn : 1 ≤ n) (hn4 : n ≤ 4) (ha : a + (n + 1) ≤ 48) (hz : ∀ k, a ≤ k → k < a + (n + 1) → fo k = 0) (hmd : md < 512) (hht : ht < 8) :
    lc_Sim (lc_fill fo a (n + 1) (nI (md + 1))) (lc_fill fw a (n + 1) 0) (md + 1) (upd fp ht (nI (md + 1))) (ht + 1) fe M len (upd nu a (nI (md + 1))) (va_up s a n) (upd co a 0) (va_up nt a false) (lc_fill ho (a + 1) n 0) he := by
  have hrf := @od_rf s nu fo fw ho fp fe co he nt M md ht len h
  obtain ⟨hL, hW, hC, hV, hS, hG⟩ := h
  obtain ⟨h1, h2, h3, h4, h5, h6⟩ := id hL
  have F0 : ∀ c, c < 48 → 0 < s c → ∀ k, k ≤ s c → ¬ (a ≤ c + k ∧ c + k < a + (n + 1)) := by
    intro c hc hs k hk q
    have e := h2 c hc hs k hk
    rw [hz _ q.1 q.2] at e
    exact lay_ne0 hL hc hs e.symm
  have F1 : ∀ i, a ≤ i → i < a + (n + 1) → s i = 0 := by
    intro i i1 i2
    by_cases e : 0 < s i
    · exact absurd ⟨by omega, by omega⟩ (F0 i (by omega) e 0 (by omega))
    · omega
  have Fa : ∀ c, 0 < va_up s a n c → c = a ∨ (c ≠ a ∧ 0 < s c ∧ va_up s a n c = s c) := by
    intro c hs
    by_cases e : c = a
    · exact Or.inl e
    · rw [va_up_ne s n e] at hs
      exact Or.inr ⟨e, hs, va_up_ne s n e⟩
  have Fo : ∀ c, c < 48 → 0 < s c → c ≠ a := fun c hc hs q => by
    have := F1 c (by omega) (by omega)
    omega
  have al1 : ∀ x, lc_al s nu x → lc_al (va_up s a n) (upd nu a (nI (md + 1))) x := by
    rintro x ⟨c, hc, hs, e⟩
    have hne := Fo c hc hs
    exact ⟨c, hc, by rw [va_up_ne s n hne]; exact hs, by rw [pk_un hne]; exact e⟩
  have rf1 : ∀ x, lc_rf s nu x → lc_rf (va_up s a n) (upd nu a (nI (md + 1))) x := fun x hx => hx.elim Or.inl (fun q => Or.inr (al1 x q))
  have hnf : ∀ i, i < len → fe i ≠ nI (md + 1) := fun i hi => al_le hL (Or.inr (hG.2.1 i hi))
  have hff : lc_ff (fun i => decide (fe i = nI (md + 1))) len 0 = none := lc_ff_none len 0 (fun k _ hk => by simp only [decide_eq_false_iff_not]; exact hnf k (by omega))
  have hod : ∀ d j, d < 48 → d ≠ a → j < s d → lc_od (upd nu a (nI (md + 1))) fe (lc_fill ho (a + 1) n 0) M len 0 d j = lc_od nu fe ho M len 0 d j := by
    intro d j hd hne hj
    have e1 : lc_fill ho (a + 1) n 0 (d + 1 + j) = ho (d + 1 + j) := by
      unfold lc_fill
      rw [if_neg]
      intro q
      exact F0 d hd (by omega) (j + 1) (by omega) ⟨by omega, by omega⟩
    unfold lc_od
    rw [pk_un hne]
    simp only [e1]
  have hcn : ∀ x, x ≠ 0 → lc_cn (va_up s a n) (lc_od (upd nu a (nI (md + 1))) fe (lc_fill ho (a + 1) n 0) M len 0) x = lc_cn s (lc_od nu fe ho M len 0) x := by
    intro x hx
    refine lc_sm_ext 48 (fun d hd => ?_)
    by_cases e : d = a
    · subst e
      rw [va_up_self, F1 d (by omega) (by omega)]
      show _ = 0
      refine lc_ct_none n (fun j hj => ?_)
      simp only [decide_eq_false_iff_not, lc_od, pk_us, hff, lc_fill]
      rw [if_pos (by omega)]
      exact fun q => hx q.symm
    · rw [va_up_ne s n e]
      refine lc_ct_ext (s d) (fun j hj => ?_)
      rw [hod d j hd e hj]
  have hcn0 : lc_cn s (lc_od nu fe ho M len 0) (nI (md + 1)) = 0 := by
    refine (Nat.le_zero.mp ?_)
    refine Nat.le_trans (lc_sm_le (b := 0) 48 (fun d hd => ?_)) (by omega)
    refine Nat.le_of_eq (lc_ct_none (s d) (fun j hj => ?_))
    simp only [decide_eq_false_iff_not]
    exact al_le hL (hrf hd hj)
  have hne1 : nI (md + 1) ≠ 0 := nI_ne0 (by omega) (by omega)
  refine ⟨⟨fun c hc hs => ?_, fun c hc hs k hk => ?_, fun i hi h0 => ?_, fun c hc hs => ?_, fun c d hc hd hs hsd e => ?_, by omega⟩, fun c hc hs => ?_, fun c hc hs => ?_, fun c hc hs k hk => ?_, ⟨by omega, fun j hj => ?_⟩, hG.1, fun k hk => al1 _ (hG.2.1 k hk), hG.2.2.1, fun c hc hs => ?_, fun k c hk hc hs e j hj => ?_⟩
  · rcases Fa c hs with e | ⟨e, e2, e3⟩
    · subst e
      rw [va_up_self]
      refine ⟨hn4, by omega, fun k hk => ?_⟩
      rw [va_up_ne s n (by omega)]
      exact F1 _ (by omega) (by omega)
    · rw [e3]
      obtain ⟨q1, q2, q3⟩ := h1 c hc e2
      refine ⟨q1, q2, fun k hk => ?_⟩
      have : c + 1 + k ≠ a := fun q => F0 c hc e2 (k + 1) (by omega) ⟨by omega, by omega⟩
      rw [va_up_ne s n this]
      exact q3 k hk
  · rcases Fa c hs with e | ⟨e, e2, e3⟩
    · subst e
      rw [va_up_self] at hk
      unfold lc_fill
      rw [if_pos (by omega), pk_us]
    · rw [e3] at hk
      unfold lc_fill
      rw [if_neg (F0 c hc e2 k hk), pk_un e]
      exact h2 c hc e2 k hk
  · unfold lc_fill at h0
    by_cases q : a ≤ i ∧ i < a + (n + 1)
    · exact ⟨a, q.1, by rw [va_up_self]; omega, by rw [va_up_self]; omega⟩
    · rw [if_neg q] at h0
      obtain ⟨c, c1, c2, c3⟩ := h3 i hi h0
      have hne := Fo c (by omega) c2
      exact ⟨c, c1, by rw [va_up_ne s n hne]; exact c2, by rw [va_up_ne s n hne]; exact c3⟩
  · rcases Fa c hs with e | ⟨e, e2, e3⟩
    · subst e
      exact ⟨md + 1, by omega, by omega, pk_us⟩
    · obtain ⟨k, k1, k2, k3⟩ := h4 c hc e2
      exact ⟨k, k1, by omega, by rw [pk_un e]; exact k3⟩
  · rcases Fa c hs with e1 | ⟨e1, e2, e3⟩ <;> rcases Fa d hsd with f1 | ⟨f1, f2, f3⟩
    · omega
    · subst e1
      rw [pk_us, pk_un f1] at e
      exact absurd e.symm (al_le hL (Or.inr ⟨d, hd, f2, rfl⟩))
    · subst f1
      rw [pk_us, pk_un e1] at e
      exact absurd e (al_le hL (Or.inr ⟨c, hc, e2, rfl⟩))
    · rw [pk_un e1, pk_un f1] at e
      exact h5 c d hc hd e2 f2 e
  · rcases Fa c hs with e | ⟨e, e2, e3⟩
    · subst e
      rw [pk_us]
      refine ⟨?_, fun k hk => ?_⟩
      · show _ = nI (lc_cn _ _ _)
        rw [hcn _ hne1, hcn0, nI_0]
        unfold lc_fill
        rw [if_pos (by omega)]
      · rw [va_up_self] at hk
        unfold lc_fill
        rw [if_pos (by omega), if_pos (by omega)]
    · rw [e3]
      obtain ⟨q1, q2⟩ := hW c hc e2
      rw [pk_un e]
      refine ⟨?_, fun k hk => ?_⟩
      · show _ = nI (lc_cn _ _ _)
        rw [hcn _ (lay_ne0 hL hc e2)]
        refine Eq.trans ?_ q1
        unfold lc_fill
        rw [if_neg]
        intro q
        exact F0 c hc e2 0 (by omega) ⟨by omega, by omega⟩
      · have hno := F0 c hc e2 (k + 1) (by omega)
        unfold lc_fill
        rw [if_neg (by omega), if_neg (by omega)]
        exact q2 k hk
  · rcases Fa c hs with e | ⟨e, e2, e3⟩
    · subst e
      unfold lc_fill
      rw [pk_us, if_pos (by omega)]
    · rw [pk_un e, hC c hc e2]
      unfold lc_fill
      rw [if_neg]
      intro q
      exact F0 c hc e2 0 (by omega) ⟨by omega, by omega⟩
  · rcases Fa c hs with e | ⟨e, e2, e3⟩
    · subst e
      rw [va_up_self] at hk
      refine Or.inl ?_
      unfold lc_fill
      rw [if_pos (by omega)]
    · rw [e3] at hk
      have hno := F0 c hc e2 (k + 1) (by omega)
      unfold lc_fill
      rw [if_neg (by omega)]
      exact rf1 _ (hV c hc e2 k hk)
  · by_cases e : j = ht
    · subst e
      rw [pk_us]
      exact Or.inr ⟨a, by omega, by rw [va_up_self]; omega, pk_us⟩
    · rw [pk_un e]
      exact rf1 _ (hS.2 j (by omega))
  · rcases Fa c hs with e | ⟨e, e2, e3⟩
    · subst e
      rw [va_up_self, pk_us]
      exact (lc_an_false len (fun i hi => by simp only [decide_eq_false_iff_not]; exact hnf i hi)).symm
    · rw [va_up_ne nt false e, pk_un e]
      exact hG.2.2.2.1 c hc e2
  · rcases Fa c hs with e1 | ⟨e1, e2, e3⟩
    · subst e1
      rw [pk_us] at e
      exact absurd e.symm (hnf k hk)
    · rw [e3] at hj
      rw [pk_un e1] at e
      obtain ⟨q1, q2⟩ := hG.2.2.2.2 k c hk hc e2 e j hj
      exact ⟨q1, rf1 _ q2⟩
theorem sim_push (h : lc_Sim fo fw md fp ht fe M len nu s co nt ho he) {x : Int32} (hx : lc_rf s nu x) (hht : ht < 8) : lc_Sim fo fw md (upd fp ht x) (ht + 1) fe M len nu s co nt ho he := by
  obtain ⟨hL, hW, hC, hV, hS, hG⟩ := h
  refine ⟨hL, hW, hC, hV, ⟨by omega, fun j hj => ?_⟩, hG⟩
  by_cases e : j = ht
  · subst e; rw [pk_us]; exact hx
  · rw [pk_un e]; exact hS.2 j (by omega)
theorem sim_pop (h : lc_Sim fo fw md fp (ht + 1) fe M len nu s co nt ho he) : lc_Sim fo fw md fp ht fe M len nu s co nt ho he := by
  obtain ⟨hL, hW, hC, hV, hS, hG⟩ := h
  exact ⟨hL, hW, hC, hV, ⟨by have := hS.1; omega, fun j hj => hS.2 j (by omega)⟩, hG⟩
theorem lc_on_ff {x : Int32} {len : Nat} {fe : lc_A} (h : lc_on fe len x = true) : ∃ k, lc_ff (fun i => decide (fe i = x)) len 0 = some k := by
  cases e : lc_ff (fun i => decide (fe i = x)) len 0 with
  | some k => exact ⟨k, rfl⟩
  | none =>
    obtain ⟨i, hi, h2⟩ := lc_an_spec len h
    have := lc_ff_nspec len 0 e i (Nat.zero_le _) (by omega)
    rw [this] at h2
    cases h2
theorem lc_off_ff {x : Int32} {len : Nat} {fe : lc_A} (h : lc_on fe len x = false) : lc_ff (fun i => decide (fe i = x)) len 0 = none :=
  lc_ff_none len 0 (fun k _ hk => lc_an_nspec len h k (by omega))
/-- a cell of a slot belongs to one object alone -/
theorem lay_slot (h : lc_Lay s nu fo md) {a j c k : Nat} (ha : a < 48) (hsa : 0 < s a) (hj : j < s a) (hc : c < 48) (hs : 0 < s c) (hk : k < s c) (e : c + 1 + k = a + 1 + j) : c = a ∧ k = j := by
  have e1 := h.2.1 a ha hsa (j + 1) (by omega)
  have e2 := h.2.1 c hc hs (k + 1) (by omega)
  rw [show a + (j + 1) = c + (k + 1) by omega, e2] at e1
  have := lay_inj h hc ha hs hsa e1
  omega
theorem sim_set (h : lc_Sim fo fw md fp ht fe M len nu s co nt ho he) {a j : Nat} {x : Int32} (ha : a < 48) (hsa : 0 < s a) (hj : j < s a) (hon : lc_on fe len (nu a) = true) (hx : lc_rf s nu x) :
    lc_Sim fo (upd fw (a + 1 + j) x) md fp ht fe M len nu s co nt (upd ho (a + 1 + j) x) he := by
  obtain ⟨hL, hW, hC, hV, hS, hG⟩ := h
  have hz : s (a + 1 + j) = 0 := (hL.1 a ha hsa).2.2 j hj
  have hne : ∀ c, 0 < s c → c ≠ a + 1 + j := fun c hs q => by rw [q] at hs; omega
  obtain ⟨k0, hk0⟩ := lc_on_ff hon
  have hod : ∀ d i, d < 48 → i < s d → lc_od nu fe (upd ho (a + 1 + j) x) M len 0 d i = lc_od nu fe ho M len 0 d i := by
    intro d i hd hi
    by_cases e : d = a
    · subst e
      simp only [lc_od, hk0, Nat.not_lt_zero, if_false]
    · have : d + 1 + i ≠ a + 1 + j := fun q => e (lay_slot hL ha hsa hj hd (by omega) hi q).1
      unfold lc_od
      rw [pk_un this]
  refine ⟨hL, fun c hc hs => ?_, fun c hc hs => ?_, fun c hc hs k hk => ?_, hS, hG⟩
  · obtain ⟨q1, q2⟩ := hW c hc hs
    refine ⟨?_, fun k hk => ?_⟩
    · rw [pk_un (hne c hs)]
      exact q1.trans (congrArg nI (lc_cn_ext hod).symm)
    · by_cases e : c + 1 + k = a + 1 + j
      · rw [e, pk_us, pk_us]
      · rw [pk_un e, pk_un e]; exact q2 k hk
  · rw [pk_un (hne c hs)]; exact hC c hc hs
  · by_cases e : c + 1 + k = a + 1 + j
    · rw [e, pk_us]; exact hx
    · rw [pk_un e]; exact hV c hc hs k hk
theorem sim_note (h : lc_Sim fo fw md fp ht fe M len nu s co nt ho he) {a : Nat} (ha : a < 48) (hsa : 0 < s a) (hlen : len < 5) (hoff : lc_on fe len (nu a) = false) :
    lc_Sim fo fw md fp ht (upd fe len (nu a)) (va_up M len (lc_nr fw a (M len) (s a))) (len + 1) nu s co (va_up nt a true) ho (lm_nr s ho a len he 4) := by
  obtain ⟨hL, hW, hC, hV, hS, hG⟩ := h
  have hno : ∀ i, i < len → fe i ≠ nu a := fun i hi => by
    have := lc_an_nspec len hoff i hi
    simpa using this
  have ffN : ∀ x, x ≠ nu a → lc_ff (fun i => decide (upd fe len (nu a) i = x)) (len + 1) 0 = lc_ff (fun i => decide (fe i = x)) len 0 := by
    intro x hx
    cases e : lc_ff (fun i => decide (fe i = x)) len 0 with
    | none =>
      refine lc_ff_none (len + 1) 0 (fun k _ hk => ?_)
      simp only [decide_eq_false_iff_not]
      by_cases ek : k = len
      · subst ek; rw [pk_us]; exact fun q => hx q.symm
      · rw [pk_un ek]
        have := lc_ff_nspec len 0 e k (Nat.zero_le _) (by omega)
        simpa using this
    | some i =>
      obtain ⟨-, a2, a3, a4⟩ := lc_ff_spec len 0 i e
      refine lc_ff_some (len + 1) 0 i (Nat.zero_le _) (by omega) ?_ (fun j hj1 hj2 => ?_)
      · simp only [decide_eq_true_eq] at a3 ⊢
        rw [pk_un (by omega)]; exact a3
      · have := a4 j hj1 hj2
        simp only [decide_eq_false_iff_not] at this ⊢
        rw [pk_un (by omega)]; exact this
  have ffA : lc_ff (fun i => decide (upd fe len (nu a) i = nu a)) (len + 1) 0 = some len := by
    refine lc_ff_some (len + 1) 0 len (Nat.zero_le _) (by omega) (by simp [pk_us]) (fun j _ hj => ?_)
    simp only [decide_eq_false_iff_not]
    rw [pk_un (by omega)]
    exact hno j hj
  have onN : ∀ x, x ≠ nu a → lc_on (upd fe len (nu a)) (len + 1) x = lc_on fe len x := by
    intro x hx
    cases e : lc_on fe len x with
    | false =>
      refine lc_an_false (len + 1) (fun i hi => ?_)
      simp only [decide_eq_false_iff_not]
      by_cases ei : i = len
      · subst ei; rw [pk_us]; exact fun q => hx q.symm
      · rw [pk_un ei]
        have := lc_an_nspec len e i (by omega)
        simpa using this
    | true =>
      obtain ⟨i, hi, h2⟩ := lc_an_spec len e
      refine lc_an_true (len + 1) i (by omega) ?_
      simp only [decide_eq_true_eq] at h2 ⊢
      rw [pk_un (by omega)]; exact h2
  have hod : ∀ d j, d < 48 → j < s d → lc_od nu (upd fe len (nu a)) ho (va_up M len (lc_nr fw a (M len) (s a))) (len + 1) 0 d j = lc_od nu fe ho M len 0 d j := by
    intro d j hd hj
    by_cases e : d = a
    · subst e
      simp only [lc_od, ffA, lc_off_ff hoff, Nat.not_lt_zero, if_false, va_up_self, lc_nr, if_pos hj]
      exact (hW d hd (by omega)).2 j hj
    · have hne : nu d ≠ nu a := fun q => e (lay_inj hL hd ha (by omega) hsa q)
      unfold lc_od
      rw [ffN _ hne]
      cases e2 : lc_ff (fun i => decide (fe i = nu d)) len 0 with
      | none => rfl
      | some i =>
        obtain ⟨-, a2, -, -⟩ := lc_ff_spec len 0 i e2
        simp only [Nat.not_lt_zero, if_false]
        rw [va_up_ne M _ (by omega)]
  refine ⟨hL, ?_, hC, hV, hS, by omega, fun k hk => ?_, fun j k hj hk e => ?_, fun c hc hs => ?_, fun k c hk hc hs e j hj => ?_⟩
  · exact hW.to (fun c hc hs => congrArg nI (lc_cn_ext hod).symm)
  · by_cases e : k = len
    · subst e; rw [pk_us]; exact ⟨a, ha, hsa, rfl⟩
    · rw [pk_un e]; exact hG.2.1 k (by omega)
  · by_cases e1 : j = len <;> by_cases e2 : k = len
    · omega
    · subst e1
      rw [pk_us, pk_un e2] at e
      exact absurd e.symm (hno k (by omega))
    · subst e2
      rw [pk_us, pk_un e1] at e
      exact absurd e (hno j (by omega))
    · rw [pk_un e1, pk_un e2] at e
      exact hG.2.2.1 j k (by omega) (by omega) e
  · by_cases e : c = a
    · subst e
      rw [va_up_self]
      exact (lc_an_true (len + 1) len (by omega) (by simp [pk_us])).symm
    · have hne : nu c ≠ nu a := fun q => e (lay_inj hL hc ha hs hsa q)
      rw [va_up_ne nt true e, onN _ hne]
      exact hG.2.2.2.1 c hc hs
  · by_cases e1 : k = len
    · subst e1
      rw [pk_us] at e
      have : c = a := lay_inj hL hc ha hs hsa e
      subst this
      have h4 := (hL.1 c hc hs).1
      have hw := (hW c hc hs).2 j hj
      rw [va_up_self]
      simp only [lc_nr, lm_nr, if_pos hj]
      rw [if_pos (by omega), show 4 * k + j - 4 * k = j by omega, if_pos hj, hw]
      exact ⟨rfl, hV c hc hs j hj⟩
    · rw [pk_un e1] at e
      obtain ⟨q1, q2⟩ := hG.2.2.2.2 k c (by omega) hc hs e j hj
      have h4 := (hL.1 c hc hs).1
      rw [va_up_ne M _ e1]
      refine ⟨?_, q2⟩
      rw [q1]
      unfold lm_nr
      rw [if_neg (by omega)]
end SIM
