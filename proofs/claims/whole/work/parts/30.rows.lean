section ROWS
variable {p : Program} {l : Launch} {e : Env} {R : Room} {s : State} {m : MethodId} {args : Array Value} {below : List Frame} {meth : Method} {c : Code} {H : Heap} {locs : List Loc} {cells slots : Nat} {Q : State → Prop}
variable {cc : ByteArray} {pc : Nat} {ls : Array Slot} {rest : List Value} {D : va_G} {tys : List (ClassId × FieldType)} {ws : va_W} {a : Nat}
theorem zz_aald (hx : p.tables.exec = Jvm.exec) (hb : c.code = cc) (hK : va_K D classes tys s) (hP : va_P D classes ws H) (q0 t0 : Nat) {cA : ClassId} {ty : FieldType} {k : Nat} {f : Nat → Option Nat} (ha : ws[q0]? = some (a, .inl (cA, k, .inr (.inr (.inr (.inr f)))))) (ht : tys[t0]? = some (cA, .array ty)) {i r : Nat} (hi : i < k) (hk : k < 2 ^ 31) (hr : f i = some r) (hdg : decode cc pc = .ok (.aaload, 1))
    (kk : W p l e R s m args below meth c H locs cells slots Q (F0 m (pc + 1) ls (.ref r :: rest))) : W p l e R s m args below meth c H locs cells slots Q (F0 m pc ls (.int (nI i) :: .ref a :: rest)) := by
  have e1 : (nI i).toNatClampNeg = i := nI_clamp (by omega)
  refine W.aald (v := va_rf (f i)) (ty := .array ty) hx hb (hP q0 _ ha) ((hK.2 t0 _ ht).1 k (fun j => va_rf (f j))) rfl (fun q => by cases q) (by show ¬ (nI i < 0 ∨ (arrV _ _ _).slots.size ≤ _); rw [arrV_size]; exact vp_in_nI hi hk) (by show (arrV _ _ _).slots[_]? = _; rw [e1, arrV_read _ _ hi]) rfl rfl hdg ?_
  rw [hr]
  exact kk
end ROWS
theorem zz_rowget {c0 c1 c2 : Nat × va_E} {cI : ClassId} {rr : Nat → Nat} {M : Nat → lc_A} {k : Nat} (hk : k < 5) : ([c0, c1, c2, (rr 0, .inl (cI, 4, .inl (M 0))), (rr 1, .inl (cI, 4, .inl (M 1))), (rr 2, .inl (cI, 4, .inl (M 2))), (rr 3, .inl (cI, 4, .inl (M 3))), (rr 4, .inl (cI, 4, .inl (M 4)))] : va_W)[3 + k]? = some (rr k, .inl (cI, 4, .inl (M k))) := by
  rcases (show k = 0 ∨ k = 1 ∨ k = 2 ∨ k = 3 ∨ k = 4 by omega) with rfl | rfl | rfl | rfl | rfl <;> rfl
theorem zz_rowset {c0 c1 c2 : Nat × va_E} {cI : ClassId} {rr : Nat → Nat} {M : Nat → lc_A} {g : lc_A} {k : Nat} (hk : k < 5) : ([c0, c1, c2, (rr 0, .inl (cI, 4, .inl (M 0))), (rr 1, .inl (cI, 4, .inl (M 1))), (rr 2, .inl (cI, 4, .inl (M 2))), (rr 3, .inl (cI, 4, .inl (M 3))), (rr 4, .inl (cI, 4, .inl (M 4)))] : va_W).set (3 + k) (rr k, .inl (cI, 4, .inl g)) = [c0, c1, c2, (rr 0, .inl (cI, 4, .inl (va_up M k g 0))), (rr 1, .inl (cI, 4, .inl (va_up M k g 1))), (rr 2, .inl (cI, 4, .inl (va_up M k g 2))), (rr 3, .inl (cI, 4, .inl (va_up M k g 3))), (rr 4, .inl (cI, 4, .inl (va_up M k g 4)))] := by
  rcases (show k = 0 ∨ k = 1 ∨ k = 2 ∨ k = 3 ∨ k = 4 by omega) with rfl | rfl | rfl | rfl | rfl <;> rfl
theorem zz_nt {b : Bool} (h : b = false) : ¬ b = true := by rw [h]; decide
theorem lx_note_fp (fo fw : lc_A) (md : Nat) (fp : lc_A) (ht : Nat) (fe : lc_A) (M : Nat → lc_A) (len : Nat) (rk : Int32) (a : Nat) : (lx_note fo fw md fp ht fe M len rk a).2.2.2.1 = fp := by
  unfold lx_note
  split
  · rfl
  · split <;> rfl
theorem lm_lp_i (nu ho fp : lc_A) (ht f : Nat) (s : Nat → Nat) (co : lc_A) (nt : Nat → Bool) : lm_lp nu ho fp ht f 1 s co nt = lm_st nu ho fp ht f s co nt := by
  unfold lm_lp
  rw [if_neg (by decide)]
