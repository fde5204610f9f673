section MNA
variable {p : Program} {l : Launch} {e : Env} {R : Room} {s : State} {m : MethodId} {args : Array Value} {below : List Frame} {meth : Method} {c : Code} {H : Heap} {locs : List Loc} {cells slots : Nat} {Q : State → Prop}
variable {cc : ByteArray} {pc : Nat} {ls : Array Slot} {rest : List Value} {D : va_G} {A : Nat → Prop} {tys : List (ClassId × FieldType)} {ws : va_W} {own : String} {index : Nat}
theorem zz_mna54 (hx : p.tables.exec = Jvm.exec) (hb : c.code = cc) (hown : s.vm.findClass own = some m.cls) (hts : ∀ w ∈ zz_tb, w.before args s = true) (hcl : Cond.classLink own index "[[I" ∈ zz_tb) (hO : va_AOA .int s) (harr : Cond.arrayClass .int ∈ zz_tb) (hK : va_K D classes tys s) (t0 t1 : Nat) {cI cG : ClassId} (ht0 : tys[t0]? = some (cI, .int)) (ht1 : tys[t1]? = some (cG, .array .int)) (hP : va_P D classes ws H) (hD : va_D A ws) {H0 : Heap} (hS : va_S A H0 H locs) (hA : ∀ q : Nat, H0.size ≤ q → A q) (hcells : cells + (1 + 5) ≤ R.cells) (hslots : slots + (5 + 5 * 4) ≤ R.slots) (hdg : decode cc pc = .ok (.multianewarray index 2, 4))
    (kk : ∀ (q : Nat) (r : Nat → Nat) (H1 : Heap), va_P D classes (ws ++ [(q, .inl (cG, 5, .inr (.inr (.inr (.inr (fun uu => if uu < 5 then some (r uu) else none)))))), (r 0, .inl (cI, 4, .inl (fun _ => 0))), (r 1, .inl (cI, 4, .inl (fun _ => 0))), (r 2, .inl (cI, 4, .inl (fun _ => 0))), (r 3, .inl (cI, 4, .inl (fun _ => 0))), (r 4, .inl (cI, 4, .inl (fun _ => 0)))]) H1 → va_D A (ws ++ [(q, .inl (cG, 5, .inr (.inr (.inr (.inr (fun uu => if uu < 5 then some (r uu) else none)))))), (r 0, .inl (cI, 4, .inl (fun _ => 0))), (r 1, .inl (cI, 4, .inl (fun _ => 0))), (r 2, .inl (cI, 4, .inl (fun _ => 0))), (r 3, .inl (cI, 4, .inl (fun _ => 0))), (r 4, .inl (cI, 4, .inl (fun _ => 0)))]) → va_S A H0 H1 locs → W p l e R s m args below meth c H1 locs (cells + 1 + 5) (slots + 5 + 5 * 4) Q (F0 m (pc + 4) ls (.ref q :: rest))) : W p l e R s m args below meth c H locs cells slots Q (F0 m pc ls (.int (nI 4) :: .int (nI 5) :: rest)) := by
  have hcy : s.vm.findClass (FieldType.array .int).toString = some cI := (hK.2 t0 _ ht0).2
  have hcG : s.vm.findClass ("[" ++ (FieldType.array .int).toString) = some cG := (hK.2 t1 _ ht1).2
  have hcl2 : (Cond.classLink own index ("[" ++ (FieldType.array .int).toString)).before args s = true := hts _ hcl
  have hP0 : va_P D classes (ws ++ va_pl [] (fun _ => (.inl (cI, 0, .inl (fun _ => 0)) : va_E))) H := by
    show va_P D classes (ws ++ []) H
    rw [List.append_nil]; exact hP
  have hD0 : va_D A (ws ++ va_pl [] (fun _ => (.inl (cI, 0, .inl (fun _ => 0)) : va_E))) := by
    show va_D A (ws ++ [])
    rw [List.append_nil]; exact hD
  refine va_mna (ty := .int) (cy := cI) (N' := 5) (K' := 4) (z := (4, .inl (fun _ => 0))) hx hb hown hcl2 hO (hts _ harr) hcy hK hP0 hD0 hS hA (nI_pos (by omega)) (nI_pos (by omega)) (nI_clamp (by omega)) (nI_clamp (by omega)) (by omega) (by show 4 * 4 ≤ _; omega) (by omega) rfl rfl hcells hslots (fun c => rfl) hdg (fun q r cA H1 hinj hnl hK1 hP1 hD1 hS1 => ?_)
  have e1 : s.vm.findClass ("[" ++ (FieldType.array .int).toString) = some cA := (hK1.2 tys.length (cA, .array .int) (by simp)).2
  have e3 : cA = cG := Option.some.inj (e1.symm.trans hcG)
  subst e3
  have er : (List.range 5).map r = [r 0, r 1, r 2, r 3, r 4] := rfl
  rw [er] at hP1 hD1
  have eW : ((ws ++ [(q, (.inl (cA, 5, .inr (.inr (.inr (.inr (fun i => if i < 5 then some (r i) else none))))) : va_E))]) ++ va_pl ([] ++ [r 0, r 1, r 2, r 3, r 4]) (vr_up (fun _ => (.inl (cI, 0, .inl (fun _ => 0)) : va_E)) [r 0, r 1, r 2, r 3, r 4] (.inl (cI, (4, .inl (fun _ => 0)))))) = ws ++ [(q, .inl (cA, 5, .inr (.inr (.inr (.inr (fun uu => if uu < 5 then some (r uu) else none)))))), (r 0, .inl (cI, 4, .inl (fun _ => 0))), (r 1, .inl (cI, 4, .inl (fun _ => 0))), (r 2, .inl (cI, 4, .inl (fun _ => 0))), (r 3, .inl (cI, 4, .inl (fun _ => 0))), (r 4, .inl (cI, 4, .inl (fun _ => 0)))] := by
    rw [List.append_assoc]
    congr 1
    simp [va_pl, vr_up]
  exact kk q r H1 (zz_toP eW hP1) (zz_toD eW hD1) hS1
end MNA
