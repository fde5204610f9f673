section BASE
/-! contracts that name the answer and the world behind the call; a call, a return, in one row each -/
def zz_w (y : MethodName) (b : ByteArray) (n : Nat) (ret : Option FieldType) : List Cond := Cond.code y b n ret :: zz_tb
abbrev zz_B (D : va_G) (tys : List (ClassId × FieldType)) (ws ws' : va_W) (sz : Nat) (_ : Unit) (t : State) : Prop := va_P D classes ws' t.heap ∧ va_K D classes tys t ∧ va_D (va_A ws sz) ws'
abbrev zz_Pre (D : va_G) (tys : List (ClassId × FieldType)) (av : List Value) (ws : va_W) (sz : Nat) : Array Value → State → Prop := va_Pc av (fun U => U.heap.size = sz ∧ va_P D classes ws U.heap ∧ va_K D classes tys U ∧ va_D (fun _ => True) ws)
def zz_MI (l : Launch) (y : MethodName) (b : ByteArray) (n : Nat) (ty : FieldType) (rm : Room) (D : va_G) (tys : List (ClassId × FieldType)) (av : List Value) (ws : va_W) (r : Int32) (ws' : va_W) : Prop :=
  ∀ sz : Nat, Met l y (zz_w y b n (some ty)) rm (zz_Pre D tys av ws sz) (va_Qi (fun (x : Int32) (_ : Unit) => x = r) (zz_B D tys ws ws' sz) (va_A ws sz)) 0 0 (va_A ws sz)
def zz_MV (l : Launch) (y : MethodName) (b : ByteArray) (n : Nat) (rm : Room) (D : va_G) (tys : List (ClassId × FieldType)) (av : List Value) (ws : va_W) (ws' : va_W) : Prop :=
  ∀ sz : Nat, Met l y (zz_w y b n none) rm (zz_Pre D tys av ws sz) (va_Qv (fun (_ : Unit) => True) (zz_B D tys ws ws' sz) (va_A ws sz)) 0 0 (va_A ws sz)
theorem zz_MI_of {l : Launch} {y : MethodName} {b : ByteArray} {n : Nat} {ty : FieldType} {rm : Room} {D : va_G} {tys : List (ClassId × FieldType)} {av : List Value} {ws : va_W} {r : Int32} {ws' : va_W}
    (hy : plainName y.cls = true) (hav : (lg_sl av).length ≤ n) (hnar : narrow ty (.int r) = .int r)
    (body : ∀ (p : Program) (e : Env) (s : State) (m : MethodId) (args : Array Value) (below : List Frame) (meth : Method) (c : Code) (A : Nat → Prop) (ls : Array Slot) (Q : State → Prop),
      p.tables.exec = Jvm.exec → c.code = b → c.maxLocals = n → s.vm.findClass y.cls = some m.cls → (∀ w ∈ zz_tb, w.before args s = true) →
      va_K D classes tys s → va_P D classes ws s.heap → va_D A ws → va_S A s.heap s.heap [] → (∀ q : Nat, s.heap.size ≤ q → A q) → lv_has ls n (lv_args 0 av) →
      (∀ (H : Heap) (locs : List Loc) (pc : Nat) (ls : Array Slot), decode b pc = .ok (.ireturn, 1) → va_P D classes ws' H → va_D A ws' → va_S A s.heap H locs → W p l e rm s m args below meth c H locs 0 0 Q (F0 m pc ls [.int r])) →
      W p l e rm s m args below meth c s.heap [] 0 0 Q (F0 m 0 ls [])) :
    zz_MI l y b n ty rm D tys av ws r ws' := by
  intro sz
  refine Met.ofW (cc := b) (maxL := n) (ret := some ty) hy rfl ?_
  intro p e s m args below meth c s₁ B hml hv
  obtain ⟨rfl, hsz, hP, hK, hD0⟩ := hv
  have hx := B.exec
  have hb := B.bytes
  have hr := B.returns
  have hts := atoms_spec (ws := zz_w y b n (some ty)) B.pre
  have hown : s.vm.findClass y.cls = some m.cls := findClass_of_methodNamed B.named
  have hlocks := B.notSynchronized
  subst hsz
  have hD := hD0.self (sz := s.heap.size)
  have hA : ∀ q : Nat, s.heap.size ≤ q → va_A ws s.heap.size q := fun q h => Or.inr h
  have hS : va_S (va_A ws s.heap.size) s.heap s.heap [] := va_S.rf
  have hl := lv_entry av (n := n) hav
  rw [lg_entry_eq]
  refine body p e s m _ below meth c (va_A ws s.heap.size) _ _ hx hb hml hown (fun w hw => hts w (List.mem_cons_of_mem _ hw)) hK hP hD hS hA hl ?_
  intro H locs pc ls hd hP' hD' hS'
  exact W.zret hx hb hr hnar (fun t ht hW => ⟨⟨r, (), rfl, rfl, by rw [ht]; exact hP', va_K.moved hW.alike hK, hD'⟩, hS'.F ht⟩) hS'.2.2 hd
theorem zz_MV_of {l : Launch} {y : MethodName} {b : ByteArray} {n : Nat} {rm : Room} {D : va_G} {tys : List (ClassId × FieldType)} {av : List Value} {ws : va_W} {ws' : va_W}
    (hy : plainName y.cls = true) (hav : (lg_sl av).length ≤ n)
    (body : ∀ (p : Program) (e : Env) (s : State) (m : MethodId) (args : Array Value) (below : List Frame) (meth : Method) (c : Code) (A : Nat → Prop) (ls : Array Slot) (Q : State → Prop),
      p.tables.exec = Jvm.exec → c.code = b → c.maxLocals = n → s.vm.findClass y.cls = some m.cls → (∀ w ∈ zz_tb, w.before args s = true) →
      va_K D classes tys s → va_P D classes ws s.heap → va_D A ws → va_S A s.heap s.heap [] → (∀ q : Nat, s.heap.size ≤ q → A q) → lv_has ls n (lv_args 0 av) →
      (∀ (H : Heap) (locs : List Loc) (pc : Nat) (ls : Array Slot), decode b pc = .ok (.return_, 1) → va_P D classes ws' H → va_D A ws' → va_S A s.heap H locs → W p l e rm s m args below meth c H locs 0 0 Q (F0 m pc ls [])) →
      W p l e rm s m args below meth c s.heap [] 0 0 Q (F0 m 0 ls [])) :
    zz_MV l y b n rm D tys av ws ws' := by
  intro sz
  refine Met.ofW (cc := b) (maxL := n) (ret := none) hy rfl ?_
  intro p e s m args below meth c s₁ B hml hv
  obtain ⟨rfl, hsz, hP, hK, hD0⟩ := hv
  have hx := B.exec
  have hb := B.bytes
  have hr := B.returns
  have hts := atoms_spec (ws := zz_w y b n none) B.pre
  have hown : s.vm.findClass y.cls = some m.cls := findClass_of_methodNamed B.named
  have hlocks := B.notSynchronized
  subst hsz
  have hD := hD0.self (sz := s.heap.size)
  have hA : ∀ q : Nat, s.heap.size ≤ q → va_A ws s.heap.size q := fun q h => Or.inr h
  have hS : va_S (va_A ws s.heap.size) s.heap s.heap [] := va_S.rf
  have hl := lv_entry av (n := n) hav
  rw [lg_entry_eq]
  refine body p e s m _ below meth c (va_A ws s.heap.size) _ _ hx hb hml hown (fun w hw => hts w (List.mem_cons_of_mem _ hw)) hK hP hD hS hA hl ?_
  intro H locs pc ls hd hP' hD' hS'
  exact W.vret hx hb hr (fun t ht hW => ⟨⟨(), rfl, trivial, by rw [ht]; exact hP', va_K.moved hW.alike hK, hD'⟩, hS'.F ht⟩) hS'.2.2 hd
theorem zz_subP {D : va_G} {cl : List vw_C} {ws wc : va_W} {H : Heap} {is : List Nat} (hC : is.map (fun i => ws[i]?) = wc.map some) (h : va_P D cl ws H) : va_P D cl wc H := by
  intro k q hk
  have h1 : (is.map (fun i => ws[i]?))[k]? = some (some q) := by rw [hC, List.getElem?_map, hk]; rfl
  rw [List.getElem?_map] at h1
  cases hi : is[k]? with
  | none => rw [hi] at h1; cases h1
  | some i => rw [hi] at h1; exact h i q (Option.some.inj h1)
theorem zz_toP {D : va_G} {cl : List vw_C} {ws ws' : va_W} {H : Heap} (e : ws = ws') (h : va_P D cl ws H) : va_P D cl ws' H := e ▸ h
theorem zz_toD {A : Nat → Prop} {ws ws' : va_W} (e : ws = ws') (h : va_D A ws) : va_D A ws' := e ▸ h
theorem zz_good0 : zz_tb.all (fun w => k2_isCode w || goodWord w) = true := List.all_eq_true.mpr (fun w hw => (List.mem_filter.mp hw).2)
theorem zz_good : GoodIn zz_tb zz_tb := by
  intro w hw
  refine ⟨hw, ?_⟩
  have h := List.all_eq_true.mp zz_good0 w hw
  simp only [Bool.or_eq_true] at h
  rcases h with h | h
  · cases w <;> first | (simp [k2_isCode] at h; done) | exact Or.inl rfl
  · exact good_of_word h
theorem zz_gv {own C : String} {idx n : Nat} {y : MethodName} {b : ByteArray} {ret : Option FieldType} (h1 : Cond.methodLink own idx y ∈ zz_tb) (h2 : Cond.instanceMethod y ∈ zz_tb) (h3 : Cond.selects C y y ∈ zz_tb) (h4 : Cond.initialized C ∈ zz_tb) (h5 : Cond.code y b n ret ∈ zz_tb) : GoodIn zz_tb (wsV own idx C y (zz_w y b n ret)) := by
  intro w hw
  refine zz_good w ?_
  simp only [wsV, zz_w, List.cons_append, List.nil_append, List.mem_cons] at hw
  rcases hw with rfl | rfl | rfl | rfl | rfl | hw
  · exact h1
  · exact h2
  · exact h3
  · exact h4
  · exact h5
  · exact hw
theorem zz_gs {own : String} {idx n : Nat} {y : MethodName} {b : ByteArray} {ret : Option FieldType} (h1 : Cond.methodLink own idx y ∈ zz_tb) (h2 : Cond.static y ∈ zz_tb) (h4 : Cond.initialized own ∈ zz_tb) (h5 : Cond.code y b n ret ∈ zz_tb) : GoodIn zz_tb (wsS own idx y (zz_w y b n ret)) := by
  intro w hw
  refine zz_good w ?_
  simp only [wsS, zz_w, List.cons_append, List.nil_append, List.mem_cons] at hw
  rcases hw with rfl | rfl | rfl | rfl | hw
  · exact h1
  · exact h2
  · exact h4
  · exact h5
  · exact hw
theorem zz_gi {n : Nat} {y : MethodName} {b : ByteArray} {ret : Option FieldType} (h5 : Cond.code y b n ret ∈ zz_tb) : GoodIn zz_tb (zz_w y b n ret) := by
  intro w hw
  refine zz_good w ?_
  simp only [zz_w, List.mem_cons] at hw
  rcases hw with rfl | hw
  · exact h5
  · exact hw
end BASE
section BASEW
variable {p : Program} {l : Launch} {e : Env} {R : Room} {s : State} {m : MethodId} {args : Array Value} {below : List Frame} {meth : Method} {c : Code} {H : Heap} {locs : List Loc} {cells slots : Nat} {Q : State → Prop}
variable {cc : ByteArray} {pc nL : Nat} {ls : Array Slot} {rest st0 As : List Value} {D : va_G} {A : Nat → Prop} {tys tysc : List (ClassId × FieldType)} {ws wc wr wc' ws' : va_W} {own C : String} {y : MethodName} {b : ByteArray} {n np index : Nat} {ty : FieldType} {rm : Room} {a : Nat} {r : Int32}
theorem zz_callI (hx : p.tables.exec = Jvm.exec) (hb : c.code = cc) (hml : c.maxLocals = nL) (hown : s.vm.findClass own = some m.cls) (hts : ∀ w ∈ zz_tb, w.before args s = true)
    (hK : va_K D classes tys s) (hP : va_P D classes ws H) (hD : va_D A ws) (hS : va_S A s.heap H locs) (hA : ∀ q : Nat, s.heap.size ≤ q → A q)
    (hM : zz_MI l y b n ty rm D tysc (.ref a :: As) wc r wc') (hg : GoodIn zz_tb (wsV own index C y (zz_w y b n (some ty))))
    (hd : y.cls = C ∧ y.cls ≠ "java/lang/invoke/MethodHandle" ∧ y.cls ≠ "java/lang/invoke/VarHandle" ∧ (parseMethodDescriptor y.desc).map (fun d => d.parameters.length) = some np)
    (hrc : rm.cells = 0) (hrs : rm.slots = 0) (hR : rm.frames + 1 ≤ R.frames ∧ 8 + (n + 11) + rm.locals ≤ R.locals) (hf : cells ≤ R.cells ∧ slots ≤ R.slots)
    (tt : List Nat) (htt : tt.filterMap (fun i => tys[i]?) = tysc) (q0 ci : Nat) {q : vw_C} {fs : List Value} (hc : classes[ci]? = some q) (hqC : q.1 = C) (he : ws[q0]? = some (a, .inr (ci, fs)))
    (isC isR perm : List Nat) (hC : isC.map (fun i => ws[i]?) = wc.map some) (hnC : va_nd isC = true) (hR' : isR.map (fun i => ws[i]?) = wr.map some) (hnR : va_nd isR = true) (hdis : ∀ i ∈ isR, i ∉ isC) (hpm : perm.map (fun i => (wr ++ wc')[i]?) = ws'.map some) (hnp : va_nd perm = true)
    (hn : As.length = np) (hsz : ls.size = nL) (hst : st0 = As.reverse ++ .ref a :: rest) (hrm : (rest.map fun v => v.category).sum ≤ 8) (hdg : decode cc pc = .ok (.invokevirtual index, 3))
    (kk : ∀ (H1 : Heap) (locs1 : List Loc), va_P D classes ws' H1 → va_D A ws' → va_S A s.heap H1 locs1 → W p l e R s m args below meth c H1 locs1 cells slots Q (F0 m (pc + 3) ls (.int r :: rest))) :
    W p l e R s m args below meth c H locs cells slots Q (F0 m pc ls st0) := by
  subst hqC
  have hPc := zz_subP hC hP
  have hDc := hD.sub isC hnC hC
  have hKc := hK.sub tt htt
  have hFc := va_free hD hS hA isC hC
  refine va_calli (va_runV (As := As) (rest := rest) ⟨hx, hb, hml, hown, hts⟩ (hM H.size) (cwV np hts hg rfl hrc hrs hd hR) ⟨?_, va_recv hK hP hc he, ?_⟩ rfl hn hsz hst (lv_room hrm) hdg hf) hS (fun q _ h => hFc q h) hFc (fun x u t H1 locs1 ht hvm hw hB hz1 hk1 hS1 => ?_)
  · intro a U g mk q
    obtain ⟨q0, q1, qP, qK, qD⟩ := q
    exact ⟨q0, q1, qP, va_K.moved (u := U) (U := U.calling g mk a) (Vm.Alike.refl U.vm) qK, qD⟩
  · exact fun U hU hW => ⟨rfl, by rw [hU], by rw [hU]; exact hPc, va_K.moved hW.alike hKc, hDc.weaken (fun _ _ _ _ => trivial)⟩
  · have hw : x = r := hw
    subst hw
    obtain ⟨hP1, hK1, hD1⟩ := hB
    rw [ht] at hP1
    obtain ⟨hP2, hD2⟩ := va_join hP hD isC isR hC hR' hnR hdis hk1 hFc hP1 hD1
    exact kk H1 locs1 (zz_subP hpm hP2) (hD2.sub perm hnp hpm) hS1
theorem zz_callV (hx : p.tables.exec = Jvm.exec) (hb : c.code = cc) (hml : c.maxLocals = nL) (hown : s.vm.findClass own = some m.cls) (hts : ∀ w ∈ zz_tb, w.before args s = true)
    (hK : va_K D classes tys s) (hP : va_P D classes ws H) (hD : va_D A ws) (hS : va_S A s.heap H locs) (hA : ∀ q : Nat, s.heap.size ≤ q → A q)
    (hM : zz_MV l y b n rm D tysc (.ref a :: As) wc wc') (hg : GoodIn zz_tb (wsV own index C y (zz_w y b n none)))
    (hd : y.cls = C ∧ y.cls ≠ "java/lang/invoke/MethodHandle" ∧ y.cls ≠ "java/lang/invoke/VarHandle" ∧ (parseMethodDescriptor y.desc).map (fun d => d.parameters.length) = some np)
    (hrc : rm.cells = 0) (hrs : rm.slots = 0) (hR : rm.frames + 1 ≤ R.frames ∧ 8 + (n + 11) + rm.locals ≤ R.locals) (hf : cells ≤ R.cells ∧ slots ≤ R.slots)
    (tt : List Nat) (htt : tt.filterMap (fun i => tys[i]?) = tysc) (q0 ci : Nat) {q : vw_C} {fs : List Value} (hc : classes[ci]? = some q) (hqC : q.1 = C) (he : ws[q0]? = some (a, .inr (ci, fs)))
    (isC isR perm : List Nat) (hC : isC.map (fun i => ws[i]?) = wc.map some) (hnC : va_nd isC = true) (hR' : isR.map (fun i => ws[i]?) = wr.map some) (hnR : va_nd isR = true) (hdis : ∀ i ∈ isR, i ∉ isC) (hpm : perm.map (fun i => (wr ++ wc')[i]?) = ws'.map some) (hnp : va_nd perm = true)
    (hn : As.length = np) (hsz : ls.size = nL) (hst : st0 = As.reverse ++ .ref a :: rest) (hrm : (rest.map fun v => v.category).sum ≤ 8) (hdg : decode cc pc = .ok (.invokevirtual index, 3))
    (kk : ∀ (H1 : Heap) (locs1 : List Loc), va_P D classes ws' H1 → va_D A ws' → va_S A s.heap H1 locs1 → W p l e R s m args below meth c H1 locs1 cells slots Q (F0 m (pc + 3) ls rest)) :
    W p l e R s m args below meth c H locs cells slots Q (F0 m pc ls st0) := by
  subst hqC
  have hPc := zz_subP hC hP
  have hDc := hD.sub isC hnC hC
  have hKc := hK.sub tt htt
  have hFc := va_free hD hS hA isC hC
  refine va_callv (va_runV (As := As) (rest := rest) ⟨hx, hb, hml, hown, hts⟩ (hM H.size) (cwV np hts hg rfl hrc hrs hd hR) ⟨?_, va_recv hK hP hc he, ?_⟩ rfl hn hsz hst (lv_room hrm) hdg hf) hS (fun q _ h => hFc q h) hFc (fun u t H1 locs1 ht hvm hw hB hz1 hk1 hS1 => ?_)
  · intro a U g mk q
    obtain ⟨q0, q1, qP, qK, qD⟩ := q
    exact ⟨q0, q1, qP, va_K.moved (u := U) (U := U.calling g mk a) (Vm.Alike.refl U.vm) qK, qD⟩
  · exact fun U hU hW => ⟨rfl, by rw [hU], by rw [hU]; exact hPc, va_K.moved hW.alike hKc, hDc.weaken (fun _ _ _ _ => trivial)⟩
  · obtain ⟨hP1, hK1, hD1⟩ := hB
    rw [ht] at hP1
    obtain ⟨hP2, hD2⟩ := va_join hP hD isC isR hC hR' hnR hdis hk1 hFc hP1 hD1
    exact kk H1 locs1 (zz_subP hpm hP2) (hD2.sub perm hnp hpm) hS1
/-- a static method that touches no cell -/
theorem zz_callS (hx : p.tables.exec = Jvm.exec) (hb : c.code = cc) (hml : c.maxLocals = nL) (hown : s.vm.findClass own = some m.cls) (hts : ∀ w ∈ zz_tb, w.before args s = true)
    (hK : va_K D classes tys s) (hP : va_P D classes ws H) (hD : va_D A ws) (hS : va_S A s.heap H locs) (hA : ∀ q : Nat, s.heap.size ≤ q → A q)
    (hM : zz_MI l y b n ty rm D [] As [] r []) (hg : GoodIn zz_tb (wsS own index y (zz_w y b n (some ty))))
    (hd : y.cls = own ∧ y.cls ≠ "java/lang/invoke/MethodHandle" ∧ y.cls ≠ "java/lang/invoke/VarHandle" ∧ (parseMethodDescriptor y.desc).map (fun d => d.parameters.length) = some np)
    (hrc : rm.cells = 0) (hrs : rm.slots = 0) (hR : rm.frames + 1 ≤ R.frames ∧ 8 + (n + 11) + rm.locals ≤ R.locals) (hf : cells ≤ R.cells ∧ slots ≤ R.slots)
    (isR : List Nat) (hR' : isR.map (fun i => ws[i]?) = ws.map some) (hnR : va_nd isR = true)
    (hn : As.length = np) (hsz : ls.size = nL) (hst : st0 = As.reverse ++ rest) (hrm : (rest.map fun v => v.category).sum ≤ 8) (hdg : decode cc pc = .ok (.invokestatic index, 3))
    (kk : ∀ (H1 : Heap) (locs1 : List Loc), va_P D classes ws H1 → va_D A ws → va_S A s.heap H1 locs1 → W p l e R s m args below meth c H1 locs1 cells slots Q (F0 m (pc + 3) ls (.int r :: rest))) :
    W p l e R s m args below meth c H locs cells slots Q (F0 m pc ls st0) := by
  have hPc : va_P D classes [] H := fun k q h => by simp at h
  have hDc : va_D A [] := ⟨fun i j p q h => by simp at h, fun k q h => by simp at h⟩
  have hKc := hK.sub (tys' := []) [] rfl
  have hFc := va_free (wc := []) hD hS hA [] rfl
  refine va_calli (va_runS (As := As) (rest := rest) ⟨hx, hb, hml, hown, hts⟩ (hM H.size) (cwS np hts hg rfl hrc hrs hd hR) ⟨?_, ?_⟩ rfl hn hsz hst (lv_room hrm) hdg hf) hS (fun q _ h => hFc q h) hFc (fun x u t H1 locs1 ht hvm hw hB hz1 hk1 hS1 => ?_)
  · intro a U g mk q
    obtain ⟨q0, q1, qP, qK, qD⟩ := q
    exact ⟨q0, q1, qP, va_K.moved (u := U) (U := U.calling g mk a) (Vm.Alike.refl U.vm) qK, qD⟩
  · exact fun U hU hW => ⟨rfl, by rw [hU], by rw [hU]; exact hPc, va_K.moved hW.alike hKc, hDc.weaken (fun _ _ _ _ => trivial)⟩
  · have hw : x = r := hw
    subst hw
    obtain ⟨hP1, hK1, hD1⟩ := hB
    rw [ht] at hP1
    obtain ⟨hP2, hD2⟩ := va_join (wr := ws) (w1 := []) hP hD [] isR rfl hR' hnR (fun _ _ h => by cases h) hk1 hFc hP1 hD1
    rw [List.append_nil] at hP2 hD2
    exact kk H1 locs1 hP2 hD2 hS1
/-! instructions over nI -/
theorem zz_iald (hx : p.tables.exec = Jvm.exec) (hb : c.code = cc) (hK : va_K D classes tys s) (hP : va_P D classes ws H) (q0 t0 : Nat) {cA : ClassId} {k : Nat} {f : Nat → Int32} (ha : ws[q0]? = some (a, .inl (cA, k, .inl f))) (ht : tys[t0]? = some (cA, .int)) {i : Nat} (hi : i < k) (hk : k < 2 ^ 31) (hdg : decode cc pc = .ok (.iaload, 1))
    (kk : W p l e R s m args below meth c H locs cells slots Q (F0 m (pc + 1) ls (.int (f i) :: rest))) : W p l e R s m args below meth c H locs cells slots Q (F0 m pc ls (.int (nI i) :: .ref a :: rest)) := by
  refine va_iald hx hb hK hP q0 t0 ha ht (vp_in_nI hi hk) hdg ?_
  rw [nI_clamp (by omega)]
  exact kk
theorem zz_zald (hx : p.tables.exec = Jvm.exec) (hb : c.code = cc) (hK : va_K D classes tys s) (hP : va_P D classes ws H) (q0 t0 : Nat) {cA : ClassId} {k : Nat} {f : Nat → Int32} (ha : ws[q0]? = some (a, .inl (cA, k, .inl f))) (ht : tys[t0]? = some (cA, .boolean)) {i : Nat} (hi : i < k) (hk : k < 2 ^ 31) (hdg : decode cc pc = .ok (.baload, 1))
    (kk : W p l e R s m args below meth c H locs cells slots Q (F0 m (pc + 1) ls (.int (f i) :: rest))) : W p l e R s m args below meth c H locs cells slots Q (F0 m pc ls (.int (nI i) :: .ref a :: rest)) := by
  refine va_zald hx hb hK hP q0 t0 ha ht (vp_in_nI hi hk) hdg ?_
  rw [nI_clamp (by omega)]
  exact kk
theorem zz_iast (hx : p.tables.exec = Jvm.exec) (hb : c.code = cc) (hK : va_K D classes tys s) (hP : va_P D classes ws H) (hD : va_D A ws) {H0 : Heap} (hS : va_S A H0 H locs) (q0 t0 : Nat) {cA : ClassId} {k : Nat} {f : Nat → Int32} (ha : ws[q0]? = some (a, .inl (cA, k, .inl f))) (ht : tys[t0]? = some (cA, .int)) {i : Nat} {x : Int32} (hi : i < k) (hk : k < 2 ^ 31) (hdg : decode cc pc = .ok (.iastore, 1))
    {g : Nat → Int32} (hg : upd f i x = g) (hw : ws.set q0 (a, .inl (cA, k, .inl g)) = ws')
    (kk : ∀ (H1 : Heap) (locs1 : List Loc), va_P D classes ws' H1 → va_D A ws' → va_S A H0 H1 locs1 → W p l e R s m args below meth c H1 locs1 cells slots Q (F0 m (pc + 1) ls rest)) : W p l e R s m args below meth c H locs cells slots Q (F0 m pc ls (.int x :: .int (nI i) :: .ref a :: rest)) := by
  subst hw
  subst hg
  refine va_iast hx hb hK hP hD hS q0 t0 ha ht (vp_in_nI hi hk) hdg ?_
  rw [nI_clamp (by omega)]
  exact kk
theorem zz_zast (hx : p.tables.exec = Jvm.exec) (hb : c.code = cc) (hK : va_K D classes tys s) (hP : va_P D classes ws H) (hD : va_D A ws) {H0 : Heap} (hS : va_S A H0 H locs) (q0 t0 : Nat) {cA : ClassId} {k : Nat} {f : Nat → Int32} (ha : ws[q0]? = some (a, .inl (cA, k, .inl f))) (ht : tys[t0]? = some (cA, .boolean)) {i : Nat} {x : Int32} (hi : i < k) (hk : k < 2 ^ 31) (hdg : decode cc pc = .ok (.bastore, 1))
    (hxn : vp_nar .boolean x = x) {g : Nat → Int32} (hg : upd f i x = g) (hw : ws.set q0 (a, .inl (cA, k, .inl g)) = ws')
    (kk : ∀ (H1 : Heap) (locs1 : List Loc), va_P D classes ws' H1 → va_D A ws' → va_S A H0 H1 locs1 → W p l e R s m args below meth c H1 locs1 cells slots Q (F0 m (pc + 1) ls rest)) : W p l e R s m args below meth c H locs cells slots Q (F0 m pc ls (.int x :: .int (nI i) :: .ref a :: rest)) := by
  subst hw
  subst hg
  refine va_zast hx hb hK hP hD hS q0 t0 ha ht (vp_in_nI hi hk) hdg ?_
  rw [nI_clamp (by omega), hxn]
  exact kk
theorem zz_top {x z : Int32} (h : x = z) (k : W p l e R s m args below meth c H locs cells slots Q (F0 m pc ls (.int z :: rest))) : W p l e R s m args below meth c H locs cells slots Q (F0 m pc ls (.int x :: rest)) := h ▸ k
theorem zz_icmp_eq (hx : p.tables.exec = Jvm.exec) (hb : c.code = cc) {i j : Nat} {off : Int} {tgt : Nat} (hi : i < 2 ^ 31) (hj : j < 2 ^ 31) (hdg : decode cc pc = .ok (.if_icmp .eq off, 3)) (ht : (pc : Int) + off = (tgt : Int))
    (kt : i = j → W p l e R s m args below meth c H locs cells slots Q (F0 m tgt ls rest)) (kf : i ≠ j → W p l e R s m args below meth c H locs cells slots Q (F0 m (pc + 3) ls rest)) : W p l e R s m args below meth c H locs cells slots Q (F0 m pc ls (.int (nI j) :: .int (nI i) :: rest)) :=
  lv_icmp_eq hx hb hdg ht (fun h => kt ((nI_eq hi hj).mp h)) (fun h => kf (fun q => h ((nI_eq hi hj).mpr q)))
theorem zz_icmp_ne (hx : p.tables.exec = Jvm.exec) (hb : c.code = cc) {i j : Nat} {off : Int} {tgt : Nat} (hi : i < 2 ^ 31) (hj : j < 2 ^ 31) (hdg : decode cc pc = .ok (.if_icmp .ne off, 3)) (ht : (pc : Int) + off = (tgt : Int))
    (kt : i ≠ j → W p l e R s m args below meth c H locs cells slots Q (F0 m tgt ls rest)) (kf : i = j → W p l e R s m args below meth c H locs cells slots Q (F0 m (pc + 3) ls rest)) : W p l e R s m args below meth c H locs cells slots Q (F0 m pc ls (.int (nI j) :: .int (nI i) :: rest)) :=
  lv_icmp_ne hx hb hdg ht (fun h => kt (fun q => h ((nI_eq hi hj).mpr q))) (fun h => kf ((nI_eq hi hj).mp h))
theorem zz_icmp_lt (hx : p.tables.exec = Jvm.exec) (hb : c.code = cc) {i j : Nat} {off : Int} {tgt : Nat} (hi : i < 2 ^ 31) (hj : j < 2 ^ 31) (hdg : decode cc pc = .ok (.if_icmp .lt off, 3)) (ht : (pc : Int) + off = (tgt : Int))
    (kt : i < j → W p l e R s m args below meth c H locs cells slots Q (F0 m tgt ls rest)) (kf : j ≤ i → W p l e R s m args below meth c H locs cells slots Q (F0 m (pc + 3) ls rest)) : W p l e R s m args below meth c H locs cells slots Q (F0 m pc ls (.int (nI j) :: .int (nI i) :: rest)) :=
  lv_icmp_lt hx hb hdg ht (fun h => kt ((nI_ltI hi hj).mp h)) (fun h => kf (Nat.not_lt.mp (fun q => h ((nI_ltI hi hj).mpr q))))
theorem zz_icmp_ge (hx : p.tables.exec = Jvm.exec) (hb : c.code = cc) {i j : Nat} {off : Int} {tgt : Nat} (hi : i < 2 ^ 31) (hj : j < 2 ^ 31) (hdg : decode cc pc = .ok (.if_icmp .ge off, 3)) (ht : (pc : Int) + off = (tgt : Int))
    (kt : j ≤ i → W p l e R s m args below meth c H locs cells slots Q (F0 m tgt ls rest)) (kf : i < j → W p l e R s m args below meth c H locs cells slots Q (F0 m (pc + 3) ls rest)) : W p l e R s m args below meth c H locs cells slots Q (F0 m pc ls (.int (nI j) :: .int (nI i) :: rest)) :=
  lv_icmp_ge hx hb hdg ht (fun h => kt ((nI_leI hj hi).mp h)) (fun h => kf (Nat.not_le.mp (fun q => h ((nI_leI hj hi).mpr q))))
theorem zz_icmp_gt (hx : p.tables.exec = Jvm.exec) (hb : c.code = cc) {i j : Nat} {off : Int} {tgt : Nat} (hi : i < 2 ^ 31) (hj : j < 2 ^ 31) (hdg : decode cc pc = .ok (.if_icmp .gt off, 3)) (ht : (pc : Int) + off = (tgt : Int))
    (kt : j < i → W p l e R s m args below meth c H locs cells slots Q (F0 m tgt ls rest)) (kf : i ≤ j → W p l e R s m args below meth c H locs cells slots Q (F0 m (pc + 3) ls rest)) : W p l e R s m args below meth c H locs cells slots Q (F0 m pc ls (.int (nI j) :: .int (nI i) :: rest)) :=
  lv_icmp_gt hx hb hdg ht (fun h => kt ((nI_ltI hj hi).mp h)) (fun h => kf (Nat.not_lt.mp (fun q => h ((nI_ltI hj hi).mpr q))))
theorem zz_icmp_le (hx : p.tables.exec = Jvm.exec) (hb : c.code = cc) {i j : Nat} {off : Int} {tgt : Nat} (hi : i < 2 ^ 31) (hj : j < 2 ^ 31) (hdg : decode cc pc = .ok (.if_icmp .le off, 3)) (ht : (pc : Int) + off = (tgt : Int))
    (kt : i ≤ j → W p l e R s m args below meth c H locs cells slots Q (F0 m tgt ls rest)) (kf : j < i → W p l e R s m args below meth c H locs cells slots Q (F0 m (pc + 3) ls rest)) : W p l e R s m args below meth c H locs cells slots Q (F0 m pc ls (.int (nI j) :: .int (nI i) :: rest)) :=
  lv_icmp_le hx hb hdg ht (fun h => kt ((nI_leI hi hj).mp h)) (fun h => kf (Nat.not_le.mp (fun q => h ((nI_leI hi hj).mpr q))))
theorem zz_if_eq (hx : p.tables.exec = Jvm.exec) (hb : c.code = cc) {i : Nat} {off : Int} {tgt : Nat} (hi : i < 2 ^ 31) (hdg : decode cc pc = .ok (.ifCond .eq off, 3)) (ht : (pc : Int) + off = (tgt : Int))
    (kt : i = 0 → W p l e R s m args below meth c H locs cells slots Q (F0 m tgt ls rest)) (kf : 0 < i → W p l e R s m args below meth c H locs cells slots Q (F0 m (pc + 3) ls rest)) : W p l e R s m args below meth c H locs cells slots Q (F0 m pc ls (.int (nI i) :: rest)) :=
  lv_if_eq hx hb hdg ht (fun h => kt (Decidable.byContradiction fun q => nI_ne0 (by omega) hi h)) (fun h => kf (Nat.pos_of_ne_zero (fun q => h (by rw [q]; exact nI_0))))
theorem zz_if_ne (hx : p.tables.exec = Jvm.exec) (hb : c.code = cc) {i : Nat} {off : Int} {tgt : Nat} (hi : i < 2 ^ 31) (hdg : decode cc pc = .ok (.ifCond .ne off, 3)) (ht : (pc : Int) + off = (tgt : Int))
    (kt : 0 < i → W p l e R s m args below meth c H locs cells slots Q (F0 m tgt ls rest)) (kf : i = 0 → W p l e R s m args below meth c H locs cells slots Q (F0 m (pc + 3) ls rest)) : W p l e R s m args below meth c H locs cells slots Q (F0 m pc ls (.int (nI i) :: rest)) :=
  lv_if_ne hx hb hdg ht (fun h => kt (Nat.pos_of_ne_zero (fun q => h (by rw [q]; exact nI_0)))) (fun h => kf (Decidable.byContradiction fun q => nI_ne0 (by omega) hi h))
theorem zz_if_gt (hx : p.tables.exec = Jvm.exec) (hb : c.code = cc) {i : Nat} {off : Int} {tgt : Nat} (hi : i < 2 ^ 31) (hdg : decode cc pc = .ok (.ifCond .gt off, 3)) (ht : (pc : Int) + off = (tgt : Int))
    (kt : 0 < i → W p l e R s m args below meth c H locs cells slots Q (F0 m tgt ls rest)) (kf : i = 0 → W p l e R s m args below meth c H locs cells slots Q (F0 m (pc + 3) ls rest)) : W p l e R s m args below meth c H locs cells slots Q (F0 m pc ls (.int (nI i) :: rest)) :=
  lv_if_gt hx hb hdg ht (fun h => kt (Nat.pos_of_ne_zero (fun q => by rw [q, nI_0] at h; exact absurd h (by decide)))) (fun h => kf (Decidable.byContradiction fun q => h (by rw [← nI_0]; exact nI_lt (by omega) hi)))
theorem zz_if_le (hx : p.tables.exec = Jvm.exec) (hb : c.code = cc) {i : Nat} {off : Int} {tgt : Nat} (hi : i < 2 ^ 31) (hdg : decode cc pc = .ok (.ifCond .le off, 3)) (ht : (pc : Int) + off = (tgt : Int))
    (kt : i = 0 → W p l e R s m args below meth c H locs cells slots Q (F0 m tgt ls rest)) (kf : 0 < i → W p l e R s m args below meth c H locs cells slots Q (F0 m (pc + 3) ls rest)) : W p l e R s m args below meth c H locs cells slots Q (F0 m pc ls (.int (nI i) :: rest)) :=
  lv_if_le hx hb hdg ht (fun h => kt (Decidable.byContradiction fun q => nI_nle (by omega) hi h)) (fun h => kf (Nat.pos_of_ne_zero (fun q => h (by rw [q, nI_0]; decide))))
theorem zz_iadd (hx : p.tables.exec = Jvm.exec) (hb : c.code = cc) {i j : Nat} (hdg : decode cc pc = .ok (.iadd, 1))
    (k : W p l e R s m args below meth c H locs cells slots Q (F0 m (pc + 1) ls (.int (nI (i + j)) :: rest))) : W p l e R s m args below meth c H locs cells slots Q (F0 m pc ls (.int (nI j) :: .int (nI i) :: rest)) := by
  refine lv_iadd hx hb hdg ?_
  rw [nI_add]
  exact k
theorem zz_isub (hx : p.tables.exec = Jvm.exec) (hb : c.code = cc) {i j : Nat} (hij : j ≤ i) (hdg : decode cc pc = .ok (.isub, 1))
    (k : W p l e R s m args below meth c H locs cells slots Q (F0 m (pc + 1) ls (.int (nI (i - j)) :: rest))) : W p l e R s m args below meth c H locs cells slots Q (F0 m pc ls (.int (nI j) :: .int (nI i) :: rest)) := by
  refine lv_isub hx hb hdg ?_
  rw [pk_sub hij]
  exact k
theorem zz_imul (hx : p.tables.exec = Jvm.exec) (hb : c.code = cc) {i j : Nat} (hdg : decode cc pc = .ok (.imul, 1))
    (k : W p l e R s m args below meth c H locs cells slots Q (F0 m (pc + 1) ls (.int (nI (i * j)) :: rest))) : W p l e R s m args below meth c H locs cells slots Q (F0 m pc ls (.int (nI j) :: .int (nI i) :: rest)) := by
  refine lv_imul hx hb hdg ?_
  rw [pk_mul]
  exact k
end BASEW
section BASES
variable {p : Program} {l : Launch} {e : Env} {R : Room} {s : State} {m : MethodId} {args : Array Value} {below : List Frame} {meth : Method} {c : Code} {H : Heap} {locs : List Loc} {cells slots pc : Nat} {Q : State → Prop} {ls : Array Slot} {rest : List Value}
theorem zz_bI {b : Bool} (kt : b = true → W p l e R s m args below meth c H locs cells slots Q (F0 m pc ls (.int (nI 1) :: rest))) (kf : b = false → W p l e R s m args below meth c H locs cells slots Q (F0 m pc ls (.int (nI 0) :: rest))) : W p l e R s m args below meth c H locs cells slots Q (F0 m pc ls (.int (lc_bI b) :: rest)) := by
  cases b with
  | true => exact kt rfl
  | false => exact kf rfl
theorem zz_oI {o : Option Nat} (kn : o = none → W p l e R s m args below meth c H locs cells slots Q (F0 m pc ls (.int (-1) :: rest))) (ks : ∀ k, o = some k → W p l e R s m args below meth c H locs cells slots Q (F0 m pc ls (.int (nI k) :: rest))) : W p l e R s m args below meth c H locs cells slots Q (F0 m pc ls (.int (lc_oI o) :: rest)) := by
  cases o with
  | none => exact kn rfl
  | some k => exact ks k rfl
theorem zz_pl {x : Int32} {n : Nat} (hn : n < 2 ^ 31) (kn : lc_pl x n = none → W p l e R s m args below meth c H locs cells slots Q (F0 m pc ls (.int (nI 0) :: rest))) (ks : ∀ j, j < n → x = nI j → lc_pl x n = some j → W p l e R s m args below meth c H locs cells slots Q (F0 m pc ls (.int (nI 1) :: rest))) : W p l e R s m args below meth c H locs cells slots Q (F0 m pc ls (.int (lc_bI (lc_pl x n).isSome) :: rest)) := by
  cases h : lc_pl x n with
  | none => exact kn h
  | some j =>
    obtain ⟨h1, h2⟩ := lc_pl_spec hn h
    exact ks j h1 h2 h
end BASES
theorem zz_upN (f : Nat → Nat) (k v : Nat) : upd (fun i => nI (f i)) k (nI v) = fun i => nI (va_up f k v i) := by
  funext j
  by_cases h : j = k
  · subst h; rw [pk_us, va_up_self]
  · rw [pk_un h, va_up_ne f v h]
theorem zz_upB (f : Nat → Bool) (k : Nat) (v : Bool) : upd (fun i => lc_bI (f i)) k (lc_bI v) = fun i => lc_bI (va_up f k v i) := by
  funext j
  by_cases h : j = k
  · subst h; rw [pk_us, va_up_self]
  · rw [pk_un h, va_up_ne f v h]
theorem zz_nm1 {i : Nat} (hi : i < 2 ^ 31) : ¬ nI i = -1 := by
  intro h
  have h1 := congrArg Int32.toInt h
  rw [nI_toInt hi] at h1
  have h2 : (-1 : Int32).toInt = -1 := by decide
  rw [h2] at h1
  omega
