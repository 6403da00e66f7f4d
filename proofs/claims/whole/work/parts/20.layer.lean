/-! My own layer over the kit's rows. ONE world list whose cells keep their places; a call is given the whole world, and says which places it changed. Numbers on the stack are nI of a Nat. -/
abbrev mg_Pre (D : va_G) (cl : List vw_C) (tys : List (ClassId × FieldType)) (av : List Value) (ws : va_W) (sz : Nat) : Array Value → State → Prop := va_Pc av (fun U => U.heap.size = sz ∧ va_P D cl ws U.heap ∧ va_K D cl tys U ∧ va_D (fun _ => True) ws)
abbrev mg_B (D : va_G) (cl : List vw_C) (tys : List (ClassId × FieldType)) (A : Nat → Prop) : va_W → State → Prop := fun w t => va_P D cl w t.heap ∧ va_K D cl tys t ∧ va_D A w
def mg_rm (d : Nat) : Room := { frames := d, cells := 0, slots := 0, locals := 40 * d }
/-- the contract of a method that answers an int (or a boolean, a char ..) and makes no cell -/
def mg_I (l : Launch) (y : MethodName) (cc : ByteArray) (maxL : Nat) (rt : FieldType) (d : Nat) (D : va_G) (cl : List vw_C) (tys : List (ClassId × FieldType)) (av : List Value) (ws : va_W) (post : Int32 → va_W → Prop) : Prop := ∀ sz : Nat, Met l y (Cond.code y cc maxL (some rt) :: gw_) (mg_rm d) (mg_Pre D cl tys av ws sz) (va_Qi post (mg_B D cl tys (va_A ws sz)) (va_A ws sz)) 0 0 (va_A ws sz)
/-- the same of a method without an answer -/
def mg_V (l : Launch) (y : MethodName) (cc : ByteArray) (maxL : Nat) (d : Nat) (D : va_G) (cl : List vw_C) (tys : List (ClassId × FieldType)) (av : List Value) (ws : va_W) (post : va_W → Prop) : Prop := ∀ sz : Nat, Met l y (Cond.code y cc maxL none :: gw_) (mg_rm d) (mg_Pre D cl tys av ws sz) (va_Qv post (mg_B D cl tys (va_A ws sz)) (va_A ws sz)) 0 0 (va_A ws sz)
/-- what the tables say of a call: of an instance method, of a static one, of a constructor -/
def mg_lv (own : String) (idx : Nat) (C : String) (y : MethodName) (cc : ByteArray) (maxL : Nat) (ret : Option FieldType) (n : Nat) : Prop := Cond.methodLink own idx y ∈ gw_ ∧ Cond.instanceMethod y ∈ gw_ ∧ Cond.selects C y y ∈ gw_ ∧ Cond.initialized C ∈ gw_ ∧ Cond.code y cc maxL ret ∈ gw_ ∧ (y.cls = C ∧ y.cls ≠ "java/lang/invoke/MethodHandle" ∧ y.cls ≠ "java/lang/invoke/VarHandle" ∧ (parseMethodDescriptor y.desc).map (fun d => d.parameters.length) = some n)
def mg_ls (own : String) (idx : Nat) (y : MethodName) (cc : ByteArray) (maxL : Nat) (ret : Option FieldType) (n : Nat) : Prop := Cond.methodLink own idx y ∈ gw_ ∧ Cond.static y ∈ gw_ ∧ Cond.initialized y.cls ∈ gw_ ∧ Cond.code y cc maxL ret ∈ gw_ ∧ (y.cls ≠ "java/lang/invoke/MethodHandle" ∧ y.cls ≠ "java/lang/invoke/VarHandle" ∧ (parseMethodDescriptor y.desc).map (fun d => d.parameters.length) = some n)
def mg_li (own : String) (idx : Nat) (y : MethodName) (cc : ByteArray) (maxL : Nat) (n : Nat) : Prop := Cond.methodLink own idx y ∈ gw_ ∧ Cond.instanceMethod y ∈ gw_ ∧ Cond.initialized y.cls ∈ gw_ ∧ Cond.code y cc maxL none ∈ gw_ ∧ (y.cls ≠ "java/lang/invoke/MethodHandle" ∧ y.cls ≠ "java/lang/invoke/VarHandle" ∧ (parseMethodDescriptor y.desc).map (fun d => d.parameters.length) = some n)
theorem mg_gc {y : MethodName} {cc : ByteArray} {maxL : Nat} {ret : Option FieldType} (h : Cond.code y cc maxL ret ∈ gw_) (cd : Cond) : GoodIn (cd :: gw_) (Cond.code y cc maxL ret :: gw_) := fun w hw => by
  have hg : w ∈ gw_ := (List.mem_cons.mp hw).elim (fun e => e ▸ h) id
  exact ⟨List.mem_cons_of_mem _ hg, gw_good w hg⟩
theorem mg_gv {own C : String} {idx maxL n : Nat} {y : MethodName} {cc : ByteArray} {ret : Option FieldType} (h : mg_lv own idx C y cc maxL ret n) (cd : Cond) : GoodIn (cd :: gw_) (wsV own idx C y (Cond.code y cc maxL ret :: gw_)) := fun w hw => by
  unfold wsV at hw
  rcases List.mem_append.mp hw with hw | hw
  · have hg : w ∈ gw_ := by
      simp only [List.mem_cons, List.not_mem_nil, or_false] at hw
      rcases hw with rfl | rfl | rfl | rfl
      · exact h.1
      · exact h.2.1
      · exact h.2.2.1
      · exact h.2.2.2.1
    exact ⟨List.mem_cons_of_mem _ hg, gw_good w hg⟩
  · exact mg_gc h.2.2.2.2.1 cd w hw
theorem mg_gs {own : String} {idx maxL n : Nat} {y : MethodName} {cc : ByteArray} {ret : Option FieldType} (h : mg_ls own idx y cc maxL ret n) (cd : Cond) : GoodIn (cd :: gw_) (va_wsS own idx y (Cond.code y cc maxL ret :: gw_)) := fun w hw => by
  unfold va_wsS at hw
  rcases List.mem_append.mp hw with hw | hw
  · have hg : w ∈ gw_ := by
      simp only [List.mem_cons, List.not_mem_nil, or_false] at hw
      rcases hw with rfl | rfl | rfl
      · exact h.1
      · exact h.2.1
      · exact h.2.2.1
    exact ⟨List.mem_cons_of_mem _ hg, gw_good w hg⟩
  · exact mg_gc h.2.2.2.1 cd w hw
section MGL
variable {p : Program} {l : Launch} {e : Env} {R : Room} {s : State} {m : MethodId} {args : Array Value} {below : List Frame} {meth : Method} {c : Code} {H : Heap} {locs : List Loc} {cells slots : Nat} {Q : State → Prop}
variable {cc : ByteArray} {pc nL : Nat} {ls : Array Slot} {rest : List Value} {D : va_G} {cl : List vw_C} {A : Nat → Prop} {a : Nat} {tys : List (ClassId × FieldType)} {ws : va_W} {cd : Cond} {own : String}
theorem mg_top {x y : Int32} (h : x = y) (k : W p l e R s m args below meth c H locs cells slots Q (F0 m pc ls (.int y :: rest))) : W p l e R s m args below meth c H locs cells slots Q (F0 m pc ls (.int x :: rest)) := h ▸ k
theorem mg_topl {x y : Int64} (h : x = y) (k : W p l e R s m args below meth c H locs cells slots Q (F0 m pc ls (.long y :: rest))) : W p l e R s m args below meth c H locs cells slots Q (F0 m pc ls (.long x :: rest)) := h ▸ k
theorem mg_get (C0 : CallFix p m c cc nL s args (cd :: gw_) own) {C : String} {T : u_T} {N ci index : Nat} (hin : ∀ w ∈ u_ws C T N, w ∈ gw_) (hK : va_K D cl tys s) (hP : va_P D cl ws H) (q0 : Nat) {fs : List Value} (he : ws[q0]? = some (a, .inr (ci, fs))) (hc : cl[ci]? = some (C, T, N)) (k : Nat) (hk : k < N) (hl : Cond.fieldLink own index (T k).1 (T k).2.1 (T k).2.2.1 ∈ gw_) {v : Value} (hv : fs[k]? = some v) (hdg : decode cc pc = .ok (.getfield index, 3))
    (kk : W p l e R s m args below meth c H locs cells slots Q (F0 m (pc + 3) ls (v :: rest))) : W p l e R s m args below meth c H locs cells slots Q (F0 m pc ls (.ref a :: rest)) :=
  va_get C0.1 C0.2.1 C0.2.2.2.2 (fun w h => List.mem_cons_of_mem _ (hin w h)) C0.2.2.2.1 hK hP q0 he hc k hk (C0.2.2.2.2 _ (List.mem_cons_of_mem _ hl)) (fun _ h => h) hv hdg kk
theorem mg_put (C0 : CallFix p m c cc nL s args (cd :: gw_) own) {C : String} {T : u_T} {N ci index : Nat} (hin : ∀ w ∈ u_ws C T N, w ∈ gw_) {ty0 : Nat → FieldType} (hty : ∀ k, k < N → parseFieldDescriptor (T k).2.2.1 = some (ty0 k)) (hnm : ∀ a, a < N → ∀ b, b < N → a ≠ b → (T a).2.1 ≠ (T b).2.1) (hK : va_K D cl tys s) (hP : va_P D cl ws H) (hD : va_D A ws) (hS : va_S A s.heap H locs) (q0 : Nat) {fs : List Value} (he : ws[q0]? = some (a, .inr (ci, fs))) (hc : cl[ci]? = some (C, T, N)) (k : Nat) (hk : k < N) (hl : Cond.fieldLink own index (T k).1 (T k).2.1 (T k).2.2.1 ∈ gw_) (hfin : (T k).2.2.2 = false) {ty : FieldType} {v : Value} (hd : parseFieldDescriptor (T k).2.2.1 = some ty) (hn : narrow ty v = v) (hfit : fits ty v = true) (hlen : k < fs.length) {fs' : List Value} (hfs : fs.set k v = fs') (hdg : decode cc pc = .ok (.putfield index, 3))
    (kk : ∀ (ws' : va_W) (H1 : Heap) (locs1 : List Loc), (∀ j, j ≠ q0 → ws'[j]? = ws[j]?) → ws'[q0]? = some (a, .inr (ci, fs')) → va_P D cl ws' H1 → va_D A ws' → va_S A s.heap H1 locs1 → W p l e R s m args below meth c H1 locs1 cells slots Q (F0 m (pc + 3) ls rest)) : W p l e R s m args below meth c H locs cells slots Q (F0 m pc ls (v :: .ref a :: rest)) := by
  subst hfs
  exact va_put C0.1 C0.2.1 C0.2.2.2.2 (fun w h => List.mem_cons_of_mem _ (hin w h)) ty0 hty hnm C0.2.2.2.1 hK hP hD hS q0 he hc k hk (C0.2.2.2.2 _ (List.mem_cons_of_mem _ hl)) (fun _ h => h) hfin hd hn hfit hlen hdg (fun H1 locs1 hP1 hD1 hS1 => kk _ H1 locs1 (fun j hj => List.getElem?_set_ne (Ne.symm hj)) (List.getElem?_set_self (List.getElem?_eq_some_iff.mp he).1) hP1 hD1 hS1)
theorem mg_ild (C0 : CallFix p m c cc nL s args (cd :: gw_) own) (hK : va_K D cl tys s) (hP : va_P D cl ws H) (q0 t0 : Nat) {cA : ClassId} {n : Nat} {f : Nat → Int32} (ha : ws[q0]? = some (a, .inl (cA, n, .inl f))) (ht : tys[t0]? = some (cA, .int)) {j : Nat} (hj : j < n) (hn : n < 2 ^ 31) (hdg : decode cc pc = .ok (.iaload, 1))
    (kk : W p l e R s m args below meth c H locs cells slots Q (F0 m (pc + 1) ls (.int (f j) :: rest))) : W p l e R s m args below meth c H locs cells slots Q (F0 m pc ls (.int (nI j) :: .ref a :: rest)) := by
  refine va_iald C0.1 C0.2.1 hK hP q0 t0 ha ht (vp_in_nI hj hn) hdg ?_
  rw [nI_clamp (by omega)]
  exact kk
theorem mg_bld (C0 : CallFix p m c cc nL s args (cd :: gw_) own) (hK : va_K D cl tys s) (hP : va_P D cl ws H) (q0 t0 : Nat) {cA : ClassId} {n : Nat} {f : Nat → Int32} (ha : ws[q0]? = some (a, .inl (cA, n, .inl f))) (ht : tys[t0]? = some (cA, .byte)) {j : Nat} (hj : j < n) (hn : n < 2 ^ 31) (hdg : decode cc pc = .ok (.baload, 1))
    (kk : W p l e R s m args below meth c H locs cells slots Q (F0 m (pc + 1) ls (.int (f j) :: rest))) : W p l e R s m args below meth c H locs cells slots Q (F0 m pc ls (.int (nI j) :: .ref a :: rest)) := by
  refine va_bald C0.1 C0.2.1 hK hP q0 t0 ha ht (vp_in_nI hj hn) hdg ?_
  rw [nI_clamp (by omega)]
  exact kk
theorem mg_cld (C0 : CallFix p m c cc nL s args (cd :: gw_) own) (hK : va_K D cl tys s) (hP : va_P D cl ws H) (q0 t0 : Nat) {cA : ClassId} {n : Nat} {f : Nat → Int32} (ha : ws[q0]? = some (a, .inl (cA, n, .inl f))) (ht : tys[t0]? = some (cA, .char)) {j : Nat} (hj : j < n) (hn : n < 2 ^ 31) (hdg : decode cc pc = .ok (.caload, 1))
    (kk : W p l e R s m args below meth c H locs cells slots Q (F0 m (pc + 1) ls (.int (f j) :: rest))) : W p l e R s m args below meth c H locs cells slots Q (F0 m pc ls (.int (nI j) :: .ref a :: rest)) := by
  refine va_cald C0.1 C0.2.1 hK hP q0 t0 ha ht (vp_in_nI hj hn) hdg ?_
  rw [nI_clamp (by omega)]
  exact kk
theorem mg_lld (C0 : CallFix p m c cc nL s args (cd :: gw_) own) (hK : va_K D cl tys s) (hP : va_P D cl ws H) (q0 t0 : Nat) {cA : ClassId} {n : Nat} {f : Nat → Int64} (ha : ws[q0]? = some (a, .inl (cA, n, .inr (.inl f)))) (ht : tys[t0]? = some (cA, .long)) {j : Nat} (hj : j < n) (hn : n < 2 ^ 31) (hdg : decode cc pc = .ok (.laload, 1))
    (kk : W p l e R s m args below meth c H locs cells slots Q (F0 m (pc + 1) ls (.long (f j) :: rest))) : W p l e R s m args below meth c H locs cells slots Q (F0 m pc ls (.int (nI j) :: .ref a :: rest)) := by
  refine va_lald C0.1 C0.2.1 hK hP q0 t0 ha ht (vp_in_nI hj hn) hdg ?_
  rw [nI_clamp (by omega)]
  exact kk
theorem mg_ald (C0 : CallFix p m c cc nL s args (cd :: gw_) own) (hK : va_K D cl tys s) (hP : va_P D cl ws H) (q0 t0 : Nat) {cA : ClassId} {C : String} {n : Nat} {f : Nat → Option Nat} (ha : ws[q0]? = some (a, .inl (cA, n, .inr (.inr (.inr (.inr f)))))) (ht : tys[t0]? = some (cA, .object C)) {j b : Nat} (hj : j < n) (hn : n < 2 ^ 31) (hf : f j = some b) (hdg : decode cc pc = .ok (.aaload, 1))
    (kk : W p l e R s m args below meth c H locs cells slots Q (F0 m (pc + 1) ls (.ref b :: rest))) : W p l e R s m args below meth c H locs cells slots Q (F0 m pc ls (.int (nI j) :: .ref a :: rest)) := by
  refine va_aldq C0.1 C0.2.1 hK hP q0 t0 ha ht (vp_in_nI hj hn) hdg ?_
  rw [nI_clamp (by omega), hf]
  exact kk
theorem mg_ist (C0 : CallFix p m c cc nL s args (cd :: gw_) own) (hK : va_K D cl tys s) (hP : va_P D cl ws H) (hD : va_D A ws) (hS : va_S A s.heap H locs) (q0 t0 : Nat) {cA : ClassId} {n : Nat} {f : Nat → Int32} (ha : ws[q0]? = some (a, .inl (cA, n, .inl f))) (ht : tys[t0]? = some (cA, .int)) {j : Nat} {x : Int32} (hj : j < n) (hn : n < 2 ^ 31) (hdg : decode cc pc = .ok (.iastore, 1))
    (kk : ∀ (ws' : va_W) (H1 : Heap) (locs1 : List Loc), (∀ i, i ≠ q0 → ws'[i]? = ws[i]?) → ws'[q0]? = some (a, .inl (cA, n, .inl (upd f j x))) → va_P D cl ws' H1 → va_D A ws' → va_S A s.heap H1 locs1 → W p l e R s m args below meth c H1 locs1 cells slots Q (F0 m (pc + 1) ls rest)) : W p l e R s m args below meth c H locs cells slots Q (F0 m pc ls (.int x :: .int (nI j) :: .ref a :: rest)) := by
  refine va_iast C0.1 C0.2.1 hK hP hD hS q0 t0 ha ht (vp_in_nI hj hn) hdg ?_
  rw [nI_clamp (by omega)]
  exact fun H1 locs1 hP1 hD1 hS1 => kk _ H1 locs1 (fun i hi => List.getElem?_set_ne (Ne.symm hi)) (List.getElem?_set_self (List.getElem?_eq_some_iff.mp ha).1) hP1 hD1 hS1
theorem mg_bst (C0 : CallFix p m c cc nL s args (cd :: gw_) own) (hK : va_K D cl tys s) (hP : va_P D cl ws H) (hD : va_D A ws) (hS : va_S A s.heap H locs) (q0 t0 : Nat) {cA : ClassId} {n : Nat} {f : Nat → Int32} (ha : ws[q0]? = some (a, .inl (cA, n, .inl f))) (ht : tys[t0]? = some (cA, .byte)) {j : Nat} {x : Int32} (hj : j < n) (hn : n < 2 ^ 31) (hdg : decode cc pc = .ok (.bastore, 1))
    (kk : ∀ (ws' : va_W) (H1 : Heap) (locs1 : List Loc), (∀ i, i ≠ q0 → ws'[i]? = ws[i]?) → ws'[q0]? = some (a, .inl (cA, n, .inl (upd f j (vp_nar .byte x)))) → va_P D cl ws' H1 → va_D A ws' → va_S A s.heap H1 locs1 → W p l e R s m args below meth c H1 locs1 cells slots Q (F0 m (pc + 1) ls rest)) : W p l e R s m args below meth c H locs cells slots Q (F0 m pc ls (.int x :: .int (nI j) :: .ref a :: rest)) := by
  refine va_bast C0.1 C0.2.1 hK hP hD hS q0 t0 ha ht (vp_in_nI hj hn) hdg ?_
  rw [nI_clamp (by omega)]
  exact fun H1 locs1 hP1 hD1 hS1 => kk _ H1 locs1 (fun i hi => List.getElem?_set_ne (Ne.symm hi)) (List.getElem?_set_self (List.getElem?_eq_some_iff.mp ha).1) hP1 hD1 hS1
theorem mg_cst (C0 : CallFix p m c cc nL s args (cd :: gw_) own) (hK : va_K D cl tys s) (hP : va_P D cl ws H) (hD : va_D A ws) (hS : va_S A s.heap H locs) (q0 t0 : Nat) {cA : ClassId} {n : Nat} {f : Nat → Int32} (ha : ws[q0]? = some (a, .inl (cA, n, .inl f))) (ht : tys[t0]? = some (cA, .char)) {j : Nat} {x : Int32} (hj : j < n) (hn : n < 2 ^ 31) (hdg : decode cc pc = .ok (.castore, 1))
    (kk : ∀ (ws' : va_W) (H1 : Heap) (locs1 : List Loc), (∀ i, i ≠ q0 → ws'[i]? = ws[i]?) → ws'[q0]? = some (a, .inl (cA, n, .inl (upd f j (vp_nar .char x)))) → va_P D cl ws' H1 → va_D A ws' → va_S A s.heap H1 locs1 → W p l e R s m args below meth c H1 locs1 cells slots Q (F0 m (pc + 1) ls rest)) : W p l e R s m args below meth c H locs cells slots Q (F0 m pc ls (.int x :: .int (nI j) :: .ref a :: rest)) := by
  refine va_cast C0.1 C0.2.1 hK hP hD hS q0 t0 ha ht (vp_in_nI hj hn) hdg ?_
  rw [nI_clamp (by omega)]
  exact fun H1 locs1 hP1 hD1 hS1 => kk _ H1 locs1 (fun i hi => List.getElem?_set_ne (Ne.symm hi)) (List.getElem?_set_self (List.getElem?_eq_some_iff.mp ha).1) hP1 hD1 hS1
theorem mg_lst (C0 : CallFix p m c cc nL s args (cd :: gw_) own) (hK : va_K D cl tys s) (hP : va_P D cl ws H) (hD : va_D A ws) (hS : va_S A s.heap H locs) (q0 t0 : Nat) {cA : ClassId} {n : Nat} {f : Nat → Int64} (ha : ws[q0]? = some (a, .inl (cA, n, .inr (.inl f)))) (ht : tys[t0]? = some (cA, .long)) {j : Nat} {x : Int64} (hj : j < n) (hn : n < 2 ^ 31) (hdg : decode cc pc = .ok (.lastore, 1))
    (kk : ∀ (ws' : va_W) (H1 : Heap) (locs1 : List Loc), (∀ i, i ≠ q0 → ws'[i]? = ws[i]?) → ws'[q0]? = some (a, .inl (cA, n, .inr (.inl (vp_updL f j x)))) → va_P D cl ws' H1 → va_D A ws' → va_S A s.heap H1 locs1 → W p l e R s m args below meth c H1 locs1 cells slots Q (F0 m (pc + 1) ls rest)) : W p l e R s m args below meth c H locs cells slots Q (F0 m pc ls (.long x :: .int (nI j) :: .ref a :: rest)) := by
  refine va_last C0.1 C0.2.1 hK hP hD hS q0 t0 ha ht (vp_in_nI hj hn) hdg ?_
  rw [nI_clamp (by omega)]
  exact fun H1 locs1 hP1 hD1 hS1 => kk _ H1 locs1 (fun i hi => List.getElem?_set_ne (Ne.symm hi)) (List.getElem?_set_self (List.getElem?_eq_some_iff.mp ha).1) hP1 hD1 hS1
theorem mg_F {A : Nat → Prop} {ws : va_W} {H0 H : Heap} {locs : List Loc} (hD : va_D A ws) (hS : va_S A H0 H locs) (hA : ∀ q, H0.size ≤ q → A q) : ∀ q, va_A ws H.size q → A q := fun q h => by
  rcases h with ⟨k, e, h⟩ | h
  · exact hD.2 k _ h
  · exact hA q (Nat.le_trans hS.1 h)
theorem mg_blind (av : List Value) (ws : va_W) (sz : Nat) : FrameBlind (mg_Pre D cl tys av ws sz) := fun x U g mk q => by
  obtain ⟨q0, q1, qP, qK, qD⟩ := q
  exact ⟨q0, q1, qP, va_K.moved (u := U) (U := U.calling g mk x) (Vm.Alike.refl U.vm) qK, qD⟩
theorem mg_at {av : List Value} (hK : va_K D cl tys s) (hP : va_P D cl ws H) (hD : va_D A ws) : ∀ U : State, U.heap = H → s.WarmedH U.vm → mg_Pre D cl tys av ws H.size av.toArray U := fun U hU hW =>
  ⟨rfl, by rw [hU], by rw [hU]; exact hP, va_K.moved hW.alike hK, hD.weaken (fun _ _ _ _ => trivial)⟩
/-- a call of an instance method with an int for an answer -/
theorem mg_ci {y : MethodName} {bytes : ByteArray} {maxL n index d d0 : Nat} {rt : FieldType} {C : String} {b q0 ci N : Nat} {fs As st0 : List Value} {T : u_T} {post : Int32 → va_W → Prop} (C0 : CallFix p m c cc nL s args (cd :: gw_) own) (hM : mg_I l y bytes maxL rt d D cl tys (.ref b :: As) ws post) (hlk : mg_lv own index C y bytes maxL (some rt) n) (hd : d + 1 ≤ d0 ∧ 8 + (maxL + 11) + 40 * d ≤ 40 * d0) (hq : ws[q0]? = some (b, .inr (ci, fs))) (hc : cl[ci]? = some (C, T, N)) (hK : va_K D cl tys s) (hP : va_P D cl ws H) (hD : va_D A ws) (hS : va_S A s.heap H locs) (hA : ∀ q, s.heap.size ≤ q → A q) (hn : As.length = n) (hls : ls.size = nL) (hst : st0 = As.reverse ++ .ref b :: rest) (hcat : (rest.map fun v => v.category).sum ≤ 8) (hdg : decode cc pc = .ok (.invokevirtual index, 3))
    (kk : ∀ (r : Int32) (ws' : va_W) (H1 : Heap) (locs1 : List Loc), post r ws' → va_P D cl ws' H1 → va_D A ws' → va_S A s.heap H1 locs1 → W p l e (mg_rm d0) s m args below meth c H1 locs1 0 0 Q (F0 m (pc + 3) ls (.int r :: rest))) : W p l e (mg_rm d0) s m args below meth c H locs 0 0 Q (F0 m pc ls st0) := by
  have hF := mg_F hD hS hA
  refine va_calli (va_runV (As := As) (rest := rest) C0 (hM H.size) (cwV n C0.2.2.2.2 (mg_gv hlk cd) rfl rfl rfl hlk.2.2.2.2.2 hd) ⟨mg_blind _ _ _, va_recv hK hP hc hq, mg_at hK hP hD⟩ rfl hn hls hst (lv_room hcat) hdg ⟨Nat.le_refl _, Nat.le_refl _⟩) hS (fun q _ h => hF q h) hF (fun r u t H1 locs1 ht hvm hp hB hz hk hS1 => ?_)
  obtain ⟨hP1, hK1, hD1⟩ := hB
  rw [ht] at hP1
  exact kk r u H1 locs1 hp hP1 (hD1.weaken (fun _ _ _ h => hF _ h)) hS1
theorem mg_cv {y : MethodName} {bytes : ByteArray} {maxL n index d d0 : Nat}  {C : String} {b q0 ci N : Nat} {fs As st0 : List Value} {T : u_T} {post : va_W → Prop} (C0 : CallFix p m c cc nL s args (cd :: gw_) own) (hM : mg_V l y bytes maxL d D cl tys (.ref b :: As) ws post) (hlk : mg_lv own index C y bytes maxL none n) (hd : d + 1 ≤ d0 ∧ 8 + (maxL + 11) + 40 * d ≤ 40 * d0) (hq : ws[q0]? = some (b, .inr (ci, fs))) (hc : cl[ci]? = some (C, T, N)) (hK : va_K D cl tys s) (hP : va_P D cl ws H) (hD : va_D A ws) (hS : va_S A s.heap H locs) (hA : ∀ q, s.heap.size ≤ q → A q) (hn : As.length = n) (hls : ls.size = nL) (hst : st0 = As.reverse ++ .ref b :: rest) (hcat : (rest.map fun v => v.category).sum ≤ 8) (hdg : decode cc pc = .ok (.invokevirtual index, 3))
    (kk : ∀ (ws' : va_W) (H1 : Heap) (locs1 : List Loc), post ws' → va_P D cl ws' H1 → va_D A ws' → va_S A s.heap H1 locs1 → W p l e (mg_rm d0) s m args below meth c H1 locs1 0 0 Q (F0 m (pc + 3) ls rest)) : W p l e (mg_rm d0) s m args below meth c H locs 0 0 Q (F0 m pc ls st0) := by
  have hF := mg_F hD hS hA
  refine va_callv (va_runV (As := As) (rest := rest) C0 (hM H.size) (cwV n C0.2.2.2.2 (mg_gv hlk cd) rfl rfl rfl hlk.2.2.2.2.2 hd) ⟨mg_blind _ _ _, va_recv hK hP hc hq, mg_at hK hP hD⟩ rfl hn hls hst (lv_room hcat) hdg ⟨Nat.le_refl _, Nat.le_refl _⟩) hS (fun q _ h => hF q h) hF (fun u t H1 locs1 ht hvm hp hB hz hk hS1 => ?_)
  obtain ⟨hP1, hK1, hD1⟩ := hB
  rw [ht] at hP1
  exact kk u H1 locs1 hp hP1 (hD1.weaken (fun _ _ _ h => hF _ h)) hS1
theorem mg_si {y : MethodName} {bytes : ByteArray} {maxL n index d d0 : Nat} {rt : FieldType} {As st0 : List Value} {post : Int32 → va_W → Prop} (C0 : CallFix p m c cc nL s args (cd :: gw_) own) (hM : mg_I l y bytes maxL rt d D cl tys As ws post) (hlk : mg_ls own index y bytes maxL (some rt) n) (hd : d + 1 ≤ d0 ∧ 8 + (maxL + 11) + 40 * d ≤ 40 * d0) (hK : va_K D cl tys s) (hP : va_P D cl ws H) (hD : va_D A ws) (hS : va_S A s.heap H locs) (hA : ∀ q, s.heap.size ≤ q → A q) (hn : As.length = n) (hls : ls.size = nL) (hst : st0 = As.reverse ++ rest) (hcat : (rest.map fun v => v.category).sum ≤ 8) (hdg : decode cc pc = .ok (.invokestatic index, 3))
    (kk : ∀ (r : Int32) (ws' : va_W) (H1 : Heap) (locs1 : List Loc), post r ws' → va_P D cl ws' H1 → va_D A ws' → va_S A s.heap H1 locs1 → W p l e (mg_rm d0) s m args below meth c H1 locs1 0 0 Q (F0 m (pc + 3) ls (.int r :: rest))) : W p l e (mg_rm d0) s m args below meth c H locs 0 0 Q (F0 m pc ls st0) := by
  have hF := mg_F hD hS hA
  refine va_calli (va_runS (As := As) (rest := rest) C0 (hM H.size) (va_cwS n C0.2.2.2.2 (mg_gs hlk cd) rfl rfl rfl hlk.2.2.2.2 hd) ⟨mg_blind _ _ _, mg_at hK hP hD⟩ rfl hn hls hst (lv_room hcat) hdg ⟨Nat.le_refl _, Nat.le_refl _⟩) hS (fun q _ h => hF q h) hF (fun r u t H1 locs1 ht hvm hp hB hz hk hS1 => ?_)
  obtain ⟨hP1, hK1, hD1⟩ := hB
  rw [ht] at hP1
  exact kk r u H1 locs1 hp hP1 (hD1.weaken (fun _ _ _ h => hF _ h)) hS1
end MGL
/-- a walk of its body gives a method's contract -/
theorem mg_openI {l : Launch} {y : MethodName} {d : Nat} {D : va_G} {cl : List vw_C} {tys : List (ClassId × FieldType)} {av : List Value} {ws : va_W} {post : Int32 → va_W → Prop} {cc : ByteArray} {maxL : Nat} {rt : FieldType} {own : String} (ho : y.cls = own) (hy : plainName y.cls = true) (hav : (lg_sl av).length ≤ maxL)
    (body : ∀ (p : Program) (e : Env) (s : State) (m : MethodId) (args : Array Value) (below : List Frame) (meth : Method) (c : Code) (A : Nat → Prop) (Q : State → Prop) (ls : Array Slot), CallFix p m c cc maxL s args (Cond.code y cc maxL (some rt) :: gw_) own → va_K D cl tys s → (∀ q, s.heap.size ≤ q → A q) → va_P D cl ws s.heap → va_D A ws → va_S A s.heap s.heap [] → lv_has ls maxL (lv_args 0 av) → (∀ (v : Int32) (w : va_W) (H : Heap) (locs : List Loc) (pc : Nat) (ls : Array Slot), narrow rt (.int v) = .int v → post v w → va_P D cl w H → va_D A w → va_S A s.heap H locs → decode cc pc = .ok (.ireturn, 1) → W p l e (mg_rm d) s m args below meth c H locs 0 0 Q (F0 m pc ls [.int v])) → W p l e (mg_rm d) s m args below meth c s.heap [] 0 0 Q (F0 m 0 ls [])) : mg_I l y cc maxL rt d D cl tys av ws post := by
  intro sz
  refine Met.ofW (cc := cc) (maxL := maxL) (ret := some rt) hy rfl ?_
  intro p e s m args below meth c s₁ B hml hv
  obtain ⟨rfl, hsz, hP, hK, hD0⟩ := hv
  have hr := B.returns
  have hlk := B.notSynchronized
  subst hsz
  have hl := lv_entry av (n := maxL) hav
  rw [lg_entry_eq]
  refine body p e s m _ below meth c (va_A ws s.heap.size) _ _ ⟨B.exec, B.bytes, hml, ho ▸ findClass_of_methodNamed B.named, atoms_spec (ws := Cond.code y cc maxL (some rt) :: gw_) B.pre⟩ hK (fun q h => Or.inr h) hP hD0.self va_S.rf hl ?_
  intro v w H locs pc ls hn hp hP1 hD1 hS1 hdg
  exact W.zret B.exec B.bytes hr hn (fun t ht hW => ⟨⟨v, w, rfl, hp, by rw [ht]; exact hP1, va_K.moved hW.alike hK, hD1⟩, hS1.F ht⟩) hS1.2.2 hdg hlk
theorem mg_openV {l : Launch} {y : MethodName} {d : Nat} {D : va_G} {cl : List vw_C} {tys : List (ClassId × FieldType)} {av : List Value} {ws : va_W} {post : va_W → Prop} {cc : ByteArray} {maxL : Nat} {own : String} (ho : y.cls = own) (hy : plainName y.cls = true) (hav : (lg_sl av).length ≤ maxL)
    (body : ∀ (p : Program) (e : Env) (s : State) (m : MethodId) (args : Array Value) (below : List Frame) (meth : Method) (c : Code) (A : Nat → Prop) (Q : State → Prop) (ls : Array Slot), CallFix p m c cc maxL s args (Cond.code y cc maxL none :: gw_) own → va_K D cl tys s → (∀ q, s.heap.size ≤ q → A q) → va_P D cl ws s.heap → va_D A ws → va_S A s.heap s.heap [] → lv_has ls maxL (lv_args 0 av) → (∀ (w : va_W) (H : Heap) (locs : List Loc) (pc : Nat) (ls : Array Slot), post w → va_P D cl w H → va_D A w → va_S A s.heap H locs → decode cc pc = .ok (.return_, 1) → W p l e (mg_rm d) s m args below meth c H locs 0 0 Q (F0 m pc ls [])) → W p l e (mg_rm d) s m args below meth c s.heap [] 0 0 Q (F0 m 0 ls [])) : mg_V l y cc maxL d D cl tys av ws post := by
  intro sz
  refine Met.ofW (cc := cc) (maxL := maxL) (ret := none) hy rfl ?_
  intro p e s m args below meth c s₁ B hml hv
  obtain ⟨rfl, hsz, hP, hK, hD0⟩ := hv
  have hr := B.returns
  have hlk := B.notSynchronized
  subst hsz
  have hl := lv_entry av (n := maxL) hav
  rw [lg_entry_eq]
  refine body p e s m _ below meth c (va_A ws s.heap.size) _ _ ⟨B.exec, B.bytes, hml, ho ▸ findClass_of_methodNamed B.named, atoms_spec (ws := Cond.code y cc maxL none :: gw_) B.pre⟩ hK (fun q h => Or.inr h) hP hD0.self va_S.rf hl ?_
  intro w H locs pc ls hp hP1 hD1 hS1 hdg
  exact W.vret B.exec B.bytes hr (fun t ht hW => ⟨⟨w, rfl, hp, by rw [ht]; exact hP1, va_K.moved hW.alike hK, hD1⟩, hS1.F ht⟩) hS1.2.2 hdg hlk
