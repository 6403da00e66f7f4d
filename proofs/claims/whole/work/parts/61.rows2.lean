/-! Rows for constructors and for the law: calls from any room, new cells, final fields -/
def mg_rn (d mc ms : Nat) : Room := { frames := d, cells := mc, slots := ms, locals := 40 * d }
/-- the contract of a constructor that makes mc cells of ms slots -/
def mg_N (l : Launch) (y : MethodName) (cc : ByteArray) (maxL : Nat) (d mc ms : Nat) (D : va_G) (cl : List vw_C) (tys : List (ClassId × FieldType)) (av : List Value) (ws : va_W) (post : va_W → Prop) : Prop := ∀ sz : Nat, Met l y (Cond.code y cc maxL none :: gw_) (mg_rn d mc ms) (mg_Pre D cl tys av ws sz) (va_Qv post (mg_B D cl tys (va_A ws sz)) (va_A ws sz)) mc ms (va_A ws sz)
theorem mg_len {ws : va_W} {k : Nat} {x : Nat × va_E} (hz : ws[k + 1]? = none) (hp : ws[k]? = some x) : ws.length = k + 1 := by
  have h1 := List.getElem?_eq_none_iff.mp hz
  have h2 := (List.getElem?_eq_some_iff.mp hp).1
  omega
theorem mg_app {ws : va_W} {k : Nat} (x : Nat × va_E) (h : ws.length = k) : (∀ j, j ≠ k → (ws ++ [x])[j]? = ws[j]?) ∧ (ws ++ [x])[k]? = some x := by
  subst h
  refine ⟨fun j hj => ?_, ?_⟩
  · rcases Nat.lt_or_ge j ws.length with q | q
    · exact List.getElem?_append_left q
    · rw [List.getElem?_eq_none (by rw [List.length_append]; show ws.length + 1 ≤ j; omega), List.getElem?_eq_none q]
  · rw [List.getElem?_append_right (Nat.le_refl _), Nat.sub_self]
    rfl
section MGR
variable {p : Program} {l : Launch} {e : Env} {R : Room} {s : State} {m : MethodId} {args : Array Value} {below : List Frame} {meth : Method} {c : Code} {H : Heap} {locs : List Loc} {cells slots : Nat} {Q : State → Prop}
variable {cc : ByteArray} {pc nL : Nat} {ls : Array Slot} {rest : List Value} {D : va_G} {cl : List vw_C} {A : Nat → Prop} {a : Nat} {tys : List (ClassId × FieldType)} {ws : va_W} {cd : Cond} {own : String}
theorem mg_ciR {y : MethodName} {bytes : ByteArray} {maxL n index d : Nat} {rt : FieldType} {C : String} {b q0 ci N : Nat} {fs As st0 : List Value} {T : u_T} {post : Int32 → va_W → Prop} (C0 : CallFix p m c cc nL s args (cd :: gw_) own) (hM : mg_I l y bytes maxL rt d D cl tys (.ref b :: As) ws post) (hlk : mg_lv own index C y bytes maxL (some rt) n) (hd : d + 1 ≤ R.frames ∧ 8 + (maxL + 11) + 40 * d ≤ R.locals) (hf : cells ≤ R.cells ∧ slots ≤ R.slots) (hq : ws[q0]? = some (b, .inr (ci, fs))) (hc : cl[ci]? = some (C, T, N)) (hK : va_K D cl tys s) (hP : va_P D cl ws H) (hD : va_D A ws) (hS : va_S A s.heap H locs) (hA : ∀ q, s.heap.size ≤ q → A q) (hn : As.length = n) (hls : ls.size = nL) (hst : st0 = As.reverse ++ .ref b :: rest) (hcat : (rest.map fun v => v.category).sum ≤ 8) (hdg : decode cc pc = .ok (.invokevirtual index, 3))
    (kk : ∀ (r : Int32) (ws' : va_W) (H1 : Heap) (locs1 : List Loc), post r ws' → va_P D cl ws' H1 → va_D A ws' → va_S A s.heap H1 locs1 → W p l e R s m args below meth c H1 locs1 cells slots Q (F0 m (pc + 3) ls (.int r :: rest))) : W p l e R s m args below meth c H locs cells slots Q (F0 m pc ls st0) := by
  have hF := mg_F hD hS hA
  refine va_calli (va_runV (As := As) (rest := rest) C0 (hM H.size) (cwV n C0.2.2.2.2 (mg_gv hlk cd) rfl rfl rfl hlk.2.2.2.2.2 hd) ⟨mg_blind _ _ _, va_recv hK hP hc hq, mg_at hK hP hD⟩ rfl hn hls hst (lv_room hcat) hdg hf) hS (fun q _ h => hF q h) hF (fun r u t H1 locs1 ht hvm hp hB hz hk hS1 => ?_)
  obtain ⟨hP1, hK1, hD1⟩ := hB
  rw [ht] at hP1
  exact kk r u H1 locs1 hp hP1 (hD1.weaken (fun _ _ _ h => hF _ h)) hS1
theorem mg_cvR {y : MethodName} {bytes : ByteArray} {maxL n index d : Nat} {C : String} {b q0 ci N : Nat} {fs As st0 : List Value} {T : u_T} {post : va_W → Prop} (C0 : CallFix p m c cc nL s args (cd :: gw_) own) (hM : mg_V l y bytes maxL d D cl tys (.ref b :: As) ws post) (hlk : mg_lv own index C y bytes maxL none n) (hd : d + 1 ≤ R.frames ∧ 8 + (maxL + 11) + 40 * d ≤ R.locals) (hf : cells ≤ R.cells ∧ slots ≤ R.slots) (hq : ws[q0]? = some (b, .inr (ci, fs))) (hc : cl[ci]? = some (C, T, N)) (hK : va_K D cl tys s) (hP : va_P D cl ws H) (hD : va_D A ws) (hS : va_S A s.heap H locs) (hA : ∀ q, s.heap.size ≤ q → A q) (hn : As.length = n) (hls : ls.size = nL) (hst : st0 = As.reverse ++ .ref b :: rest) (hcat : (rest.map fun v => v.category).sum ≤ 8) (hdg : decode cc pc = .ok (.invokevirtual index, 3))
    (kk : ∀ (ws' : va_W) (H1 : Heap) (locs1 : List Loc), post ws' → va_P D cl ws' H1 → va_D A ws' → va_S A s.heap H1 locs1 → W p l e R s m args below meth c H1 locs1 cells slots Q (F0 m (pc + 3) ls rest)) : W p l e R s m args below meth c H locs cells slots Q (F0 m pc ls st0) := by
  have hF := mg_F hD hS hA
  refine va_callv (va_runV (As := As) (rest := rest) C0 (hM H.size) (cwV n C0.2.2.2.2 (mg_gv hlk cd) rfl rfl rfl hlk.2.2.2.2.2 hd) ⟨mg_blind _ _ _, va_recv hK hP hc hq, mg_at hK hP hD⟩ rfl hn hls hst (lv_room hcat) hdg hf) hS (fun q _ h => hF q h) hF (fun u t H1 locs1 ht hvm hp hB hz hk hS1 => ?_)
  obtain ⟨hP1, hK1, hD1⟩ := hB
  rw [ht] at hP1
  exact kk u H1 locs1 hp hP1 (hD1.weaken (fun _ _ _ h => hF _ h)) hS1
theorem mg_siR {y : MethodName} {bytes : ByteArray} {maxL n index d : Nat} {rt : FieldType} {As st0 : List Value} {post : Int32 → va_W → Prop} (C0 : CallFix p m c cc nL s args (cd :: gw_) own) (hM : mg_I l y bytes maxL rt d D cl tys As ws post) (hlk : mg_ls own index y bytes maxL (some rt) n) (hd : d + 1 ≤ R.frames ∧ 8 + (maxL + 11) + 40 * d ≤ R.locals) (hf : cells ≤ R.cells ∧ slots ≤ R.slots) (hK : va_K D cl tys s) (hP : va_P D cl ws H) (hD : va_D A ws) (hS : va_S A s.heap H locs) (hA : ∀ q, s.heap.size ≤ q → A q) (hn : As.length = n) (hls : ls.size = nL) (hst : st0 = As.reverse ++ rest) (hcat : (rest.map fun v => v.category).sum ≤ 8) (hdg : decode cc pc = .ok (.invokestatic index, 3))
    (kk : ∀ (r : Int32) (ws' : va_W) (H1 : Heap) (locs1 : List Loc), post r ws' → va_P D cl ws' H1 → va_D A ws' → va_S A s.heap H1 locs1 → W p l e R s m args below meth c H1 locs1 cells slots Q (F0 m (pc + 3) ls (.int r :: rest))) : W p l e R s m args below meth c H locs cells slots Q (F0 m pc ls st0) := by
  have hF := mg_F hD hS hA
  refine va_calli (va_runS (As := As) (rest := rest) C0 (hM H.size) (va_cwS n C0.2.2.2.2 (mg_gs hlk cd) rfl rfl rfl hlk.2.2.2.2 hd) ⟨mg_blind _ _ _, mg_at hK hP hD⟩ rfl hn hls hst (lv_room hcat) hdg hf) hS (fun q _ h => hF q h) hF (fun r u t H1 locs1 ht hvm hp hB hz hk hS1 => ?_)
  obtain ⟨hP1, hK1, hD1⟩ := hB
  rw [ht] at hP1
  exact kk r u H1 locs1 hp hP1 (hD1.weaken (fun _ _ _ h => hF _ h)) hS1
/-- the call of a constructor -/
theorem mg_inR {y : MethodName} {bytes : ByteArray} {maxL n index d mc ms : Nat} {b : Nat} {As st0 : List Value} {post : va_W → Prop} (C0 : CallFix p m c cc nL s args (cd :: gw_) own) (hM : mg_N l y bytes maxL d mc ms D cl tys (.ref b :: As) ws post) (hlk : mg_li own index y bytes maxL n) (hy : y.name = "<init>") (hd : d + 1 ≤ R.frames ∧ 8 + (maxL + 11) + 40 * d ≤ R.locals) (hf : cells + mc ≤ R.cells ∧ slots + ms ≤ R.slots) (hK : va_K D cl tys s) (hP : va_P D cl ws H) (hD : va_D A ws) (hS : va_S A s.heap H locs) (hA : ∀ q, s.heap.size ≤ q → A q) (hn : As.length = n) (hls : ls.size = nL) (hst : st0 = As.reverse ++ .ref b :: rest) (hcat : (rest.map fun v => v.category).sum ≤ 8) (hdg : decode cc pc = .ok (.invokespecial index, 3))
    (kk : ∀ (ws' : va_W) (H1 : Heap) (locs1 : List Loc), post ws' → va_P D cl ws' H1 → va_D A ws' → va_S A s.heap H1 locs1 → W p l e R s m args below meth c H1 locs1 (cells + mc) (slots + ms) Q (F0 m (pc + 3) ls rest)) : W p l e R s m args below meth c H locs cells slots Q (F0 m pc ls st0) := by
  have hF := mg_F hD hS hA
  have hw : ∀ w ∈ gw_, w.before args s = true := fun w h => C0.2.2.2.2 _ (List.mem_cons_of_mem _ h)
  refine va_callv (va_runI (As := As) (rest := rest) C0 (hM H.size) (cwI n C0.2.2.2.2 (mg_gc hlk.2.2.2.1 cd) rfl rfl rfl (hw _ hlk.2.2.1) (hw _ hlk.1) (hw _ hlk.2.1) hy hlk.2.2.2.2 hd) ⟨mg_blind _ _ _, mg_at hK hP hD⟩ rfl hn hls hst (lv_room hcat) hdg hf) hS (fun q _ h => hF q h) hF (fun u t H1 locs1 ht hvm hp hB hz hk hS1 => ?_)
  obtain ⟨hP1, hK1, hD1⟩ := hB
  rw [ht] at hP1
  exact kk u H1 locs1 hp hP1 (hD1.weaken (fun _ _ _ h => hF _ h)) hS1
/-- a new object -/
theorem mg_new (C0 : CallFix p m c cc nL s args (cd :: gw_) own) {C : String} {T : u_T} {N ci index k : Nat} (hin : ∀ w ∈ u_ws C T N, w ∈ gw_) {ty : Nat → FieldType} (hty : ∀ k, k < N → parseFieldDescriptor (T k).2.2.1 = some (ty k)) (hcl : Cond.classLink own index C ∈ gw_) (hinst : Cond.instantiable C N ∈ gw_) (hini : Cond.initialized C ∈ gw_) (hK : va_K D cl tys s) (hP : va_P D cl ws H) (hD : va_D A ws) (hS : va_S A s.heap H locs) (hA : ∀ q, s.heap.size ≤ q → A q) (hc : cl[ci]? = some (C, T, N)) {fs : List Value} (hfs : ∀ j, j < N → defaultValue (ty j) = vp_V fs j) (hlen : ws.length = k) (hcells : cells + 1 ≤ R.cells) (hslots : slots + N ≤ R.slots) (hdg : decode cc pc = .ok (.new index, 3))
    (kk : ∀ (q : Nat) (ws' : va_W) (H1 : Heap), (∀ j, j ≠ k → ws'[j]? = ws[j]?) → ws'[k]? = some (q, .inr (ci, fs)) → va_P D cl ws' H1 → va_D A ws' → va_S A s.heap H1 locs → W p l e R s m args below meth c H1 locs (cells + 1) (slots + N) Q (F0 m (pc + 3) ls (.ref q :: rest))) : W p l e R s m args below meth c H locs cells slots Q (F0 m pc ls rest) := by
  have hw : ∀ w ∈ gw_, w.before args s = true := fun w h => C0.2.2.2.2 _ (List.mem_cons_of_mem _ h)
  exact va_new C0.1 C0.2.1 hw hin ty hty C0.2.2.2.1 (hw _ hcl) (hw _ hinst) (hw _ hini) hK hP hD hS hA hc hfs hcells hslots hdg (fun q H1 hP1 hD1 hS1 => kk q _ H1 (mg_app _ hlen).1 (mg_app _ hlen).2 hP1 hD1 hS1)
/-- a new array of numbers -/
theorem mg_newa (C0 : CallFix p m c cc nL s args (cd :: gw_) own) {atype : ArrayType} {ty : FieldType} {k N' : Nat} {cA : ClassId} {a0 : vp_A} (harr : Cond.arrayClass (newarray.typeOf atype) ∈ gw_) (hty : newarray.typeOf atype = ty) (hra : ∀ c', va_RA s c' ty → c' = cA) (hK : va_K D cl tys s) (hP : va_P D cl ws H) (hD : va_D A ws) (hS : va_S A s.heap H locs) (hA : ∀ q, s.heap.size ≤ q → A q) (ha : ∀ cA : ClassId, vp_cell cA a0 = arrV cA N' (fun _ => defaultValue ty)) (hN : N' < 2 ^ 31) (hbytes : N' * componentBytes ty ≤ 536870912) (hlen : ws.length = k) (hcells : cells + 1 ≤ R.cells) (hslots : slots + N' ≤ R.slots) (hdg : decode cc pc = .ok (.newarray atype, 2))
    (kk : ∀ (q : Nat) (ws' : va_W) (H1 : Heap), (∀ j, j ≠ k → ws'[j]? = ws[j]?) → ws'[k]? = some (q, .inl (cA, a0)) → va_P D cl ws' H1 → va_D A ws' → va_S A s.heap H1 locs → W p l e R s m args below meth c H1 locs (cells + 1) (slots + N') Q (F0 m (pc + 2) ls (.ref q :: rest))) : W p l e R s m args below meth c H locs cells slots Q (F0 m pc ls (.int (nI N') :: rest)) := by
  have hw : ∀ w ∈ gw_, w.before args s = true := fun w h => C0.2.2.2.2 _ (List.mem_cons_of_mem _ h)
  refine va_newa C0.1 C0.2.1 (hw _ harr) hty hK hP hD hS hA ha (nI_pos hN) (nI_clamp hN) hbytes hcells hslots hdg (fun q cA' H1 hK1 hP1 hD1 hS1 => ?_)
  have e : cA' = cA := hra _ (hK1.2 tys.length (cA', ty) (by rw [List.getElem?_append_right (Nat.le_refl _), Nat.sub_self]; rfl)).2
  subst e
  exact kk q _ H1 (mg_app _ hlen).1 (mg_app _ hlen).2 hP1 hD1 hS1
/-- a new array of objects -/
theorem mg_newq (C0 : CallFix p m c cc nL s args (cd :: gw_) own) {C : String} {index k N' : Nat} {cA : ClassId} (hcl : Cond.classLink own index C ∈ gw_) (hover : Cond.arrayOver (.object C) ∈ gw_) (hra : ∀ c', va_RA s c' (.object C) → c' = cA) (hK : va_K D cl tys s) (hP : va_P D cl ws H) (hD : va_D A ws) (hS : va_S A s.heap H locs) (hA : ∀ q, s.heap.size ≤ q → A q) (hN : N' < 2 ^ 31) (hbytes : N' * 4 ≤ 536870912) (hlen : ws.length = k) (hcells : cells + 1 ≤ R.cells) (hslots : slots + N' ≤ R.slots) (hdg : decode cc pc = .ok (.anewarray index, 3))
    (kk : ∀ (q : Nat) (ws' : va_W) (H1 : Heap), (∀ j, j ≠ k → ws'[j]? = ws[j]?) → ws'[k]? = some (q, .inl (cA, N', .inr (.inr (.inr (.inr (fun _ => none)))))) → va_P D cl ws' H1 → va_D A ws' → va_S A s.heap H1 locs → W p l e R s m args below meth c H1 locs (cells + 1) (slots + N') Q (F0 m (pc + 3) ls (.ref q :: rest))) : W p l e R s m args below meth c H locs cells slots Q (F0 m pc ls (.int (nI N') :: rest)) := by
  have hw : ∀ w ∈ gw_, w.before args s = true := fun w h => C0.2.2.2.2 _ (List.mem_cons_of_mem _ h)
  refine va_newq C0.1 C0.2.1 C0.2.2.2.1 (hw _ hcl) (va_AO.of (hw _ hover)) hK hP hD hS hA (nI_pos hN) (nI_clamp hN) hbytes hcells hslots hdg (fun q cA' H1 hK1 hP1 hD1 hS1 => ?_)
  have e : cA' = cA := hra _ (hK1.2 tys.length (cA', .object C) (by rw [List.getElem?_append_right (Nat.le_refl _), Nat.sub_self]; rfl)).2
  subst e
  exact kk q _ H1 (mg_app _ hlen).1 (mg_app _ hlen).2 hP1 hD1 hS1
/-- a final field, in its own constructor -/
theorem mg_putF (C0 : CallFix p m c cc nL s args (cd :: gw_) own) (hin2 : meth.name = "<init>") {C : String} {T : u_T} {N ci index : Nat} (hin : ∀ w ∈ u_ws C T N, w ∈ gw_) {ty0 : Nat → FieldType} (hty : ∀ k, k < N → parseFieldDescriptor (T k).2.2.1 = some (ty0 k)) (hnm : ∀ a, a < N → ∀ b, b < N → a ≠ b → (T a).2.1 ≠ (T b).2.1) (hK : va_K D cl tys s) (hP : va_P D cl ws H) (hD : va_D A ws) (hS : va_S A s.heap H locs) (q0 : Nat) {fs : List Value} (he : ws[q0]? = some (a, .inr (ci, fs))) (hc : cl[ci]? = some (C, T, N)) (k : Nat) (hk : k < N) (hl : Cond.fieldLink own index (T k).1 (T k).2.1 (T k).2.2.1 ∈ gw_) (hfin : (T k).2.2.2 = true) (hdecl : (T k).1 = own) {ty : FieldType} {v : Value} (hd : parseFieldDescriptor (T k).2.2.1 = some ty) (hn : narrow ty v = v) (hfit : fits ty v = true) (hlen : k < fs.length) {fs' : List Value} (hfs : fs.set k v = fs') (hdg : decode cc pc = .ok (.putfield index, 3))
    (kk : ∀ (ws' : va_W) (H1 : Heap) (locs1 : List Loc), (∀ j, j ≠ q0 → ws'[j]? = ws[j]?) → ws'[q0]? = some (a, .inr (ci, fs')) → va_P D cl ws' H1 → va_D A ws' → va_S A s.heap H1 locs1 → W p l e R s m args below meth c H1 locs1 cells slots Q (F0 m (pc + 3) ls rest)) : W p l e R s m args below meth c H locs cells slots Q (F0 m pc ls (v :: .ref a :: rest)) := by
  subst hfs
  exact va_putF C0.1 C0.2.1 C0.2.2.2.2 (fun w h => List.mem_cons_of_mem _ (hin w h)) ty0 hty hnm C0.2.2.2.1 hK hP hD hS q0 he hc k hk (C0.2.2.2.2 _ (List.mem_cons_of_mem _ hl)) (fun _ h => h) hfin hin2 hdecl hd hn hfit hlen hdg (fun H1 locs1 hP1 hD1 hS1 => kk _ H1 locs1 (fun j hj => List.getElem?_set_ne (Ne.symm hj)) (List.getElem?_set_self (List.getElem?_eq_some_iff.mp he).1) hP1 hD1 hS1)
/-- an object put into an array of objects -/
theorem mg_ast (C0 : CallFix p m c cc nL s args (cd :: gw_) own) (hK : va_K D cl tys s) (hP : va_P D cl ws H) (hD : va_D A ws) (hS : va_S A s.heap H locs) (q0 t0 qk ci : Nat) {cA : ClassId} {r : vw_C} {n v : Nat} {vs : List Value} {f : Nat → Option Nat} (ha : ws[q0]? = some (a, .inl (cA, n, .inr (.inr (.inr (.inr f)))))) (ht : tys[t0]? = some (cA, .object r.1)) (hv : ws[qk]? = some (v, .inr (ci, vs))) (hc : cl[ci]? = some r) {j : Nat} (hj : j < n) (hn : n < 2 ^ 31) (hdg : decode cc pc = .ok (.aastore, 1))
    (kk : ∀ (ws' : va_W) (H1 : Heap) (locs1 : List Loc), (∀ i, i ≠ q0 → ws'[i]? = ws[i]?) → ws'[q0]? = some (a, .inl (cA, n, .inr (.inr (.inr (.inr (va_up f j (some v))))))) → va_P D cl ws' H1 → va_D A ws' → va_S A s.heap H1 locs1 → W p l e R s m args below meth c H1 locs1 cells slots Q (F0 m (pc + 1) ls rest)) : W p l e R s m args below meth c H locs cells slots Q (F0 m pc ls (.ref v :: .int (nI j) :: .ref a :: rest)) := by
  refine va_astq C0.1 C0.2.1 hK hP hD hS q0 t0 qk ci ha ht hv hc (vp_in_nI hj hn) hdg ?_
  rw [nI_clamp (by omega)]
  exact fun H1 locs1 hP1 hD1 hS1 => kk _ H1 locs1 (fun i hi => List.getElem?_set_ne (Ne.symm hi)) (List.getElem?_set_self (List.getElem?_eq_some_iff.mp ha).1) hP1 hD1 hS1
/-- the constructor of Object -/
theorem mg_obj (C0 : CallFix p m c cc nL s args (cd :: gw_) own) {idx : Nat} (hl1 : Cond.methodLink own idx Lib.objectInit ∈ gw_) (hl2 : Cond.instanceMethod Lib.objectInit ∈ gw_) (hl3 : Cond.code Lib.objectInit ⟨#[0xb1]⟩ 1 none ∈ gw_) (hls : ls.size = nL) (hf : 1 ≤ R.frames) (hlo : (rest.map fun v => v.category).sum + 12 ≤ R.locals) (hdg : decode cc pc = .ok (.invokespecial idx, 3)) (kk : W p l e R s m args below meth c H locs cells slots Q (F0 m (pc + 3) ls rest)) : W p l e R s m args below meth c H locs cells slots Q (F0 m pc ls (.ref a :: rest)) := by
  have hw : ∀ w ∈ gw_, w.before args s = true := fun w h => C0.2.2.2.2 _ (List.mem_cons_of_mem _ h)
  exact W.objInit C0.1 C0.2.1 C0.2.2.2.1 (hw _ hl1) (hw _ hl2) (hw _ hl3) rfl (hls.trans C0.2.2.1.symm) rfl hdg hf (by show 2 * 0 + _ + 12 ≤ _; omega) kk
end MGR
/-- a walk of its body gives a constructor's contract -/
theorem mg_openN {l : Launch} {y : MethodName} {d mc ms : Nat} {D : va_G} {cl : List vw_C} {tys : List (ClassId × FieldType)} {av : List Value} {ws : va_W} {post : va_W → Prop} {cc : ByteArray} {maxL : Nat} {own : String} (ho : y.cls = own) (hy : plainName y.cls = true) (hyn : y.name = "<init>") (hav : (lg_sl av).length ≤ maxL)
    (body : ∀ (p : Program) (e : Env) (s : State) (m : MethodId) (args : Array Value) (below : List Frame) (meth : Method) (c : Code) (A : Nat → Prop) (Q : State → Prop) (ls : Array Slot), CallFix p m c cc maxL s args (Cond.code y cc maxL none :: gw_) own → meth.name = "<init>" → va_K D cl tys s → (∀ q, s.heap.size ≤ q → A q) → va_P D cl ws s.heap → va_D A ws → va_S A s.heap s.heap [] → lv_has ls maxL (lv_args 0 av) → (∀ (w : va_W) (H : Heap) (locs : List Loc) (pc : Nat) (ls : Array Slot), post w → va_P D cl w H → va_D A w → va_S A s.heap H locs → decode cc pc = .ok (.return_, 1) → W p l e (mg_rn d mc ms) s m args below meth c H locs mc ms Q (F0 m pc ls [])) → W p l e (mg_rn d mc ms) s m args below meth c s.heap [] 0 0 Q (F0 m 0 ls [])) : mg_N l y cc maxL d mc ms D cl tys av ws post := by
  intro sz
  refine Met.ofW (cc := cc) (maxL := maxL) (ret := none) hy rfl ?_
  intro p e s m args below meth c s₁ B hml hv
  obtain ⟨rfl, hsz, hP, hK, hD0⟩ := hv
  have hr := B.returns
  have hlk := B.notSynchronized
  have hnm : meth.name = "<init>" := (name_of_methodNamed B.named B.method).1.trans hyn
  subst hsz
  have hl := lv_entry av (n := maxL) hav
  rw [lg_entry_eq]
  refine body p e s m _ below meth c (va_A ws s.heap.size) _ _ ⟨B.exec, B.bytes, hml, ho ▸ findClass_of_methodNamed B.named, atoms_spec (ws := Cond.code y cc maxL none :: gw_) B.pre⟩ hnm hK (fun q h => Or.inr h) hP hD0.self va_S.rf hl ?_
  intro w H locs pc ls hp hP1 hD1 hS1 hdg
  exact W.vret B.exec B.bytes hr (fun t ht hW => ⟨⟨w, rfl, hp, by rw [ht]; exact hP1, va_K.moved hW.alike hK, hD1⟩, hS1.F ht⟩) hS1.2.2 hdg hlk
