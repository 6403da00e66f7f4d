/-! The same rows for a constructor that makes an array of objects -/
abbrev mg_PreA (CA : String) (D : va_G) (cl : List vw_C) (tys : List (ClassId × FieldType)) (av : List Value) (ws : va_W) (sz : Nat) : Array Value → State → Prop := fun v U => mg_Pre D cl tys av ws sz v U ∧ va_AO CA U
def mg_NA (CA : String) (l : Launch) (y : MethodName) (cc : ByteArray) (maxL : Nat) (d mc ms : Nat) (D : va_G) (cl : List vw_C) (tys : List (ClassId × FieldType)) (av : List Value) (ws : va_W) (post : va_W → Prop) : Prop := ∀ sz : Nat, Met l y (Cond.code y cc maxL none :: gw_) (mg_rn d mc ms) (mg_PreA CA D cl tys av ws sz) (va_Qv post (mg_B D cl tys (va_A ws sz)) (va_A ws sz)) mc ms (va_A ws sz)
theorem mg_blindA {CA : String} {D : va_G} {cl : List vw_C} {tys : List (ClassId × FieldType)} (av : List Value) (ws : va_W) (sz : Nat) : FrameBlind (mg_PreA CA D cl tys av ws sz) := fun x U g mk q => ⟨mg_blind _ _ _ x U g mk q.1, va_AO.moved (u := U) (U := U.calling g mk x) (Vm.Alike.refl U.vm) q.2⟩
section MGS
variable {p : Program} {l : Launch} {e : Env} {R : Room} {s : State} {m : MethodId} {args : Array Value} {below : List Frame} {meth : Method} {c : Code} {H : Heap} {locs : List Loc} {cells slots : Nat} {Q : State → Prop}
variable {cc : ByteArray} {pc nL : Nat} {ls : Array Slot} {rest : List Value} {D : va_G} {cl : List vw_C} {A : Nat → Prop} {a : Nat} {tys : List (ClassId × FieldType)} {ws : va_W} {cd : Cond} {own : String}
/-- a new array of objects -/
theorem mg_newqA (C0 : CallFix p m c cc nL s args (cd :: gw_) own) {C : String} {index k N' : Nat} {cA : ClassId} (hcl : Cond.classLink own index C ∈ gw_) (hover : va_AO C s) (hra : ∀ c', va_RA s c' (.object C) → c' = cA) (hK : va_K D cl tys s) (hP : va_P D cl ws H) (hD : va_D A ws) (hS : va_S A s.heap H locs) (hA : ∀ q, s.heap.size ≤ q → A q) (hN : N' < 2 ^ 31) (hbytes : N' * 4 ≤ 536870912) (hlen : ws.length = k) (hcells : cells + 1 ≤ R.cells) (hslots : slots + N' ≤ R.slots) (hdg : decode cc pc = .ok (.anewarray index, 3))
    (kk : ∀ (q : Nat) (ws' : va_W) (H1 : Heap), (∀ j, j ≠ k → ws'[j]? = ws[j]?) → ws'[k]? = some (q, .inl (cA, N', .inr (.inr (.inr (.inr (fun _ => none)))))) → va_P D cl ws' H1 → va_D A ws' → va_S A s.heap H1 locs → W p l e R s m args below meth c H1 locs (cells + 1) (slots + N') Q (F0 m (pc + 3) ls (.ref q :: rest))) : W p l e R s m args below meth c H locs cells slots Q (F0 m pc ls (.int (nI N') :: rest)) := by
  have hw : ∀ w ∈ gw_, w.before args s = true := fun w h => C0.2.2.2.2 _ (List.mem_cons_of_mem _ h)
  refine va_newq C0.1 C0.2.1 C0.2.2.2.1 (hw _ hcl) hover hK hP hD hS hA (nI_pos hN) (nI_clamp hN) hbytes hcells hslots hdg (fun q cA' H1 hK1 hP1 hD1 hS1 => ?_)
  have e : cA' = cA := hra _ (hK1.2 tys.length (cA', .object C) (by rw [List.getElem?_append_right (Nat.le_refl _), Nat.sub_self]; rfl)).2
  subst e
  exact kk q _ H1 (mg_app _ hlen).1 (mg_app _ hlen).2 hP1 hD1 hS1
/-- the call of a constructor -/
theorem mg_inRA {CA : String} (hao : va_AO CA s) {y : MethodName} {bytes : ByteArray} {maxL n index d mc ms : Nat} {b : Nat} {As st0 : List Value} {post : va_W → Prop} (C0 : CallFix p m c cc nL s args (cd :: gw_) own) (hM : mg_NA CA l y bytes maxL d mc ms D cl tys (.ref b :: As) ws post) (hlk : mg_li own index y bytes maxL n) (hy : y.name = "<init>") (hd : d + 1 ≤ R.frames ∧ 8 + (maxL + 11) + 40 * d ≤ R.locals) (hf : cells + mc ≤ R.cells ∧ slots + ms ≤ R.slots) (hK : va_K D cl tys s) (hP : va_P D cl ws H) (hD : va_D A ws) (hS : va_S A s.heap H locs) (hA : ∀ q, s.heap.size ≤ q → A q) (hn : As.length = n) (hls : ls.size = nL) (hst : st0 = As.reverse ++ .ref b :: rest) (hcat : (rest.map fun v => v.category).sum ≤ 8) (hdg : decode cc pc = .ok (.invokespecial index, 3))
    (kk : ∀ (ws' : va_W) (H1 : Heap) (locs1 : List Loc), post ws' → va_P D cl ws' H1 → va_D A ws' → va_S A s.heap H1 locs1 → W p l e R s m args below meth c H1 locs1 (cells + mc) (slots + ms) Q (F0 m (pc + 3) ls rest)) : W p l e R s m args below meth c H locs cells slots Q (F0 m pc ls st0) := by
  have hF := mg_F hD hS hA
  have hw : ∀ w ∈ gw_, w.before args s = true := fun w h => C0.2.2.2.2 _ (List.mem_cons_of_mem _ h)
  refine va_callv (va_runI (As := As) (rest := rest) C0 (hM H.size) (cwI n C0.2.2.2.2 (mg_gc hlk.2.2.2.1 cd) rfl rfl rfl (hw _ hlk.2.2.1) (hw _ hlk.1) (hw _ hlk.2.1) hy hlk.2.2.2.2 hd) ⟨mg_blindA _ _ _, fun U hU hW => ⟨mg_at hK hP hD U hU hW, va_AO.moved hW.alike hao⟩⟩ rfl hn hls hst (lv_room hcat) hdg hf) hS (fun q _ h => hF q h) hF (fun u t H1 locs1 ht hvm hp hB hz hk hS1 => ?_)
  obtain ⟨hP1, hK1, hD1⟩ := hB
  rw [ht] at hP1
  exact kk u H1 locs1 hp hP1 (hD1.weaken (fun _ _ _ h => hF _ h)) hS1
end MGS
/-- a walk of its body gives a constructor's contract -/
theorem mg_openNA {CA : String} {l : Launch} {y : MethodName} {d mc ms : Nat} {D : va_G} {cl : List vw_C} {tys : List (ClassId × FieldType)} {av : List Value} {ws : va_W} {post : va_W → Prop} {cc : ByteArray} {maxL : Nat} {own : String} (ho : y.cls = own) (hy : plainName y.cls = true) (hyn : y.name = "<init>") (hav : (lg_sl av).length ≤ maxL)
    (body : ∀ (p : Program) (e : Env) (s : State) (m : MethodId) (args : Array Value) (below : List Frame) (meth : Method) (c : Code) (A : Nat → Prop) (Q : State → Prop) (ls : Array Slot), CallFix p m c cc maxL s args (Cond.code y cc maxL none :: gw_) own → meth.name = "<init>" → va_AO CA s → va_K D cl tys s → (∀ q, s.heap.size ≤ q → A q) → va_P D cl ws s.heap → va_D A ws → va_S A s.heap s.heap [] → lv_has ls maxL (lv_args 0 av) → (∀ (w : va_W) (H : Heap) (locs : List Loc) (pc : Nat) (ls : Array Slot), post w → va_P D cl w H → va_D A w → va_S A s.heap H locs → decode cc pc = .ok (.return_, 1) → W p l e (mg_rn d mc ms) s m args below meth c H locs mc ms Q (F0 m pc ls [])) → W p l e (mg_rn d mc ms) s m args below meth c s.heap [] 0 0 Q (F0 m 0 ls [])) : mg_NA CA l y cc maxL d mc ms D cl tys av ws post := by
  intro sz
  refine Met.ofW (cc := cc) (maxL := maxL) (ret := none) hy rfl ?_
  intro p e s m args below meth c s₁ B hml hv
  obtain ⟨⟨rfl, hsz, hP, hK, hD0⟩, hao⟩ := hv
  have hr := B.returns
  have hlk := B.notSynchronized
  have hnm : meth.name = "<init>" := (name_of_methodNamed B.named B.method).1.trans hyn
  subst hsz
  have hl := lv_entry av (n := maxL) hav
  rw [lg_entry_eq]
  refine body p e s m _ below meth c (va_A ws s.heap.size) _ _ ⟨B.exec, B.bytes, hml, ho ▸ findClass_of_methodNamed B.named, atoms_spec (ws := Cond.code y cc maxL none :: gw_) B.pre⟩ hnm hao hK (fun q h => Or.inr h) hP hD0.self va_S.rf hl ?_
  intro w H locs pc ls hp hP1 hD1 hS1 hdg
  exact W.vret B.exec B.bytes hr (fun t ht hW => ⟨⟨w, rfl, hp, by rw [ht]; exact hP1, va_K.moved hW.alike hK, hD1⟩, hS1.F ht⟩) hS1.2.2 hdg hlk
