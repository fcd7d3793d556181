section VN
variable {p : Program} {l : Launch} {e : Env} {R : Room} {s : State} {m : MethodId} {args : Array Value} {below : List Frame} {meth : Method} {c : Code} {Q : State → Prop} {D : va_G} {cl : List vw_C} {tys : List (ClassId × FieldType)} {A : Nat → Prop} {nL kc ks : Nat} {ws : va_W} {pc pc' : Nat} {lv : List (Nat × Value)} {st rest : List Value} {cc bytes : ByteArray} {Ts wy : List Cond} {own host : String} {y : MethodName} {maxL index mc ms b : Nat} {rm : Room}
theorem v_newa (g : CallFix p m c cc nL s args Ts own) {atype : ArrayType} (harr : Cond.arrayClass (newarray.typeOf atype) ∈ Ts) {ty : FieldType} (hty : newarray.typeOf atype = ty) (hK : va_K D cl tys s) (hA : ∀ q, s.heap.size ≤ q → A q) {n : Int32} {N' : Nat} {a0 : vp_A} (ha : ∀ cA : ClassId, vp_cell cA a0 = arrV cA N' (fun _ => defaultValue ty)) (hn : ¬ n < 0) (hN : n.toNatClampNeg = N') {B : Nat} (hB : componentBytes ty = B) (hbytes : N' * B ≤ 536870912) (hcells : kc + 1 ≤ R.cells) (hslots : ks + N' ≤ R.slots) (hdg : decode cc pc = .ok (.newarray atype, 2)) (hp : pc + 2 = pc')
    (kk : ∀ (q : Nat) (cA : ClassId), va_K D cl (tys ++ [(cA, ty)]) s → Vj p l e R s m args below meth c Q D cl A nL (kc + 1) (ks + N') (ws ++ [(q, .inl (cA, a0))]) pc' lv (.ref q :: st)) : Vj p l e R s m args below meth c Q D cl A nL kc ks ws pc lv (.int n :: st) := by
  subst hp
  exact fun H locs ls hP hD hS hh => va_newa g.1 g.2.1 (g.2.2.2.2 _ harr) hty hK hP hD hS hA ha hn hN (by rw [hB]; exact hbytes) hcells hslots hdg (fun q cA H1 hK1 hP1 hD1 hS1 => kk q cA hK1 H1 locs ls hP1 hD1 hS1 hh)
theorem v_new (g : CallFix p m c cc nL s args Ts own) {C : String} {T : u_T} {N ci : Nat} (hin : ∀ w ∈ u_ws C T N, w ∈ Ts) (ty : Nat → FieldType) (hty : ∀ k, k < N → parseFieldDescriptor (T k).2.2.1 = some (ty k)) (hcl : Cond.classLink own index C ∈ Ts) (hinst : Cond.instantiable C N ∈ Ts) (hini : Cond.initialized C ∈ Ts) (hK : va_K D cl tys s) (hA : ∀ q, s.heap.size ≤ q → A q) (hc : cl[ci]? = some (C, T, N)) {fs : List Value} (hfs : ∀ j, j < N → defaultValue (ty j) = vp_V fs j) (hcells : kc + 1 ≤ R.cells) (hslots : ks + N ≤ R.slots) (hdg : decode cc pc = .ok (.new index, 3)) (hp : pc + 3 = pc')
    (kk : ∀ (q : Nat), Vj p l e R s m args below meth c Q D cl A nL (kc + 1) (ks + N) (ws ++ [(q, .inr (ci, fs))]) pc' lv (.ref q :: st)) : Vj p l e R s m args below meth c Q D cl A nL kc ks ws pc lv st := by
  subst hp
  exact fun H locs ls hP hD hS hh => va_new g.1 g.2.1 g.2.2.2.2 hin ty hty g.2.2.2.1 (g.2.2.2.2 _ hcl) (g.2.2.2.2 _ hinst) (g.2.2.2.2 _ hini) hK hP hD hS hA hc hfs hcells hslots hdg (fun q H1 hP1 hD1 hS1 => kk q H1 locs ls hP1 hD1 hS1 hh)
theorem v_putF (g : CallFix p m c cc nL s args Ts own) (hin2 : meth.name = "<init>") (hK : va_K D cl tys s) {C : String} {T : u_T} {N ci a : Nat} (hin : ∀ w ∈ u_ws C T N, w ∈ Ts) (ty0 : Nat → FieldType) (hty : ∀ k, k < N → parseFieldDescriptor (T k).2.2.1 = some (ty0 k)) (hnm : ∀ a, a < N → ∀ b, b < N → a ≠ b → (T a).2.1 ≠ (T b).2.1) (q0 : Nat) {fs : List Value} (he : ws[q0]? = some (a, .inr (ci, fs))) (hc : cl[ci]? = some (C, T, N)) (k : Nat) (hk : k < N) (hlink : Cond.fieldLink own index (T k).1 (T k).2.1 (T k).2.2.1 ∈ Ts) (hfin : (T k).2.2.2 = true) (hdecl : (T k).1 = own) {ty : FieldType} {v : Value} (hd : parseFieldDescriptor (T k).2.2.1 = some ty) (hn : narrow ty v = v) (hfit : fits ty v = true) (hl : k < fs.length) {ws' : va_W} (hws : ws.set q0 (a, .inr (ci, fs.set k v)) = ws') (hdg : decode cc pc = .ok (.putfield index, 3)) (hp : pc + 3 = pc') (kk : Vj p l e R s m args below meth c Q D cl A nL kc ks ws' pc' lv st) : Vj p l e R s m args below meth c Q D cl A nL kc ks ws pc lv (v :: .ref a :: st) := by
  subst hp; subst hws
  exact fun H locs ls hP hD hS hh => va_putF g.1 g.2.1 g.2.2.2.2 hin ty0 hty hnm g.2.2.2.1 hK hP hD hS q0 he hc k hk (g.2.2.2.2 _ hlink) (fun _ h9 => h9) hfin hin2 hdecl hd hn hfit hl hdg (fun H1 locs1 hP1 hD1 hS1 => kk H1 locs1 ls hP1 hD1 hS1 hh)
theorem v_objInit (g : CallFix p m c cc nL s args Ts own) {a : Nat} (h1 : Cond.methodLink own index objectInit ∈ Ts) (h2 : Cond.instanceMethod objectInit ∈ Ts) (h3 : Cond.code objectInit ⟨#[0xb1]⟩ 1 none ∈ Ts) (hdg : decode cc pc = .ok (.invokespecial index, 3)) (hfr : 1 ≤ R.frames) (hlo : (rest.map fun v => v.category).sum + 12 ≤ R.locals) (hp : pc + 3 = pc') (kk : Vj p l e R s m args below meth c Q D cl A nL kc ks ws pc' lv rest) : Vj p l e R s m args below meth c Q D cl A nL kc ks ws pc lv (.ref a :: rest) := by
  subst hp
  intro H locs ls hP hD hS hh
  refine W.objInit g.1 g.2.1 g.2.2.2.1 (g.2.2.2.2 _ h1) (g.2.2.2.2 _ h2) (g.2.2.2.2 _ h3) rfl (by rw [g.2.2.1]; exact hh.1) rfl hdg hfr (by simpa [JFrame.monitorRoom] using hlo) ?_
  exact kk H locs ls hP hD hS hh
/-- a constructor's end: some world wx u comes out -/
def qN {υ : Type} (D : va_G) (cl : List vw_C) (wx : υ → va_W) (tx : υ → List (ClassId × FieldType)) (A : Nat → Prop) := va_Qv (fun _ : υ => True) (fun u t => va_P D cl (wx u) t.heap ∧ va_K D cl (tx u) t ∧ va_D A (wx u)) A
variable {υ : Type} {wx : υ → va_W} {tx : υ → List (ClassId × FieldType)} {e0 : va_E}
theorem met_n {Pn : State → Prop} (hy : plainName y.cls = true) (hlen : 1 ≤ maxL)
    (body : ∀ (p : Program) (e : Env) (s : State) (m : MethodId) (below : List Frame) (meth : Method) (c : Code) (A : Nat → Prop), CallFix p m c cc maxL s #[.ref b] Ts y.cls → meth.sig.returnType = none → meth.locks = false → meth.name = "<init>" → va_K D cl [] s → (∀ q, s.heap.size ≤ q → A q) → Pn s →
      Vj p l e rm s m #[.ref b] below meth c (MQ below (qN D cl wx tx A) #[.ref b] s mc ms A) D cl A maxL 0 0 [(b, e0)] 0 [(0, .ref b)] []) (hin : y.name = "<init>") (sz : Nat) :
    Met l y (.code y cc maxL none :: Ts) rm (va_Pc [.ref b] (fun U => U.heap.size = sz ∧ va_P D cl [(b, e0)] U.heap ∧ va_K D cl [] U ∧ va_D (fun _ => True) [(b, e0)] ∧ Pn U)) (qN D cl wx tx (va_A [(b, e0)] sz)) mc ms (va_A [(b, e0)] sz) := by
  refine Met.ofW (cc := cc) (maxL := maxL) (ret := none) hy rfl ?_
  intro p e s m args below meth c s₁ B hml hv
  obtain ⟨rfl, hsz, hP, hK, hD0, hPn⟩ := hv
  subst hsz
  have hD := hD0.self (sz := s.heap.size)
  have hts := atoms_spec (ws := .code y cc maxL none :: Ts) B.pre
  have g : CallFix p m c cc maxL s #[.ref b] Ts y.cls := ⟨B.exec, B.bytes, hml, findClass_of_methodNamed B.named, fun w hw => hts w (List.mem_cons_of_mem _ hw)⟩
  have hl := lv_entry [Value.ref b] (n := maxL) hlen
  have hnm : meth.name = "<init>" := (name_of_methodNamed B.named B.method).1.trans hin
  rw [lg_entry_eq]
  exact body p e s m below meth c (va_A [(b, e0)] s.heap.size) g B.returns B.notSynchronized hnm hK (fun q h => Or.inr h) hPn s.heap [] _ hP hD va_S.rf hl
theorem v_nret {u : υ} (g : CallFix p m c cc nL s args Ts own) (hr : meth.sig.returnType = none) (hlk : meth.locks = false) (hK : va_K D cl (tx u) s) (hdg : decode cc pc = .ok (.return_, 1)) : Vj p l e R s m args below meth c (MQ below (qN D cl wx tx A) args s kc ks A) D cl A nL kc ks (wx u) pc lv [] := fun H locs ls hP hD hS hh => W.vret g.1 g.2.1 hr (fun t ht hW => ⟨⟨u, rfl, trivial, by rw [ht]; exact hP, va_K.moved hW.alike hK, hD⟩, hS.F ht⟩) hS.2.2 hdg hlk
theorem v_ctor {Pn : State → Prop} {wr : va_W} (g : CallFix p m c cc nL s args Ts own) (hK : va_K D cl tys s) (hA : ∀ q, s.heap.size ≤ q → A q) (hM : ∀ sz, Met l y wy rm (va_Pc [.ref b] (fun U => U.heap.size = sz ∧ va_P D cl [(b, e0)] U.heap ∧ va_K D cl [] U ∧ va_D (fun _ => True) [(b, e0)] ∧ Pn U)) (qN D cl wx tx (va_A [(b, e0)] sz)) mc ms (va_A [(b, e0)] sz)) (cw : CallB R s args own index y bytes maxL none wy rm mc ms 0 ∧ y.name = "<init>" ∧ (Cond.instanceMethod y).before args s = true) (hPb : ∀ (U : State) g mk (a : Array Value), Pn U → Pn (U.calling g mk a)) (hPs : ∀ U : State, s.WarmedH U.vm → Pn U) (k0 : Nat) (isR : List Nat) (he : ws[k0]? = some (b, e0)) (hR : isR.map (fun i => ws[i]?) = wr.map some) (hnd : va_nd isR = true) (hdis : ∀ i ∈ isR, i ∉ [k0]) (hrm : (rest.map fun v => v.category).sum ≤ 8) (hdg : decode cc pc = .ok (.invokespecial index, 3)) (hcell : kc + mc ≤ R.cells) (hslot : ks + ms ≤ R.slots) (hp : pc + 3 = pc')
    (kk : ∀ u : υ, va_K D cl (tys ++ tx u) s → Vj p l e R s m args below meth c Q D cl A nL (kc + mc) (ks + ms) (wr ++ wx u) pc' lv rest) : Vj p l e R s m args below meth c Q D cl A nL kc ks ws pc lv (.ref b :: rest) := by
  subst hp
  intro H locs ls hP hD hS hh
  have hC : [k0].map (fun i => ws[i]?) = [(b, e0)].map some := by simp [he]
  have hPc : va_P D cl [(b, e0)] H := hP.sub [k0] (by simp [he])
  have hDc : va_D A [(b, e0)] := hD.sub [k0] rfl hC
  have hFc := va_free (wc := [(b, e0)]) hD hS hA [k0] hC
  refine va_callv (va_runI (As := []) (rest := rest) g (hM H.size) cw ⟨fun a U g mk q => by obtain ⟨q0, q1, qP, qK, qD, qN⟩ := q; exact ⟨q0, q1, qP, va_K.moved (u := U) (U := U.calling g mk a) (Vm.Alike.refl U.vm) qK, qD, hPb U g mk a qN⟩, fun U hU hW => ⟨rfl, by rw [hU], by rw [hU]; exact hPc, va_K.moved hW.alike (hK.sub (tys' := []) [] rfl), hDc.weaken (fun _ _ _ _ => trivial), hPs U hW⟩⟩ rfl rfl hh.1 rfl (lv_room hrm) hdg ⟨hcell, hslot⟩) hS (fun q _ h => hFc q h) hFc (fun u t H1 locs1 ht hvm hw hB hz1 hk1 hS1 => ?_)
  obtain ⟨hP1, hK1, hD1⟩ := hB
  rw [ht] at hP1
  have hK1 := va_K.moved hvm.symm hK1
  obtain ⟨hP2, hD2⟩ := va_join (wr := wr) hP hD [k0] isR hC hR hnd hdis hk1 hFc hP1 hD1
  exact kk u (hK.app hK1) H1 locs1 ls hP2 hD2 hS1 hh
theorem v_ctorN {Pn : State → Prop} {wr : va_W} (g : CallFix p m c cc nL s args Ts own) (hK : va_K D cl tys s) (hA : ∀ q, s.heap.size ≤ q → A q) (hM : ∀ sz, Met l y wy rm (va_Pc [.ref b] (fun U => U.heap.size = sz ∧ va_P D cl [(b, e0)] U.heap ∧ va_K D cl [] U ∧ va_D (fun _ => True) [(b, e0)] ∧ Pn U)) (qN D cl wx tx (va_A [(b, e0)] sz)) mc ms (va_A [(b, e0)] sz)) (cw : va_CN R s args own index y host bytes maxL none wy rm mc ms 0 ∧ y.name = "<init>" ∧ (Cond.instanceMethod y).before args s = true) (hPb : ∀ (U : State) g mk (a : Array Value), Pn U → Pn (U.calling g mk a)) (hPs : ∀ U : State, s.WarmedH U.vm → Pn U) (k0 : Nat) (isR : List Nat) (he : ws[k0]? = some (b, e0)) (hR : isR.map (fun i => ws[i]?) = wr.map some) (hnd : va_nd isR = true) (hdis : ∀ i ∈ isR, i ∉ [k0]) (hrm : (rest.map fun v => v.category).sum ≤ 8) (hdg : decode cc pc = .ok (.invokespecial index, 3)) (hcell : kc + mc ≤ R.cells) (hslot : ks + ms ≤ R.slots) (hp : pc + 3 = pc')
    (kk : ∀ u : υ, va_K D cl (tys ++ tx u) s → Vj p l e R s m args below meth c Q D cl A nL (kc + mc) (ks + ms) (wr ++ wx u) pc' lv rest) : Vj p l e R s m args below meth c Q D cl A nL kc ks ws pc lv (.ref b :: rest) := by
  subst hp
  intro H locs ls hP hD hS hh
  have hC : [k0].map (fun i => ws[i]?) = [(b, e0)].map some := by simp [he]
  have hPc : va_P D cl [(b, e0)] H := hP.sub [k0] (by simp [he])
  have hDc : va_D A [(b, e0)] := hD.sub [k0] rfl hC
  have hFc := va_free (wc := [(b, e0)]) hD hS hA [k0] hC
  refine va_callv (va_runIN (As := []) (rest := rest) g (hM H.size) cw ⟨fun a U g mk q => by obtain ⟨q0, q1, qP, qK, qD, qN⟩ := q; exact ⟨q0, q1, qP, va_K.moved (u := U) (U := U.calling g mk a) (Vm.Alike.refl U.vm) qK, qD, hPb U g mk a qN⟩, fun U hU hW => ⟨rfl, by rw [hU], by rw [hU]; exact hPc, va_K.moved hW.alike (hK.sub (tys' := []) [] rfl), hDc.weaken (fun _ _ _ _ => trivial), hPs U hW⟩⟩ rfl rfl hh.1 rfl (lv_room hrm) hdg ⟨hcell, hslot⟩) hS (fun q _ h => hFc q h) hFc (fun u t H1 locs1 ht hvm hw hB hz1 hk1 hS1 => ?_)
  obtain ⟨hP1, hK1, hD1⟩ := hB
  rw [ht] at hP1
  have hK1 := va_K.moved hvm.symm hK1
  obtain ⟨hP2, hD2⟩ := va_join (wr := wr) hP hD [k0] isR hC hR hnd hdis hk1 hFc hP1 hD1
  exact kk u (hK.app hK1) H1 locs1 ls hP2 hD2 hS1 hh
end VN
