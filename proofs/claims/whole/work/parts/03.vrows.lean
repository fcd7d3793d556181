section VJ
variable {p : Program} {l : Launch} {e : Env} {R : Room} {s : State} {m : MethodId} {args : Array Value} {below : List Frame} {meth : Method} {c : Code} {Q : State → Prop} {D : va_G} {cl : List vw_C} {tys : List (ClassId × FieldType)} {A : Nat → Prop} {nL kc ks : Nat} {ws : va_W} {pc pc' : Nat} {lv lv' : List (Nat × Value)} {st : List Value} {cc : ByteArray} {Ts : List Cond} {own : String}
/-- the machine at pc, with the locals lv, the operand stack st and the world ws, comes to a state with Q -/
def Vj (p : Program) (l : Launch) (e : Env) (R : Room) (s : State) (m : MethodId) (args : Array Value) (below : List Frame) (meth : Method) (c : Code) (Q : State → Prop) (D : va_G) (cl : List vw_C) (A : Nat → Prop) (nL kc ks : Nat) (ws : va_W) (pc : Nat) (lv : List (Nat × Value)) (st : List Value) : Prop :=
  ∀ (H : Heap) (locs : List Loc) (ls : Array Slot), va_P D cl ws H → va_D A ws → va_S A s.heap H locs → lv_has ls nL lv → W p l e R s m args below meth c H locs kc ks Q (F0 m pc ls st)
theorem v_iconst (g : CallFix p m c cc nL s args Ts own) {n : Int} {v : Int32} (hdg : decode cc pc = .ok (.iconst n, 1)) (hv : Int32.ofInt n = v) (hp : pc + 1 = pc') (k : Vj p l e R s m args below meth c Q D cl A nL kc ks ws pc' lv (.int v :: st)) : Vj p l e R s m args below meth c Q D cl A nL kc ks ws pc lv (st) := by
  subst hp; exact fun H locs ls hP hD hS hh => lv_iconst g.1 g.2.1 hdg hv (k H locs ls hP hD hS hh)
theorem v_bipush (g : CallFix p m c cc nL s args Ts own) {n : Int} {v : Int32} (hdg : decode cc pc = .ok (.bipush n, 2)) (hv : (Int8.ofInt n).toInt32 = v) (hp : pc + 2 = pc') (k : Vj p l e R s m args below meth c Q D cl A nL kc ks ws pc' lv (.int v :: st)) : Vj p l e R s m args below meth c Q D cl A nL kc ks ws pc lv (st) := by
  subst hp; exact fun H locs ls hP hD hS hh => lv_bipush g.1 g.2.1 hdg hv (k H locs ls hP hD hS hh)
theorem v_sipush (g : CallFix p m c cc nL s args Ts own) {n : Int} {v : Int32} (hdg : decode cc pc = .ok (.sipush n, 3)) (hv : (Int16.ofInt n).toInt32 = v) (hp : pc + 3 = pc') (k : Vj p l e R s m args below meth c Q D cl A nL kc ks ws pc' lv (.int v :: st)) : Vj p l e R s m args below meth c Q D cl A nL kc ks ws pc lv (st) := by
  subst hp; exact fun H locs ls hP hD hS hh => lv_sipush g.1 g.2.1 hdg hv (k H locs ls hP hD hS hh)
theorem v_lconst (g : CallFix p m c cc nL s args Ts own) {n : Fin 2} {v : Int64} (hdg : decode cc pc = .ok (.lconst n, 1)) (hv : Int64.ofNat (n : Nat) = v) (hp : pc + 1 = pc') (k : Vj p l e R s m args below meth c Q D cl A nL kc ks ws pc' lv (.long v :: st)) : Vj p l e R s m args below meth c Q D cl A nL kc ks ws pc lv (st) := by
  subst hp; exact fun H locs ls hP hD hS hh => lv_lconst g.1 g.2.1 hdg hv (k H locs ls hP hD hS hh)
theorem v_iload_n (g : CallFix p m c cc nL s args Ts own) {k9 : Fin 4} {i : Nat} {x : Int32} (hdg : decode cc pc = .ok (.iload_n k9, 1)) (j : Nat) (hi : (k9 : Nat) = i) (hl : lv[j]? = some (i, .int x)) (hp : pc + 1 = pc') (k : Vj p l e R s m args below meth c Q D cl A nL kc ks ws pc' lv (.int x :: st)) : Vj p l e R s m args below meth c Q D cl A nL kc ks ws pc lv (st) := by
  subst hp; exact fun H locs ls hP hD hS hh => lv_iload_n g.1 g.2.1 hdg hi (lv_at hh j hl) (k H locs ls hP hD hS hh)
theorem v_iload (g : CallFix p m c cc nL s args Ts own) {i : Nat} {x : Int32} (hdg : decode cc pc = .ok (.iload i, 2)) (j : Nat) (hl : lv[j]? = some (i, .int x)) (hp : pc + 2 = pc') (k : Vj p l e R s m args below meth c Q D cl A nL kc ks ws pc' lv (.int x :: st)) : Vj p l e R s m args below meth c Q D cl A nL kc ks ws pc lv (st) := by
  subst hp; exact fun H locs ls hP hD hS hh => lv_iload g.1 g.2.1 hdg (lv_at hh j hl) (k H locs ls hP hD hS hh)
theorem v_lload_n (g : CallFix p m c cc nL s args Ts own) {k9 : Fin 4} {i : Nat} {x : Int64} (hdg : decode cc pc = .ok (.lload_n k9, 1)) (j : Nat) (hi : (k9 : Nat) = i) (hl : lv[j]? = some (i, .long x)) (hp : pc + 1 = pc') (k : Vj p l e R s m args below meth c Q D cl A nL kc ks ws pc' lv (.long x :: st)) : Vj p l e R s m args below meth c Q D cl A nL kc ks ws pc lv (st) := by
  subst hp; exact fun H locs ls hP hD hS hh => lv_lload_n g.1 g.2.1 hdg hi (lv_at hh j hl) (k H locs ls hP hD hS hh)
theorem v_lload (g : CallFix p m c cc nL s args Ts own) {i : Nat} {x : Int64} (hdg : decode cc pc = .ok (.lload i, 2)) (j : Nat) (hl : lv[j]? = some (i, .long x)) (hp : pc + 2 = pc') (k : Vj p l e R s m args below meth c Q D cl A nL kc ks ws pc' lv (.long x :: st)) : Vj p l e R s m args below meth c Q D cl A nL kc ks ws pc lv (st) := by
  subst hp; exact fun H locs ls hP hD hS hh => lv_lload g.1 g.2.1 hdg (lv_at hh j hl) (k H locs ls hP hD hS hh)
theorem v_aload_n (g : CallFix p m c cc nL s args Ts own) {k9 : Fin 4} {i : Nat} {x : Nat} (hdg : decode cc pc = .ok (.aload_n k9, 1)) (j : Nat) (hi : (k9 : Nat) = i) (hl : lv[j]? = some (i, .ref x)) (hp : pc + 1 = pc') (k : Vj p l e R s m args below meth c Q D cl A nL kc ks ws pc' lv (.ref x :: st)) : Vj p l e R s m args below meth c Q D cl A nL kc ks ws pc lv (st) := by
  subst hp; exact fun H locs ls hP hD hS hh => lv_aload_n g.1 g.2.1 hdg hi (lv_at hh j hl) (k H locs ls hP hD hS hh)
theorem v_aload (g : CallFix p m c cc nL s args Ts own) {i : Nat} {x : Nat} (hdg : decode cc pc = .ok (.aload i, 2)) (j : Nat) (hl : lv[j]? = some (i, .ref x)) (hp : pc + 2 = pc') (k : Vj p l e R s m args below meth c Q D cl A nL kc ks ws pc' lv (.ref x :: st)) : Vj p l e R s m args below meth c Q D cl A nL kc ks ws pc lv (st) := by
  subst hp; exact fun H locs ls hP hD hS hh => lv_aload g.1 g.2.1 hdg (lv_at hh j hl) (k H locs ls hP hD hS hh)
theorem v_istore_n (g : CallFix p m c cc nL s args Ts own) {k9 : Fin 4} {i : Nat} {x : Int32} (hdg : decode cc pc = .ok (.istore_n k9, 1)) (hi : (k9 : Nat) = i) (hn : i < nL) (hl : (i, Value.int x) :: lv.filter (fun q => !(q.1 == i) && !(q.1 + 1 == i && q.2.category == 2)) = lv') (hp : pc + 1 = pc') (k : Vj p l e R s m args below meth c Q D cl A nL kc ks ws pc' lv' st) : Vj p l e R s m args below meth c Q D cl A nL kc ks ws pc lv (.int x :: st) := by
  subst hp; exact fun H locs ls hP hD hS hh => lv_istore_n g.1 g.2.1 hdg hi hh hn hl (fun ls' hh' => k H locs ls' hP hD hS hh')
theorem v_istore (g : CallFix p m c cc nL s args Ts own) {i : Nat} {x : Int32} (hdg : decode cc pc = .ok (.istore i, 2)) (hn : i < nL) (hl : (i, Value.int x) :: lv.filter (fun q => !(q.1 == i) && !(q.1 + 1 == i && q.2.category == 2)) = lv') (hp : pc + 2 = pc') (k : Vj p l e R s m args below meth c Q D cl A nL kc ks ws pc' lv' st) : Vj p l e R s m args below meth c Q D cl A nL kc ks ws pc lv (.int x :: st) := by
  subst hp; exact fun H locs ls hP hD hS hh => lv_istore g.1 g.2.1 hdg hh hn hl (fun ls' hh' => k H locs ls' hP hD hS hh')
theorem v_lstore_n (g : CallFix p m c cc nL s args Ts own) {k9 : Fin 4} {i : Nat} {x : Int64} (hdg : decode cc pc = .ok (.lstore_n k9, 1)) (hi : (k9 : Nat) = i) (hn : i + 1 < nL) (hl : (i, Value.long x) :: lv.filter (fun q => !(q.1 == i) && (!(q.1 == i + 1) && !(q.1 + 1 == i && q.2.category == 2))) = lv') (hp : pc + 1 = pc') (k : Vj p l e R s m args below meth c Q D cl A nL kc ks ws pc' lv' st) : Vj p l e R s m args below meth c Q D cl A nL kc ks ws pc lv (.long x :: st) := by
  subst hp; exact fun H locs ls hP hD hS hh => lv_lstore_n g.1 g.2.1 hdg hi hh hn hl (fun ls' hh' => k H locs ls' hP hD hS hh')
theorem v_lstore (g : CallFix p m c cc nL s args Ts own) {i : Nat} {x : Int64} (hdg : decode cc pc = .ok (.lstore i, 2)) (hn : i + 1 < nL) (hl : (i, Value.long x) :: lv.filter (fun q => !(q.1 == i) && (!(q.1 == i + 1) && !(q.1 + 1 == i && q.2.category == 2))) = lv') (hp : pc + 2 = pc') (k : Vj p l e R s m args below meth c Q D cl A nL kc ks ws pc' lv' st) : Vj p l e R s m args below meth c Q D cl A nL kc ks ws pc lv (.long x :: st) := by
  subst hp; exact fun H locs ls hP hD hS hh => lv_lstore g.1 g.2.1 hdg hh hn hl (fun ls' hh' => k H locs ls' hP hD hS hh')
theorem v_astore_n (g : CallFix p m c cc nL s args Ts own) {k9 : Fin 4} {i : Nat} {x : Nat} (hdg : decode cc pc = .ok (.astore_n k9, 1)) (hi : (k9 : Nat) = i) (hn : i < nL) (hl : (i, Value.ref x) :: lv.filter (fun q => !(q.1 == i) && !(q.1 + 1 == i && q.2.category == 2)) = lv') (hp : pc + 1 = pc') (k : Vj p l e R s m args below meth c Q D cl A nL kc ks ws pc' lv' st) : Vj p l e R s m args below meth c Q D cl A nL kc ks ws pc lv (.ref x :: st) := by
  subst hp; exact fun H locs ls hP hD hS hh => lv_astore_n g.1 g.2.1 hdg hi hh hn hl (fun ls' hh' => k H locs ls' hP hD hS hh')
theorem v_astore (g : CallFix p m c cc nL s args Ts own) {i : Nat} {x : Nat} (hdg : decode cc pc = .ok (.astore i, 2)) (hn : i < nL) (hl : (i, Value.ref x) :: lv.filter (fun q => !(q.1 == i) && !(q.1 + 1 == i && q.2.category == 2)) = lv') (hp : pc + 2 = pc') (k : Vj p l e R s m args below meth c Q D cl A nL kc ks ws pc' lv' st) : Vj p l e R s m args below meth c Q D cl A nL kc ks ws pc lv (.ref x :: st) := by
  subst hp; exact fun H locs ls hP hD hS hh => lv_astore g.1 g.2.1 hdg hh hn hl (fun ls' hh' => k H locs ls' hP hD hS hh')
theorem v_iinc (g : CallFix p m c cc nL s args Ts own) {i j : Nat} {n : Int} {x v : Int32} (hdg : decode cc pc = .ok (.iinc i n, 3)) (hk : lv[j]? = some (i, .int x)) (hv : x + Int32.ofInt n = v) (hn : i < nL) (hl : (i, Value.int v) :: lv.filter (fun q => !(q.1 == i) && !(q.1 + 1 == i && q.2.category == 2)) = lv') (hp : pc + 3 = pc') (k : Vj p l e R s m args below meth c Q D cl A nL kc ks ws pc' lv' st) : Vj p l e R s m args below meth c Q D cl A nL kc ks ws pc lv st := by
  subst hp; exact fun H locs ls hP hD hS hh => lv_iinc g.1 g.2.1 hdg hh hk hv hn hl (fun ls' hh' => k H locs ls' hP hD hS hh')
theorem v_iadd (g : CallFix p m c cc nL s args Ts own) {x y : Int32} (hdg : decode cc pc = .ok (.iadd, 1))  (hp : pc + 1 = pc') (k : Vj p l e R s m args below meth c Q D cl A nL kc ks ws pc' lv (.int (x + y) :: st)) : Vj p l e R s m args below meth c Q D cl A nL kc ks ws pc lv (.int y :: .int x :: st) := by
  subst hp; exact fun H locs ls hP hD hS hh => lv_iadd g.1 g.2.1 hdg (k H locs ls hP hD hS hh)
theorem v_isub (g : CallFix p m c cc nL s args Ts own) {x y : Int32} (hdg : decode cc pc = .ok (.isub, 1))  (hp : pc + 1 = pc') (k : Vj p l e R s m args below meth c Q D cl A nL kc ks ws pc' lv (.int (x - y) :: st)) : Vj p l e R s m args below meth c Q D cl A nL kc ks ws pc lv (.int y :: .int x :: st) := by
  subst hp; exact fun H locs ls hP hD hS hh => lv_isub g.1 g.2.1 hdg (k H locs ls hP hD hS hh)
theorem v_imul (g : CallFix p m c cc nL s args Ts own) {x y : Int32} (hdg : decode cc pc = .ok (.imul, 1))  (hp : pc + 1 = pc') (k : Vj p l e R s m args below meth c Q D cl A nL kc ks ws pc' lv (.int (x * y) :: st)) : Vj p l e R s m args below meth c Q D cl A nL kc ks ws pc lv (.int y :: .int x :: st) := by
  subst hp; exact fun H locs ls hP hD hS hh => lv_imul g.1 g.2.1 hdg (k H locs ls hP hD hS hh)
theorem v_iand (g : CallFix p m c cc nL s args Ts own) {x y : Int32} (hdg : decode cc pc = .ok (.iand, 1))  (hp : pc + 1 = pc') (k : Vj p l e R s m args below meth c Q D cl A nL kc ks ws pc' lv (.int (x &&& y) :: st)) : Vj p l e R s m args below meth c Q D cl A nL kc ks ws pc lv (.int y :: .int x :: st) := by
  subst hp; exact fun H locs ls hP hD hS hh => lv_iand g.1 g.2.1 hdg (k H locs ls hP hD hS hh)
theorem v_ior (g : CallFix p m c cc nL s args Ts own) {x y : Int32} (hdg : decode cc pc = .ok (.ior, 1))  (hp : pc + 1 = pc') (k : Vj p l e R s m args below meth c Q D cl A nL kc ks ws pc' lv (.int (x ||| y) :: st)) : Vj p l e R s m args below meth c Q D cl A nL kc ks ws pc lv (.int y :: .int x :: st) := by
  subst hp; exact fun H locs ls hP hD hS hh => lv_ior g.1 g.2.1 hdg (k H locs ls hP hD hS hh)
theorem v_ixor (g : CallFix p m c cc nL s args Ts own) {x y : Int32} (hdg : decode cc pc = .ok (.ixor, 1))  (hp : pc + 1 = pc') (k : Vj p l e R s m args below meth c Q D cl A nL kc ks ws pc' lv (.int (x ^^^ y) :: st)) : Vj p l e R s m args below meth c Q D cl A nL kc ks ws pc lv (.int y :: .int x :: st) := by
  subst hp; exact fun H locs ls hP hD hS hh => lv_ixor g.1 g.2.1 hdg (k H locs ls hP hD hS hh)
theorem v_ishl (g : CallFix p m c cc nL s args Ts own) {x y : Int32} (hdg : decode cc pc = .ok (.ishl, 1))  (hp : pc + 1 = pc') (k : Vj p l e R s m args below meth c Q D cl A nL kc ks ws pc' lv (.int (x <<< (y &&& 31)) :: st)) : Vj p l e R s m args below meth c Q D cl A nL kc ks ws pc lv (.int y :: .int x :: st) := by
  subst hp; exact fun H locs ls hP hD hS hh => lv_ishl g.1 g.2.1 hdg (k H locs ls hP hD hS hh)
theorem v_ishr (g : CallFix p m c cc nL s args Ts own) {x y : Int32} (hdg : decode cc pc = .ok (.ishr, 1))  (hp : pc + 1 = pc') (k : Vj p l e R s m args below meth c Q D cl A nL kc ks ws pc' lv (.int (x >>> (y &&& 31)) :: st)) : Vj p l e R s m args below meth c Q D cl A nL kc ks ws pc lv (.int y :: .int x :: st) := by
  subst hp; exact fun H locs ls hP hD hS hh => lv_ishr g.1 g.2.1 hdg (k H locs ls hP hD hS hh)
theorem v_idiv (g : CallFix p m c cc nL s args Ts own) {x y : Int32} (hdg : decode cc pc = .ok (.idiv, 1)) (hne : ¬ y = 0) (hp : pc + 1 = pc') (k : Vj p l e R s m args below meth c Q D cl A nL kc ks ws pc' lv (.int (x / y) :: st)) : Vj p l e R s m args below meth c Q D cl A nL kc ks ws pc lv (.int y :: .int x :: st) := by
  subst hp; exact fun H locs ls hP hD hS hh => lv_idiv g.1 g.2.1 hdg hne (k H locs ls hP hD hS hh)
theorem v_irem (g : CallFix p m c cc nL s args Ts own) {x y : Int32} (hdg : decode cc pc = .ok (.irem, 1)) (hne : ¬ y = 0) (hp : pc + 1 = pc') (k : Vj p l e R s m args below meth c Q D cl A nL kc ks ws pc' lv (.int (x - x / y * y) :: st)) : Vj p l e R s m args below meth c Q D cl A nL kc ks ws pc lv (.int y :: .int x :: st) := by
  subst hp; exact fun H locs ls hP hD hS hh => lv_irem g.1 g.2.1 hdg hne (k H locs ls hP hD hS hh)
theorem v_ineg (g : CallFix p m c cc nL s args Ts own) {x : Int32} (hdg : decode cc pc = .ok (.ineg, 1))  (hp : pc + 1 = pc') (k : Vj p l e R s m args below meth c Q D cl A nL kc ks ws pc' lv (.int (-x) :: st)) : Vj p l e R s m args below meth c Q D cl A nL kc ks ws pc lv (.int x :: st) := by
  subst hp; exact fun H locs ls hP hD hS hh => lv_ineg g.1 g.2.1 hdg (k H locs ls hP hD hS hh)
theorem v_iushr (g : CallFix p m c cc nL s args Ts own) {x y : Int32} (hdg : decode cc pc = .ok (.iushr, 1))  (hp : pc + 1 = pc') (k : Vj p l e R s m args below meth c Q D cl A nL kc ks ws pc' lv (.int (x.toUInt32 >>> (y.toUInt32 &&& Int32.toUInt32 31)).toInt32 :: st)) : Vj p l e R s m args below meth c Q D cl A nL kc ks ws pc lv (.int y :: .int x :: st) := by
  subst hp; exact fun H locs ls hP hD hS hh => lv_iushr g.1 g.2.1 hdg rfl (k H locs ls hP hD hS hh)
theorem v_ladd (g : CallFix p m c cc nL s args Ts own) {x y : Int64} (hdg : decode cc pc = .ok (.ladd, 1))  (hp : pc + 1 = pc') (k : Vj p l e R s m args below meth c Q D cl A nL kc ks ws pc' lv (.long (x + y) :: st)) : Vj p l e R s m args below meth c Q D cl A nL kc ks ws pc lv (.long y :: .long x :: st) := by
  subst hp; exact fun H locs ls hP hD hS hh => lv_ladd g.1 g.2.1 hdg (k H locs ls hP hD hS hh)
theorem v_lsub (g : CallFix p m c cc nL s args Ts own) {x y : Int64} (hdg : decode cc pc = .ok (.lsub, 1))  (hp : pc + 1 = pc') (k : Vj p l e R s m args below meth c Q D cl A nL kc ks ws pc' lv (.long (x - y) :: st)) : Vj p l e R s m args below meth c Q D cl A nL kc ks ws pc lv (.long y :: .long x :: st) := by
  subst hp; exact fun H locs ls hP hD hS hh => lv_lsub g.1 g.2.1 hdg (k H locs ls hP hD hS hh)
theorem v_lmul (g : CallFix p m c cc nL s args Ts own) {x y : Int64} (hdg : decode cc pc = .ok (.lmul, 1))  (hp : pc + 1 = pc') (k : Vj p l e R s m args below meth c Q D cl A nL kc ks ws pc' lv (.long (x * y) :: st)) : Vj p l e R s m args below meth c Q D cl A nL kc ks ws pc lv (.long y :: .long x :: st) := by
  subst hp; exact fun H locs ls hP hD hS hh => lv_lmul g.1 g.2.1 hdg (k H locs ls hP hD hS hh)
theorem v_land (g : CallFix p m c cc nL s args Ts own) {x y : Int64} (hdg : decode cc pc = .ok (.land, 1))  (hp : pc + 1 = pc') (k : Vj p l e R s m args below meth c Q D cl A nL kc ks ws pc' lv (.long (x &&& y) :: st)) : Vj p l e R s m args below meth c Q D cl A nL kc ks ws pc lv (.long y :: .long x :: st) := by
  subst hp; exact fun H locs ls hP hD hS hh => lv_land g.1 g.2.1 hdg (k H locs ls hP hD hS hh)
theorem v_lor (g : CallFix p m c cc nL s args Ts own) {x y : Int64} (hdg : decode cc pc = .ok (.lor, 1))  (hp : pc + 1 = pc') (k : Vj p l e R s m args below meth c Q D cl A nL kc ks ws pc' lv (.long (x ||| y) :: st)) : Vj p l e R s m args below meth c Q D cl A nL kc ks ws pc lv (.long y :: .long x :: st) := by
  subst hp; exact fun H locs ls hP hD hS hh => lv_lor g.1 g.2.1 hdg (k H locs ls hP hD hS hh)
theorem v_lxor (g : CallFix p m c cc nL s args Ts own) {x y : Int64} (hdg : decode cc pc = .ok (.lxor, 1))  (hp : pc + 1 = pc') (k : Vj p l e R s m args below meth c Q D cl A nL kc ks ws pc' lv (.long (x ^^^ y) :: st)) : Vj p l e R s m args below meth c Q D cl A nL kc ks ws pc lv (.long y :: .long x :: st) := by
  subst hp; exact fun H locs ls hP hD hS hh => lv_lxor g.1 g.2.1 hdg (k H locs ls hP hD hS hh)
theorem v_i2l (g : CallFix p m c cc nL s args Ts own) {x : Int32} (hdg : decode cc pc = .ok (.i2l, 1))  (hp : pc + 1 = pc') (k : Vj p l e R s m args below meth c Q D cl A nL kc ks ws pc' lv (.long x.toInt64 :: st)) : Vj p l e R s m args below meth c Q D cl A nL kc ks ws pc lv (.int x :: st) := by
  subst hp; exact fun H locs ls hP hD hS hh => lv_i2l g.1 g.2.1 hdg rfl (k H locs ls hP hD hS hh)
theorem v_l2i (g : CallFix p m c cc nL s args Ts own) {x : Int64} (hdg : decode cc pc = .ok (.l2i, 1))  (hp : pc + 1 = pc') (k : Vj p l e R s m args below meth c Q D cl A nL kc ks ws pc' lv (.int x.toInt32 :: st)) : Vj p l e R s m args below meth c Q D cl A nL kc ks ws pc lv (.long x :: st) := by
  subst hp; exact fun H locs ls hP hD hS hh => lv_l2i g.1 g.2.1 hdg rfl (k H locs ls hP hD hS hh)
theorem v_lushr (g : CallFix p m c cc nL s args Ts own) {x : Int64} {y : Int32} (hdg : decode cc pc = .ok (.lushr, 1))  (hp : pc + 1 = pc') (k : Vj p l e R s m args below meth c Q D cl A nL kc ks ws pc' lv (.long (x.toUInt64 >>> (y.toInt64.toUInt64 &&& Int64.toUInt64 63)).toInt64 :: st)) : Vj p l e R s m args below meth c Q D cl A nL kc ks ws pc lv (.int y :: .long x :: st) := by
  subst hp; exact fun H locs ls hP hD hS hh => lv_lushr g.1 g.2.1 hdg rfl (k H locs ls hP hD hS hh)
theorem v_lshl (g : CallFix p m c cc nL s args Ts own) {x : Int64} {y : Int32} (hdg : decode cc pc = .ok (.lshl, 1))  (hp : pc + 1 = pc') (k : Vj p l e R s m args below meth c Q D cl A nL kc ks ws pc' lv (.long (x <<< (y.toInt64 &&& 63)) :: st)) : Vj p l e R s m args below meth c Q D cl A nL kc ks ws pc lv (.int y :: .long x :: st) := by
  subst hp; exact fun H locs ls hP hD hS hh => lv_lshl g.1 g.2.1 hdg rfl (k H locs ls hP hD hS hh)
theorem v_lshr (g : CallFix p m c cc nL s args Ts own) {x : Int64} {y : Int32} (hdg : decode cc pc = .ok (.lshr, 1))  (hp : pc + 1 = pc') (k : Vj p l e R s m args below meth c Q D cl A nL kc ks ws pc' lv (.long (x >>> (y.toInt64 &&& 63)) :: st)) : Vj p l e R s m args below meth c Q D cl A nL kc ks ws pc lv (.int y :: .long x :: st) := by
  subst hp; exact fun H locs ls hP hD hS hh => lv_lshr g.1 g.2.1 hdg rfl (k H locs ls hP hD hS hh)
theorem v_lcmp (g : CallFix p m c cc nL s args Ts own) {x y : Int64} (hdg : decode cc pc = .ok (.lcmp, 1))  (hp : pc + 1 = pc') (k : Vj p l e R s m args below meth c Q D cl A nL kc ks ws pc' lv (.int (lg_cmp x y) :: st)) : Vj p l e R s m args below meth c Q D cl A nL kc ks ws pc lv (.long y :: .long x :: st) := by
  subst hp; exact fun H locs ls hP hD hS hh => W.lcmp g.1 g.2.1 hdg (k H locs ls hP hD hS hh)
theorem v_dup (g : CallFix p m c cc nL s args Ts own) {va : Value} (hdg : decode cc pc = .ok (.dup, 1)) (h1 : va.category = 1) (hp : pc + 1 = pc') (k : Vj p l e R s m args below meth c Q D cl A nL kc ks ws pc' lv (va :: va :: st)) : Vj p l e R s m args below meth c Q D cl A nL kc ks ws pc lv (va :: st) := by
  subst hp; exact fun H locs ls hP hD hS hh => lv_dup g.1 g.2.1 hdg h1 (k H locs ls hP hD hS hh)
theorem v_pop (g : CallFix p m c cc nL s args Ts own) {va : Value} (hdg : decode cc pc = .ok (.pop, 1)) (h1 : va.category = 1) (hp : pc + 1 = pc') (k : Vj p l e R s m args below meth c Q D cl A nL kc ks ws pc' lv (st)) : Vj p l e R s m args below meth c Q D cl A nL kc ks ws pc lv (va :: st) := by
  subst hp; exact fun H locs ls hP hD hS hh => lv_pop g.1 g.2.1 hdg h1 (k H locs ls hP hD hS hh)
theorem v_dup_x1 (g : CallFix p m c cc nL s args Ts own) {va vb : Value} (hdg : decode cc pc = .ok (.dup_x1, 1)) (h1 : va.category = 1) (h2 : vb.category = 1) (hp : pc + 1 = pc') (k : Vj p l e R s m args below meth c Q D cl A nL kc ks ws pc' lv (va :: vb :: va :: st)) : Vj p l e R s m args below meth c Q D cl A nL kc ks ws pc lv (va :: vb :: st) := by
  subst hp; exact fun H locs ls hP hD hS hh => lv_dup_x1 g.1 g.2.1 hdg h1 h2 (k H locs ls hP hD hS hh)
theorem v_dup2 (g : CallFix p m c cc nL s args Ts own) {va vb : Value} (hdg : decode cc pc = .ok (.dup2, 1)) (h1 : va.category = 1) (h2 : vb.category = 1) (hp : pc + 1 = pc') (k : Vj p l e R s m args below meth c Q D cl A nL kc ks ws pc' lv (va :: vb :: va :: vb :: st)) : Vj p l e R s m args below meth c Q D cl A nL kc ks ws pc lv (va :: vb :: st) := by
  subst hp; exact fun H locs ls hP hD hS hh => lv_dup2_11 g.1 g.2.1 hdg h1 h2 (k H locs ls hP hD hS hh)
theorem v_goto (g : CallFix p m c cc nL s args Ts own) {off : Int} {tgt : Nat} (hdg : decode cc pc = .ok (.goto off, 3)) (ht : (pc : Int) + off = (tgt : Int)) (k : Vj p l e R s m args below meth c Q D cl A nL kc ks ws tgt lv st) : Vj p l e R s m args below meth c Q D cl A nL kc ks ws pc lv st := fun H locs ls hP hD hS hh => lv_goto g.1 g.2.1 hdg ht (k H locs ls hP hD hS hh)
theorem v_icmp_eq (g : CallFix p m c cc nL s args Ts own) {x y : Int32} {off : Int} {tgt : Nat} (hdg : decode cc pc = .ok (.if_icmp .eq off, 3)) (ht : (pc : Int) + off = (tgt : Int)) (hp : pc + 3 = pc') (kt : x = y → Vj p l e R s m args below meth c Q D cl A nL kc ks ws tgt lv st) (kf : ¬ x = y → Vj p l e R s m args below meth c Q D cl A nL kc ks ws pc' lv st) : Vj p l e R s m args below meth c Q D cl A nL kc ks ws pc lv (.int y :: .int x :: st) := by
  subst hp; exact fun H locs ls hP hD hS hh => lv_icmp_eq g.1 g.2.1 hdg ht (fun h => kt h H locs ls hP hD hS hh) (fun h => kf h H locs ls hP hD hS hh)
theorem v_if_eq (g : CallFix p m c cc nL s args Ts own) {x : Int32} {off : Int} {tgt : Nat} (hdg : decode cc pc = .ok (.ifCond .eq off, 3)) (ht : (pc : Int) + off = (tgt : Int)) (hp : pc + 3 = pc') (kt : x = 0 → Vj p l e R s m args below meth c Q D cl A nL kc ks ws tgt lv st) (kf : ¬ x = 0 → Vj p l e R s m args below meth c Q D cl A nL kc ks ws pc' lv st) : Vj p l e R s m args below meth c Q D cl A nL kc ks ws pc lv (.int x :: st) := by
  subst hp; exact fun H locs ls hP hD hS hh => lv_if_eq g.1 g.2.1 hdg ht (fun h => kt h H locs ls hP hD hS hh) (fun h => kf h H locs ls hP hD hS hh)
theorem v_icmp_ne (g : CallFix p m c cc nL s args Ts own) {x y : Int32} {off : Int} {tgt : Nat} (hdg : decode cc pc = .ok (.if_icmp .ne off, 3)) (ht : (pc : Int) + off = (tgt : Int)) (hp : pc + 3 = pc') (kt : ¬ x = y → Vj p l e R s m args below meth c Q D cl A nL kc ks ws tgt lv st) (kf : x = y → Vj p l e R s m args below meth c Q D cl A nL kc ks ws pc' lv st) : Vj p l e R s m args below meth c Q D cl A nL kc ks ws pc lv (.int y :: .int x :: st) := by
  subst hp; exact fun H locs ls hP hD hS hh => lv_icmp_ne g.1 g.2.1 hdg ht (fun h => kt h H locs ls hP hD hS hh) (fun h => kf h H locs ls hP hD hS hh)
theorem v_if_ne (g : CallFix p m c cc nL s args Ts own) {x : Int32} {off : Int} {tgt : Nat} (hdg : decode cc pc = .ok (.ifCond .ne off, 3)) (ht : (pc : Int) + off = (tgt : Int)) (hp : pc + 3 = pc') (kt : ¬ x = 0 → Vj p l e R s m args below meth c Q D cl A nL kc ks ws tgt lv st) (kf : x = 0 → Vj p l e R s m args below meth c Q D cl A nL kc ks ws pc' lv st) : Vj p l e R s m args below meth c Q D cl A nL kc ks ws pc lv (.int x :: st) := by
  subst hp; exact fun H locs ls hP hD hS hh => lv_if_ne g.1 g.2.1 hdg ht (fun h => kt h H locs ls hP hD hS hh) (fun h => kf h H locs ls hP hD hS hh)
theorem v_icmp_lt (g : CallFix p m c cc nL s args Ts own) {x y : Int32} {off : Int} {tgt : Nat} (hdg : decode cc pc = .ok (.if_icmp .lt off, 3)) (ht : (pc : Int) + off = (tgt : Int)) (hp : pc + 3 = pc') (kt : x < y → Vj p l e R s m args below meth c Q D cl A nL kc ks ws tgt lv st) (kf : ¬ x < y → Vj p l e R s m args below meth c Q D cl A nL kc ks ws pc' lv st) : Vj p l e R s m args below meth c Q D cl A nL kc ks ws pc lv (.int y :: .int x :: st) := by
  subst hp; exact fun H locs ls hP hD hS hh => lv_icmp_lt g.1 g.2.1 hdg ht (fun h => kt h H locs ls hP hD hS hh) (fun h => kf h H locs ls hP hD hS hh)
theorem v_if_lt (g : CallFix p m c cc nL s args Ts own) {x : Int32} {off : Int} {tgt : Nat} (hdg : decode cc pc = .ok (.ifCond .lt off, 3)) (ht : (pc : Int) + off = (tgt : Int)) (hp : pc + 3 = pc') (kt : x < 0 → Vj p l e R s m args below meth c Q D cl A nL kc ks ws tgt lv st) (kf : ¬ x < 0 → Vj p l e R s m args below meth c Q D cl A nL kc ks ws pc' lv st) : Vj p l e R s m args below meth c Q D cl A nL kc ks ws pc lv (.int x :: st) := by
  subst hp; exact fun H locs ls hP hD hS hh => lv_if_lt g.1 g.2.1 hdg ht (fun h => kt h H locs ls hP hD hS hh) (fun h => kf h H locs ls hP hD hS hh)
theorem v_icmp_ge (g : CallFix p m c cc nL s args Ts own) {x y : Int32} {off : Int} {tgt : Nat} (hdg : decode cc pc = .ok (.if_icmp .ge off, 3)) (ht : (pc : Int) + off = (tgt : Int)) (hp : pc + 3 = pc') (kt : y ≤ x → Vj p l e R s m args below meth c Q D cl A nL kc ks ws tgt lv st) (kf : ¬ y ≤ x → Vj p l e R s m args below meth c Q D cl A nL kc ks ws pc' lv st) : Vj p l e R s m args below meth c Q D cl A nL kc ks ws pc lv (.int y :: .int x :: st) := by
  subst hp; exact fun H locs ls hP hD hS hh => lv_icmp_ge g.1 g.2.1 hdg ht (fun h => kt h H locs ls hP hD hS hh) (fun h => kf h H locs ls hP hD hS hh)
theorem v_if_ge (g : CallFix p m c cc nL s args Ts own) {x : Int32} {off : Int} {tgt : Nat} (hdg : decode cc pc = .ok (.ifCond .ge off, 3)) (ht : (pc : Int) + off = (tgt : Int)) (hp : pc + 3 = pc') (kt : 0 ≤ x → Vj p l e R s m args below meth c Q D cl A nL kc ks ws tgt lv st) (kf : ¬ 0 ≤ x → Vj p l e R s m args below meth c Q D cl A nL kc ks ws pc' lv st) : Vj p l e R s m args below meth c Q D cl A nL kc ks ws pc lv (.int x :: st) := by
  subst hp; exact fun H locs ls hP hD hS hh => lv_if_ge g.1 g.2.1 hdg ht (fun h => kt h H locs ls hP hD hS hh) (fun h => kf h H locs ls hP hD hS hh)
theorem v_icmp_gt (g : CallFix p m c cc nL s args Ts own) {x y : Int32} {off : Int} {tgt : Nat} (hdg : decode cc pc = .ok (.if_icmp .gt off, 3)) (ht : (pc : Int) + off = (tgt : Int)) (hp : pc + 3 = pc') (kt : y < x → Vj p l e R s m args below meth c Q D cl A nL kc ks ws tgt lv st) (kf : ¬ y < x → Vj p l e R s m args below meth c Q D cl A nL kc ks ws pc' lv st) : Vj p l e R s m args below meth c Q D cl A nL kc ks ws pc lv (.int y :: .int x :: st) := by
  subst hp; exact fun H locs ls hP hD hS hh => lv_icmp_gt g.1 g.2.1 hdg ht (fun h => kt h H locs ls hP hD hS hh) (fun h => kf h H locs ls hP hD hS hh)
theorem v_if_gt (g : CallFix p m c cc nL s args Ts own) {x : Int32} {off : Int} {tgt : Nat} (hdg : decode cc pc = .ok (.ifCond .gt off, 3)) (ht : (pc : Int) + off = (tgt : Int)) (hp : pc + 3 = pc') (kt : 0 < x → Vj p l e R s m args below meth c Q D cl A nL kc ks ws tgt lv st) (kf : ¬ 0 < x → Vj p l e R s m args below meth c Q D cl A nL kc ks ws pc' lv st) : Vj p l e R s m args below meth c Q D cl A nL kc ks ws pc lv (.int x :: st) := by
  subst hp; exact fun H locs ls hP hD hS hh => lv_if_gt g.1 g.2.1 hdg ht (fun h => kt h H locs ls hP hD hS hh) (fun h => kf h H locs ls hP hD hS hh)
theorem v_icmp_le (g : CallFix p m c cc nL s args Ts own) {x y : Int32} {off : Int} {tgt : Nat} (hdg : decode cc pc = .ok (.if_icmp .le off, 3)) (ht : (pc : Int) + off = (tgt : Int)) (hp : pc + 3 = pc') (kt : x ≤ y → Vj p l e R s m args below meth c Q D cl A nL kc ks ws tgt lv st) (kf : ¬ x ≤ y → Vj p l e R s m args below meth c Q D cl A nL kc ks ws pc' lv st) : Vj p l e R s m args below meth c Q D cl A nL kc ks ws pc lv (.int y :: .int x :: st) := by
  subst hp; exact fun H locs ls hP hD hS hh => lv_icmp_le g.1 g.2.1 hdg ht (fun h => kt h H locs ls hP hD hS hh) (fun h => kf h H locs ls hP hD hS hh)
theorem v_if_le (g : CallFix p m c cc nL s args Ts own) {x : Int32} {off : Int} {tgt : Nat} (hdg : decode cc pc = .ok (.ifCond .le off, 3)) (ht : (pc : Int) + off = (tgt : Int)) (hp : pc + 3 = pc') (kt : x ≤ 0 → Vj p l e R s m args below meth c Q D cl A nL kc ks ws tgt lv st) (kf : ¬ x ≤ 0 → Vj p l e R s m args below meth c Q D cl A nL kc ks ws pc' lv st) : Vj p l e R s m args below meth c Q D cl A nL kc ks ws pc lv (.int x :: st) := by
  subst hp; exact fun H locs ls hP hD hS hh => lv_if_le g.1 g.2.1 hdg ht (fun h => kt h H locs ls hP hD hS hh) (fun h => kf h H locs ls hP hD hS hh)
theorem v_tableIn (g : CallFix p m c cc nL s args Ts own) {dflt lo hi : Int} {offs : Array Int} {len : Nat} {x : Int32} {off : Int} {tgt : Nat} (hdg : decode cc pc = .ok (.tableswitch dflt lo hi offs, len)) (h1 : ¬ x.toInt < lo) (h2 : ¬ hi < x.toInt) (ho : offs[(x.toInt - lo).toNat]? = some off) (ht : (pc : Int) + off = (tgt : Int)) (k : Vj p l e R s m args below meth c Q D cl A nL kc ks ws tgt lv st) : Vj p l e R s m args below meth c Q D cl A nL kc ks ws pc lv (.int x :: st) := fun H locs ls hP hD hS hh => lv_tableIn g.1 g.2.1 hdg h1 h2 ho ht (k H locs ls hP hD hS hh)
theorem v_tableOut (g : CallFix p m c cc nL s args Ts own) {dflt lo hi : Int} {offs : Array Int} {len : Nat} {x : Int32} {tgt : Nat} (hdg : decode cc pc = .ok (.tableswitch dflt lo hi offs, len)) (h : x.toInt < lo ∨ hi < x.toInt) (ht : (pc : Int) + dflt = (tgt : Int)) (k : Vj p l e R s m args below meth c Q D cl A nL kc ks ws tgt lv st) : Vj p l e R s m args below meth c Q D cl A nL kc ks ws pc lv (.int x :: st) := fun H locs ls hP hD hS hh => lv_tableOut g.1 g.2.1 hdg h ht (k H locs ls hP hD hS hh)
theorem v_ldc (g : CallFix p m c cc nL s args Ts own) {index : Nat} {v : Int32} (hdg : decode cc pc = .ok (.ldc index, 2)) (hw : Cond.constant own index v ∈ Ts) (hp : pc + 2 = pc') (k : Vj p l e R s m args below meth c Q D cl A nL kc ks ws pc' lv (.int v :: st)) : Vj p l e R s m args below meth c Q D cl A nL kc ks ws pc lv (st) := by
  subst hp; exact fun H locs ls hP hD hS hh => lv_ldc g.1 g.2.1 g.2.2.2.1 (g.2.2.2.2 _ hw) hdg (k H locs ls hP hD hS hh)
theorem v_ldcw (g : CallFix p m c cc nL s args Ts own) {index : Nat} {v : Int32} (hdg : decode cc pc = .ok (.ldc_w index, 3)) (hw : Cond.constant own index v ∈ Ts) (hp : pc + 3 = pc') (k : Vj p l e R s m args below meth c Q D cl A nL kc ks ws pc' lv (.int v :: st)) : Vj p l e R s m args below meth c Q D cl A nL kc ks ws pc lv (st) := by
  subst hp; exact fun H locs ls hP hD hS hh => lv_ldcw g.1 g.2.1 g.2.2.2.1 (g.2.2.2.2 _ hw) hdg (k H locs ls hP hD hS hh)
theorem v_ldc2 (g : CallFix p m c cc nL s args Ts own) {index : Nat} {v : Int64} (hdg : decode cc pc = .ok (.ldc2_w index, 3)) (hw : Cond.constantLong own index v ∈ Ts) (hp : pc + 3 = pc') (k : Vj p l e R s m args below meth c Q D cl A nL kc ks ws pc' lv (.long v :: st)) : Vj p l e R s m args below meth c Q D cl A nL kc ks ws pc lv (st) := by
  subst hp; exact fun H locs ls hP hD hS hh => lv_ldc2 g.1 g.2.1 g.2.2.2.1 (g.2.2.2.2 _ hw) hdg (k H locs ls hP hD hS hh)
theorem v_sub (is : List Nat) (h : lv_pick lv is = lv') (k : Vj p l e R s m args below meth c Q D cl A nL kc ks ws pc lv' st) : Vj p l e R s m args below meth c Q D cl A nL kc ks ws pc lv st := fun H locs ls hP hD hS hh => k H locs ls hP hD hS (lv_sub hh is h)
theorem v_lv (h : lv = lv') (k : Vj p l e R s m args below meth c Q D cl A nL kc ks ws pc lv' st) : Vj p l e R s m args below meth c Q D cl A nL kc ks ws pc lv st := h ▸ k
theorem v_ws {ws' : va_W} (h : ws = ws') (k : Vj p l e R s m args below meth c Q D cl A nL kc ks ws' pc lv st) : Vj p l e R s m args below meth c Q D cl A nL kc ks ws pc lv st := h ▸ k
theorem v_widen {k' n' : Nat} (h1 : kc ≤ k') (h2 : ks ≤ n') (k : Vj p l e R s m args below meth c Q D cl A nL k' n' ws pc lv st) : Vj p l e R s m args below meth c Q D cl A nL kc ks ws pc lv st := fun H locs ls hP hD hS hh => W.widen h1 h2 (k H locs ls hP hD hS hh)
theorem v_get (g : CallFix p m c cc nL s args Ts own) (hK : va_K D cl tys s) {C : String} {T : u_T} {N ci index a : Nat} (hin : ∀ w ∈ u_ws C T N, w ∈ Ts) (q0 : Nat) {fs : List Value} (he : ws[q0]? = some (a, .inr (ci, fs))) (hc : cl[ci]? = some (C, T, N)) (k : Nat) (hk : k < N) (hlink : Cond.fieldLink own index (T k).1 (T k).2.1 (T k).2.2.1 ∈ Ts) {v : Value} (hv : fs[k]? = some v) (hdg : decode cc pc = .ok (.getfield index, 3)) (hp : pc + 3 = pc') (kk : Vj p l e R s m args below meth c Q D cl A nL kc ks ws pc' lv (v :: st)) : Vj p l e R s m args below meth c Q D cl A nL kc ks ws pc lv (.ref a :: st) := by
  subst hp; exact fun H locs ls hP hD hS hh => va_get g.1 g.2.1 g.2.2.2.2 hin g.2.2.2.1 hK hP q0 he hc k hk (g.2.2.2.2 _ hlink) (fun _ h9 => h9) hv hdg (kk H locs ls hP hD hS hh)
theorem v_put (g : CallFix p m c cc nL s args Ts own) (hK : va_K D cl tys s) {C : String} {T : u_T} {N ci index a : Nat} (hin : ∀ w ∈ u_ws C T N, w ∈ Ts) (ty0 : Nat → FieldType) (hty : ∀ k, k < N → parseFieldDescriptor (T k).2.2.1 = some (ty0 k)) (hnm : ∀ a, a < N → ∀ b, b < N → a ≠ b → (T a).2.1 ≠ (T b).2.1) (q0 : Nat) {fs : List Value} (he : ws[q0]? = some (a, .inr (ci, fs))) (hc : cl[ci]? = some (C, T, N)) (k : Nat) (hk : k < N) (hlink : Cond.fieldLink own index (T k).1 (T k).2.1 (T k).2.2.1 ∈ Ts) (hfin : (T k).2.2.2 = false) {ty : FieldType} {v : Value} (hd : parseFieldDescriptor (T k).2.2.1 = some ty) (hn : narrow ty v = v) (hfit : fits ty v = true) (hl : k < fs.length) {ws' : va_W} (hws : ws.set q0 (a, .inr (ci, fs.set k v)) = ws') (hdg : decode cc pc = .ok (.putfield index, 3)) (hp : pc + 3 = pc') (kk : Vj p l e R s m args below meth c Q D cl A nL kc ks ws' pc' lv st) : Vj p l e R s m args below meth c Q D cl A nL kc ks ws pc lv (v :: .ref a :: st) := by
  subst hp; subst hws; exact fun H locs ls hP hD hS hh => va_put g.1 g.2.1 g.2.2.2.2 hin ty0 hty hnm g.2.2.2.1 hK hP hD hS q0 he hc k hk (g.2.2.2.2 _ hlink) (fun _ h9 => h9) hfin hd hn hfit hl hdg (fun H1 locs1 hP1 hD1 hS1 => kk H1 locs1 ls hP1 hD1 hS1 hh)
/-- an index in range, as a Bool -/
def inb (i : Int32) (n : Nat) : Bool := decide (¬ (i < 0 ∨ n ≤ i.toNatClampNeg))
theorem inb_vp {i : Int32} {n : Nat} (h : inb i n = true) : vp_in i n := by
  have h' : ¬ (i < 0 ∨ n ≤ i.toNatClampNeg) := of_decide_eq_true h
  exact h'
theorem v_iald (g : CallFix p m c cc nL s args Ts own) (hK : va_K D cl tys s) (q0 t0 : Nat) {cA : ClassId} {n a : Nat} {f : Nat → Int32} (ha : ws[q0]? = some (a, .inl (cA, n, .inl f))) (ht : tys[t0]? = some (cA, .int)) {i : Int32} (hin : inb i n = true) (hdg : decode cc pc = .ok (.iaload, 1)) (hp : pc + 1 = pc') (kk : Vj p l e R s m args below meth c Q D cl A nL kc ks ws pc' lv (.int (f i.toNatClampNeg) :: st)) : Vj p l e R s m args below meth c Q D cl A nL kc ks ws pc lv (.int i :: .ref a :: st) := by
  subst hp; exact fun H locs ls hP hD hS hh => va_iald g.1 g.2.1 hK hP q0 t0 ha ht (inb_vp hin) hdg (kk H locs ls hP hD hS hh)
theorem v_zald (g : CallFix p m c cc nL s args Ts own) (hK : va_K D cl tys s) (q0 t0 : Nat) {cA : ClassId} {n a : Nat} {f : Nat → Int32} (ha : ws[q0]? = some (a, .inl (cA, n, .inl f))) (ht : tys[t0]? = some (cA, .boolean)) {i : Int32} (hin : inb i n = true) (hdg : decode cc pc = .ok (.baload, 1)) (hp : pc + 1 = pc') (kk : Vj p l e R s m args below meth c Q D cl A nL kc ks ws pc' lv (.int (f i.toNatClampNeg) :: st)) : Vj p l e R s m args below meth c Q D cl A nL kc ks ws pc lv (.int i :: .ref a :: st) := by
  subst hp; exact fun H locs ls hP hD hS hh => va_zald g.1 g.2.1 hK hP q0 t0 ha ht (inb_vp hin) hdg (kk H locs ls hP hD hS hh)
theorem v_bald (g : CallFix p m c cc nL s args Ts own) (hK : va_K D cl tys s) (q0 t0 : Nat) {cA : ClassId} {n a : Nat} {f : Nat → Int32} (ha : ws[q0]? = some (a, .inl (cA, n, .inl f))) (ht : tys[t0]? = some (cA, .byte)) {i : Int32} (hin : inb i n = true) (hdg : decode cc pc = .ok (.baload, 1)) (hp : pc + 1 = pc') (kk : Vj p l e R s m args below meth c Q D cl A nL kc ks ws pc' lv (.int (f i.toNatClampNeg) :: st)) : Vj p l e R s m args below meth c Q D cl A nL kc ks ws pc lv (.int i :: .ref a :: st) := by
  subst hp; exact fun H locs ls hP hD hS hh => va_bald g.1 g.2.1 hK hP q0 t0 ha ht (inb_vp hin) hdg (kk H locs ls hP hD hS hh)
theorem v_lald (g : CallFix p m c cc nL s args Ts own) (hK : va_K D cl tys s) (q0 t0 : Nat) {cA : ClassId} {n a : Nat} {f : Nat → Int64} (ha : ws[q0]? = some (a, .inl (cA, n, .inr (.inl f)))) (ht : tys[t0]? = some (cA, .long)) {i : Int32} (hin : inb i n = true) (hdg : decode cc pc = .ok (.laload, 1)) (hp : pc + 1 = pc') (kk : Vj p l e R s m args below meth c Q D cl A nL kc ks ws pc' lv (.long (f i.toNatClampNeg) :: st)) : Vj p l e R s m args below meth c Q D cl A nL kc ks ws pc lv (.int i :: .ref a :: st) := by
  subst hp; exact fun H locs ls hP hD hS hh => va_lald g.1 g.2.1 hK hP q0 t0 ha ht (inb_vp hin) hdg (kk H locs ls hP hD hS hh)
theorem v_iast (g : CallFix p m c cc nL s args Ts own) (hK : va_K D cl tys s) (q0 t0 : Nat) {cA : ClassId} {n a : Nat} {f : Nat → Int32} (ha : ws[q0]? = some (a, .inl (cA, n, .inl f))) (ht : tys[t0]? = some (cA, .int)) {i : Int32} {x : Int32} (hin : inb i n = true) {ws' : va_W} (hws : ws.set q0 (a, .inl (cA, n, .inl (upd f i.toNatClampNeg x))) = ws') (hdg : decode cc pc = .ok (.iastore, 1)) (hp : pc + 1 = pc') (kk : Vj p l e R s m args below meth c Q D cl A nL kc ks ws' pc' lv st) : Vj p l e R s m args below meth c Q D cl A nL kc ks ws pc lv (.int x :: .int i :: .ref a :: st) := by
  subst hp; subst hws; exact fun H locs ls hP hD hS hh => va_iast g.1 g.2.1 hK hP hD hS q0 t0 ha ht (inb_vp hin) hdg (fun H1 locs1 hP1 hD1 hS1 => kk H1 locs1 ls hP1 hD1 hS1 hh)
theorem v_zast (g : CallFix p m c cc nL s args Ts own) (hK : va_K D cl tys s) (q0 t0 : Nat) {cA : ClassId} {n a : Nat} {f : Nat → Int32} (ha : ws[q0]? = some (a, .inl (cA, n, .inl f))) (ht : tys[t0]? = some (cA, .boolean)) {i : Int32} {x : Int32} (hin : inb i n = true) {ws' : va_W} (hws : ws.set q0 (a, .inl (cA, n, .inl (upd f i.toNatClampNeg (vp_nar .boolean x)))) = ws') (hdg : decode cc pc = .ok (.bastore, 1)) (hp : pc + 1 = pc') (kk : Vj p l e R s m args below meth c Q D cl A nL kc ks ws' pc' lv st) : Vj p l e R s m args below meth c Q D cl A nL kc ks ws pc lv (.int x :: .int i :: .ref a :: st) := by
  subst hp; subst hws; exact fun H locs ls hP hD hS hh => va_zast g.1 g.2.1 hK hP hD hS q0 t0 ha ht (inb_vp hin) hdg (fun H1 locs1 hP1 hD1 hS1 => kk H1 locs1 ls hP1 hD1 hS1 hh)
theorem v_bast (g : CallFix p m c cc nL s args Ts own) (hK : va_K D cl tys s) (q0 t0 : Nat) {cA : ClassId} {n a : Nat} {f : Nat → Int32} (ha : ws[q0]? = some (a, .inl (cA, n, .inl f))) (ht : tys[t0]? = some (cA, .byte)) {i : Int32} {x : Int32} (hin : inb i n = true) {ws' : va_W} (hws : ws.set q0 (a, .inl (cA, n, .inl (upd f i.toNatClampNeg (vp_nar .byte x)))) = ws') (hdg : decode cc pc = .ok (.bastore, 1)) (hp : pc + 1 = pc') (kk : Vj p l e R s m args below meth c Q D cl A nL kc ks ws' pc' lv st) : Vj p l e R s m args below meth c Q D cl A nL kc ks ws pc lv (.int x :: .int i :: .ref a :: st) := by
  subst hp; subst hws; exact fun H locs ls hP hD hS hh => va_bast g.1 g.2.1 hK hP hD hS q0 t0 ha ht (inb_vp hin) hdg (fun H1 locs1 hP1 hD1 hS1 => kk H1 locs1 ls hP1 hD1 hS1 hh)
theorem v_last (g : CallFix p m c cc nL s args Ts own) (hK : va_K D cl tys s) (q0 t0 : Nat) {cA : ClassId} {n a : Nat} {f : Nat → Int64} (ha : ws[q0]? = some (a, .inl (cA, n, .inr (.inl f)))) (ht : tys[t0]? = some (cA, .long)) {i : Int32} {x : Int64} (hin : inb i n = true) {ws' : va_W} (hws : ws.set q0 (a, .inl (cA, n, .inr (.inl (vp_updL f i.toNatClampNeg x)))) = ws') (hdg : decode cc pc = .ok (.lastore, 1)) (hp : pc + 1 = pc') (kk : Vj p l e R s m args below meth c Q D cl A nL kc ks ws' pc' lv st) : Vj p l e R s m args below meth c Q D cl A nL kc ks ws pc lv (.long x :: .int i :: .ref a :: st) := by
  subst hp; subst hws; exact fun H locs ls hP hD hS hh => va_last g.1 g.2.1 hK hP hD hS q0 t0 ha ht (inb_vp hin) hdg (fun H1 locs1 hP1 hD1 hS1 => kk H1 locs1 ls hP1 hD1 hS1 hh)
theorem v_alen (g : CallFix p m c cc nL s args Ts own) (hK : va_K D cl tys s) (q0 t0 : Nat) {cA : ClassId} {a : Nat} {x : vp_A} (ha : ws[q0]? = some (a, .inl (cA, x))) {ty : FieldType} (ht : tys[t0]? = some (cA, ty)) {v : Int32} (hv : Int32.ofNat x.1 = v) (hdg : decode cc pc = .ok (.arraylength, 1)) (hp : pc + 1 = pc') (kk : Vj p l e R s m args below meth c Q D cl A nL kc ks ws pc' lv (.int v :: st)) : Vj p l e R s m args below meth c Q D cl A nL kc ks ws pc lv (.ref a :: st) := by
  subst hp; exact fun H locs ls hP hD hS hh => va_alen g.1 g.2.1 hK hP q0 t0 ha ht hv hdg (kk H locs ls hP hD hS hh)
end VJ
section VC
variable {p : Program} {l : Launch} {e : Env} {R : Room} {s : State} {m : MethodId} {args : Array Value} {below : List Frame} {meth : Method} {c : Code} {Q : State → Prop} {D : va_G} {cl : List vw_C} {tys : List (ClassId × FieldType)} {A : Nat → Prop} {nL kc ks : Nat} {pc pc' : Nat} {lv : List (Nat × Value)} {cc bytes : ByteArray} {Ts wy : List Cond} {own C : String} {y : MethodName} {maxL index n mc ms b : Nat} {ret : Option FieldType} {rm : Room} {As av rest st : List Value} {σ : Type} {w : σ → va_W} {S : σ}
/-- a contract's start: the world is w0 -/
def pcC (D : va_G) (cl : List vw_C) (tys : List (ClassId × FieldType)) (w0 : va_W) (sz : Nat) (av : List Value) : Array Value → State → Prop := va_Pc av (fun U => U.heap.size = sz ∧ va_P D cl w0 U.heap ∧ va_K D cl tys U ∧ va_D (fun _ => True) w0)
/-- the world behind it -/
def qB {σ : Type} (D : va_G) (cl : List vw_C) (tys : List (ClassId × FieldType)) (w : σ → va_W) (A : Nat → Prop) : σ → State → Prop := fun S' t => va_P D cl (w S') t.heap ∧ va_K D cl tys t ∧ va_D A (w S')
def qI {σ : Type} (D : va_G) (cl : List vw_C) (tys : List (ClassId × FieldType)) (w : σ → va_W) (A : Nat → Prop) (Rm : Int32 × σ) := va_Qi (fun r S' => (r, S') = Rm) (qB D cl tys w A) A
def qL {σ : Type} (D : va_G) (cl : List vw_C) (tys : List (ClassId × FieldType)) (w : σ → va_W) (A : Nat → Prop) (Rm : Int64 × σ) := va_Ql (fun r S' => (r, S') = Rm) (qB D cl tys w A) A
def qV {σ : Type} (D : va_G) (cl : List vw_C) (tys : List (ClassId × FieldType)) (w : σ → va_W) (A : Nat → Prop) (Rm : σ) := va_Qv (fun S' => S' = Rm) (qB D cl tys w A) A
theorem pcC_blind {w0 : va_W} {sz : Nat} : FrameBlind (pcC D cl tys w0 sz av) := fun a U g mk q => by
  obtain ⟨q0, q1, qP, qK, qD⟩ := q
  exact ⟨q0, q1, qP, va_K.moved (u := U) (U := U.calling g mk a) (Vm.Alike.refl U.vm) qK, qD⟩
theorem idx_map {α : Type} (l : List α) : (List.range l.length).map (fun i => l[i]?) = l.map some := by
  apply List.ext_getElem?
  intro i
  simp only [List.getElem?_map, List.getElem?_range]
  by_cases h : i < l.length
  · simp [h, List.getElem?_range]
  · have : l.length ≤ i := Nat.le_of_not_lt h
    simp [List.getElem?_eq_none, this]
/-- a contract out of a walk -/
theorem met_i {Rm : Int32 × σ} (hy : plainName y.cls = true) (hlen : (lg_sl av).length ≤ maxL)
    (body : ∀ (p : Program) (e : Env) (s : State) (m : MethodId) (below : List Frame) (meth : Method) (c : Code) (A : Nat → Prop), CallFix p m c cc maxL s av.toArray Ts y.cls → meth.sig.returnType = some .int → meth.locks = false → va_K D cl tys s → (∀ q, s.heap.size ≤ q → A q) →
      Vj p l e rm s m av.toArray below meth c (MQ below (qI D cl tys w A Rm) av.toArray s mc ms A) D cl A maxL 0 0 (w S) 0 (lv_args 0 av) []) (sz : Nat) :
    Met l y (.code y cc maxL (some .int) :: Ts) rm (pcC D cl tys (w S) sz av) (qI D cl tys w (va_A (w S) sz) Rm) mc ms (va_A (w S) sz) := by
  refine Met.ofW (cc := cc) (maxL := maxL) (ret := (some .int)) hy rfl ?_
  intro p e s m args below meth c s₁ B hml hv
  obtain ⟨rfl, hsz, hP, hK, hD0⟩ := hv
  subst hsz
  have hD := hD0.self (sz := s.heap.size)
  have hts := atoms_spec (ws := .code y cc maxL (some .int) :: Ts) B.pre
  have g : CallFix p m c cc maxL s av.toArray Ts y.cls := ⟨B.exec, B.bytes, hml, findClass_of_methodNamed B.named, fun w hw => hts w (List.mem_cons_of_mem _ hw)⟩
  have hl := lv_entry av (n := maxL) hlen
  rw [lg_entry_eq]
  exact body p e s m below meth c (va_A (w S) s.heap.size) g B.returns B.notSynchronized hK (fun q h => Or.inr h) s.heap [] _ hP hD va_S.rf hl
/-- a contract out of a walk -/
theorem met_z {Rm : Int32 × σ} (hy : plainName y.cls = true) (hlen : (lg_sl av).length ≤ maxL)
    (body : ∀ (p : Program) (e : Env) (s : State) (m : MethodId) (below : List Frame) (meth : Method) (c : Code) (A : Nat → Prop), CallFix p m c cc maxL s av.toArray Ts y.cls → meth.sig.returnType = some .boolean → meth.locks = false → va_K D cl tys s → (∀ q, s.heap.size ≤ q → A q) →
      Vj p l e rm s m av.toArray below meth c (MQ below (qI D cl tys w A Rm) av.toArray s mc ms A) D cl A maxL 0 0 (w S) 0 (lv_args 0 av) []) (sz : Nat) :
    Met l y (.code y cc maxL (some .boolean) :: Ts) rm (pcC D cl tys (w S) sz av) (qI D cl tys w (va_A (w S) sz) Rm) mc ms (va_A (w S) sz) := by
  refine Met.ofW (cc := cc) (maxL := maxL) (ret := (some .boolean)) hy rfl ?_
  intro p e s m args below meth c s₁ B hml hv
  obtain ⟨rfl, hsz, hP, hK, hD0⟩ := hv
  subst hsz
  have hD := hD0.self (sz := s.heap.size)
  have hts := atoms_spec (ws := .code y cc maxL (some .boolean) :: Ts) B.pre
  have g : CallFix p m c cc maxL s av.toArray Ts y.cls := ⟨B.exec, B.bytes, hml, findClass_of_methodNamed B.named, fun w hw => hts w (List.mem_cons_of_mem _ hw)⟩
  have hl := lv_entry av (n := maxL) hlen
  rw [lg_entry_eq]
  exact body p e s m below meth c (va_A (w S) s.heap.size) g B.returns B.notSynchronized hK (fun q h => Or.inr h) s.heap [] _ hP hD va_S.rf hl
/-- a contract out of a walk -/
theorem met_l {Rm : Int64 × σ} (hy : plainName y.cls = true) (hlen : (lg_sl av).length ≤ maxL)
    (body : ∀ (p : Program) (e : Env) (s : State) (m : MethodId) (below : List Frame) (meth : Method) (c : Code) (A : Nat → Prop), CallFix p m c cc maxL s av.toArray Ts y.cls → meth.sig.returnType = some .long → meth.locks = false → va_K D cl tys s → (∀ q, s.heap.size ≤ q → A q) →
      Vj p l e rm s m av.toArray below meth c (MQ below (qL D cl tys w A Rm) av.toArray s mc ms A) D cl A maxL 0 0 (w S) 0 (lv_args 0 av) []) (sz : Nat) :
    Met l y (.code y cc maxL (some .long) :: Ts) rm (pcC D cl tys (w S) sz av) (qL D cl tys w (va_A (w S) sz) Rm) mc ms (va_A (w S) sz) := by
  refine Met.ofW (cc := cc) (maxL := maxL) (ret := (some .long)) hy rfl ?_
  intro p e s m args below meth c s₁ B hml hv
  obtain ⟨rfl, hsz, hP, hK, hD0⟩ := hv
  subst hsz
  have hD := hD0.self (sz := s.heap.size)
  have hts := atoms_spec (ws := .code y cc maxL (some .long) :: Ts) B.pre
  have g : CallFix p m c cc maxL s av.toArray Ts y.cls := ⟨B.exec, B.bytes, hml, findClass_of_methodNamed B.named, fun w hw => hts w (List.mem_cons_of_mem _ hw)⟩
  have hl := lv_entry av (n := maxL) hlen
  rw [lg_entry_eq]
  exact body p e s m below meth c (va_A (w S) s.heap.size) g B.returns B.notSynchronized hK (fun q h => Or.inr h) s.heap [] _ hP hD va_S.rf hl
/-- a contract out of a walk -/
theorem met_v {Rm : σ} (hy : plainName y.cls = true) (hlen : (lg_sl av).length ≤ maxL)
    (body : ∀ (p : Program) (e : Env) (s : State) (m : MethodId) (below : List Frame) (meth : Method) (c : Code) (A : Nat → Prop), CallFix p m c cc maxL s av.toArray Ts y.cls → meth.sig.returnType = none → meth.locks = false → va_K D cl tys s → (∀ q, s.heap.size ≤ q → A q) →
      Vj p l e rm s m av.toArray below meth c (MQ below (qV D cl tys w A Rm) av.toArray s mc ms A) D cl A maxL 0 0 (w S) 0 (lv_args 0 av) []) (sz : Nat) :
    Met l y (.code y cc maxL (none) :: Ts) rm (pcC D cl tys (w S) sz av) (qV D cl tys w (va_A (w S) sz) Rm) mc ms (va_A (w S) sz) := by
  refine Met.ofW (cc := cc) (maxL := maxL) (ret := none) hy rfl ?_
  intro p e s m args below meth c s₁ B hml hv
  obtain ⟨rfl, hsz, hP, hK, hD0⟩ := hv
  subst hsz
  have hD := hD0.self (sz := s.heap.size)
  have hts := atoms_spec (ws := .code y cc maxL (none) :: Ts) B.pre
  have g : CallFix p m c cc maxL s av.toArray Ts y.cls := ⟨B.exec, B.bytes, hml, findClass_of_methodNamed B.named, fun w hw => hts w (List.mem_cons_of_mem _ hw)⟩
  have hl := lv_entry av (n := maxL) hlen
  rw [lg_entry_eq]
  exact body p e s m below meth c (va_A (w S) s.heap.size) g B.returns B.notSynchronized hK (fun q h => Or.inr h) s.heap [] _ hP hD va_S.rf hl
theorem v_iret {v : Int32} {Rm : Int32 × σ} (g : CallFix p m c cc nL s args Ts own) (hr : meth.sig.returnType = some .int) (hlk : meth.locks = false) (hK : va_K D cl tys s) (hf : (v, S) = Rm) (hdg : decode cc pc = .ok (.ireturn, 1)) : Vj p l e R s m args below meth c (MQ below (qI D cl tys w A Rm) args s kc ks A) D cl A nL kc ks (w S) pc lv [.int v] := fun H locs ls hP hD hS hh => W.iret g.1 g.2.1 hr (fun t ht hW => ⟨⟨v, S, rfl, hf, by rw [ht]; exact hP, va_K.moved hW.alike hK, hD⟩, hS.F ht⟩) hS.2.2 hdg hlk
theorem v_lret {v : Int64} {Rm : Int64 × σ} (g : CallFix p m c cc nL s args Ts own) (hr : meth.sig.returnType = some .long) (hlk : meth.locks = false) (hK : va_K D cl tys s) (hf : (v, S) = Rm) (hdg : decode cc pc = .ok (.lreturn, 1)) : Vj p l e R s m args below meth c (MQ below (qL D cl tys w A Rm) args s kc ks A) D cl A nL kc ks (w S) pc lv [.long v] := fun H locs ls hP hD hS hh => W.lret g.1 g.2.1 hr (fun t ht hW => ⟨⟨v, S, rfl, hf, by rw [ht]; exact hP, va_K.moved hW.alike hK, hD⟩, hS.F ht⟩) hS.2.2 hdg hlk
/-- a boolean's word -/
def isB (v : Int32) : Bool := v == 0 || v == 1
theorem isB_nar {v : Int32} (h : isB v = true) : narrow .boolean (.int v) = .int v := by
  have h' : v = 0 ∨ v = 1 := by simpa [isB] using h
  rcases h' with rfl | rfl <;> rfl
theorem v_zret {v : Int32} {Rm : Int32 × σ} (g : CallFix p m c cc nL s args Ts own) (hr : meth.sig.returnType = some .boolean) (hlk : meth.locks = false) (hK : va_K D cl tys s) (hv : isB v = true) (hf : (v, S) = Rm) (hdg : decode cc pc = .ok (.ireturn, 1)) : Vj p l e R s m args below meth c (MQ below (qI D cl tys w A Rm) args s kc ks A) D cl A nL kc ks (w S) pc lv [.int v] := fun H locs ls hP hD hS hh => W.zret g.1 g.2.1 hr (isB_nar hv) (fun t ht hW => ⟨⟨v, S, rfl, hf, by rw [ht]; exact hP, va_K.moved hW.alike hK, hD⟩, hS.F ht⟩) hS.2.2 hdg hlk
theorem v_vret {Rm : σ} (g : CallFix p m c cc nL s args Ts own) (hr : meth.sig.returnType = none) (hlk : meth.locks = false) (hK : va_K D cl tys s) (hf : S = Rm) (hdg : decode cc pc = .ok (.return_, 1)) : Vj p l e R s m args below meth c (MQ below (qV D cl tys w A Rm) args s kc ks A) D cl A nL kc ks (w S) pc lv [] := fun H locs ls hP hD hS hh => W.vret g.1 g.2.1 hr (fun t ht hW => ⟨⟨S, rfl, hf, by rw [ht]; exact hP, va_K.moved hW.alike hK, hD⟩, hS.F ht⟩) hS.2.2 hdg hlk
theorem v_callV_i {r : Int32} {S1 : σ} (g : CallFix p m c cc nL s args Ts own) (hK : va_K D cl tys s) (hA : ∀ q, s.heap.size ≤ q → A q) (hM : ∀ sz, Met l y wy rm (pcC D cl tys (w S) sz (.ref b :: As)) (qI D cl tys w (va_A (w S) sz) (r, S1)) 0 0 (va_A (w S) sz)) (cw : CallW R s args own C index y bytes maxL ret wy rm 0 0 n) {q0 ci : Nat} {qc : vw_C} {fs : List Value} (hc : cl[ci]? = some qc) (hC : qc.1 = C) (he : (w S)[q0]? = some (b, .inr (ci, fs))) (hn : As.length = n) (hst : st = As.reverse ++ .ref b :: rest) (hrm : (rest.map fun v => v.category).sum ≤ 8) (hdg : decode cc pc = .ok (.invokevirtual index, 3)) (hcell : kc + 0 ≤ R.cells) (hslot : ks + 0 ≤ R.slots) (hp : pc + 3 = pc')
    (kk : Vj p l e R s m args below meth c Q D cl A nL kc ks (w S1) pc' lv (.int r :: rest)) : Vj p l e R s m args below meth c Q D cl A nL kc ks (w S) pc lv st := by
  subst hp
  subst hst
  intro H locs ls hP hD hS hh
  have hidx := idx_map (w S)
  have hFc := va_free (wc := w S) hD hS hA (List.range (w S).length) hidx
  refine va_calli (va_runV (As := As) (rest := rest) g (hM H.size) cw ⟨pcC_blind, hC ▸ va_recv hK hP hc he, fun U hU hW => ⟨rfl, by rw [hU], by rw [hU]; exact hP, va_K.moved hW.alike hK, hD.weaken (fun _ _ _ _ => trivial)⟩⟩ rfl hn hh.1 rfl (lv_room hrm) hdg ⟨hcell, hslot⟩) hS (fun q _ h => hFc q h) hFc (fun r9 u t H1 locs1 ht hvm hw hB hz1 hk1 hS1 => ?_)
  obtain ⟨hP1, hK1, hD1⟩ := hB
  rw [ht] at hP1
  obtain ⟨hP2, hD2⟩ := va_join (wr := []) hP hD (List.range (w S).length) [] hidx rfl rfl (fun i hi => by cases hi) hk1 hFc hP1 hD1
  cases hw
  exact kk H1 locs1 ls hP2 hD2 hS1 hh
theorem v_callV_l {r : Int64} {S1 : σ} (g : CallFix p m c cc nL s args Ts own) (hK : va_K D cl tys s) (hA : ∀ q, s.heap.size ≤ q → A q) (hM : ∀ sz, Met l y wy rm (pcC D cl tys (w S) sz (.ref b :: As)) (qL D cl tys w (va_A (w S) sz) (r, S1)) 0 0 (va_A (w S) sz)) (cw : CallW R s args own C index y bytes maxL ret wy rm 0 0 n) {q0 ci : Nat} {qc : vw_C} {fs : List Value} (hc : cl[ci]? = some qc) (hC : qc.1 = C) (he : (w S)[q0]? = some (b, .inr (ci, fs))) (hn : As.length = n) (hst : st = As.reverse ++ .ref b :: rest) (hrm : (rest.map fun v => v.category).sum ≤ 8) (hdg : decode cc pc = .ok (.invokevirtual index, 3)) (hcell : kc + 0 ≤ R.cells) (hslot : ks + 0 ≤ R.slots) (hp : pc + 3 = pc')
    (kk : Vj p l e R s m args below meth c Q D cl A nL kc ks (w S1) pc' lv (.long r :: rest)) : Vj p l e R s m args below meth c Q D cl A nL kc ks (w S) pc lv st := by
  subst hp
  subst hst
  intro H locs ls hP hD hS hh
  have hidx := idx_map (w S)
  have hFc := va_free (wc := w S) hD hS hA (List.range (w S).length) hidx
  refine va_calll (va_runV (As := As) (rest := rest) g (hM H.size) cw ⟨pcC_blind, hC ▸ va_recv hK hP hc he, fun U hU hW => ⟨rfl, by rw [hU], by rw [hU]; exact hP, va_K.moved hW.alike hK, hD.weaken (fun _ _ _ _ => trivial)⟩⟩ rfl hn hh.1 rfl (lv_room hrm) hdg ⟨hcell, hslot⟩) hS (fun q _ h => hFc q h) hFc (fun r9 u t H1 locs1 ht hvm hw hB hz1 hk1 hS1 => ?_)
  obtain ⟨hP1, hK1, hD1⟩ := hB
  rw [ht] at hP1
  obtain ⟨hP2, hD2⟩ := va_join (wr := []) hP hD (List.range (w S).length) [] hidx rfl rfl (fun i hi => by cases hi) hk1 hFc hP1 hD1
  cases hw
  exact kk H1 locs1 ls hP2 hD2 hS1 hh
theorem v_callV_v {S1 : σ} (g : CallFix p m c cc nL s args Ts own) (hK : va_K D cl tys s) (hA : ∀ q, s.heap.size ≤ q → A q) (hM : ∀ sz, Met l y wy rm (pcC D cl tys (w S) sz (.ref b :: As)) (qV D cl tys w (va_A (w S) sz) S1) 0 0 (va_A (w S) sz)) (cw : CallW R s args own C index y bytes maxL ret wy rm 0 0 n) {q0 ci : Nat} {qc : vw_C} {fs : List Value} (hc : cl[ci]? = some qc) (hC : qc.1 = C) (he : (w S)[q0]? = some (b, .inr (ci, fs))) (hn : As.length = n) (hst : st = As.reverse ++ .ref b :: rest) (hrm : (rest.map fun v => v.category).sum ≤ 8) (hdg : decode cc pc = .ok (.invokevirtual index, 3)) (hcell : kc + 0 ≤ R.cells) (hslot : ks + 0 ≤ R.slots) (hp : pc + 3 = pc')
    (kk : Vj p l e R s m args below meth c Q D cl A nL kc ks (w S1) pc' lv rest) : Vj p l e R s m args below meth c Q D cl A nL kc ks (w S) pc lv st := by
  subst hp
  subst hst
  intro H locs ls hP hD hS hh
  have hidx := idx_map (w S)
  have hFc := va_free (wc := w S) hD hS hA (List.range (w S).length) hidx
  refine va_callv (va_runV (As := As) (rest := rest) g (hM H.size) cw ⟨pcC_blind, hC ▸ va_recv hK hP hc he, fun U hU hW => ⟨rfl, by rw [hU], by rw [hU]; exact hP, va_K.moved hW.alike hK, hD.weaken (fun _ _ _ _ => trivial)⟩⟩ rfl hn hh.1 rfl (lv_room hrm) hdg ⟨hcell, hslot⟩) hS (fun q _ h => hFc q h) hFc (fun u t H1 locs1 ht hvm hw hB hz1 hk1 hS1 => ?_)
  obtain ⟨hP1, hK1, hD1⟩ := hB
  rw [ht] at hP1
  obtain ⟨hP2, hD2⟩ := va_join (wr := []) hP hD (List.range (w S).length) [] hidx rfl rfl (fun i hi => by cases hi) hk1 hFc hP1 hD1
  cases hw
  exact kk H1 locs1 ls hP2 hD2 hS1 hh
theorem v_callS_i {r : Int32} {S1 : σ} (g : CallFix p m c cc nL s args Ts own) (hK : va_K D cl tys s) (hA : ∀ q, s.heap.size ≤ q → A q) (hM : ∀ sz, Met l y wy rm (pcC D cl tys (w S) sz As) (qI D cl tys w (va_A (w S) sz) (r, S1)) 0 0 (va_A (w S) sz)) (cw : CallB R s args own index y bytes maxL ret wy rm 0 0 n ∧ (Cond.static y).before args s = true)  (hn : As.length = n) (hst : st = As.reverse ++ rest) (hrm : (rest.map fun v => v.category).sum ≤ 8) (hdg : decode cc pc = .ok (.invokestatic index, 3)) (hcell : kc + 0 ≤ R.cells) (hslot : ks + 0 ≤ R.slots) (hp : pc + 3 = pc')
    (kk : Vj p l e R s m args below meth c Q D cl A nL kc ks (w S1) pc' lv (.int r :: rest)) : Vj p l e R s m args below meth c Q D cl A nL kc ks (w S) pc lv st := by
  subst hp
  subst hst
  intro H locs ls hP hD hS hh
  have hidx := idx_map (w S)
  have hFc := va_free (wc := w S) hD hS hA (List.range (w S).length) hidx
  refine va_calli (va_runS (As := As) (rest := rest) g (hM H.size) cw ⟨pcC_blind, fun U hU hW => ⟨rfl, by rw [hU], by rw [hU]; exact hP, va_K.moved hW.alike hK, hD.weaken (fun _ _ _ _ => trivial)⟩⟩ rfl hn hh.1 rfl (lv_room hrm) hdg ⟨hcell, hslot⟩) hS (fun q _ h => hFc q h) hFc (fun r9 u t H1 locs1 ht hvm hw hB hz1 hk1 hS1 => ?_)
  obtain ⟨hP1, hK1, hD1⟩ := hB
  rw [ht] at hP1
  obtain ⟨hP2, hD2⟩ := va_join (wr := []) hP hD (List.range (w S).length) [] hidx rfl rfl (fun i hi => by cases hi) hk1 hFc hP1 hD1
  cases hw
  exact kk H1 locs1 ls hP2 hD2 hS1 hh
theorem v_callS_l {r : Int64} {S1 : σ} (g : CallFix p m c cc nL s args Ts own) (hK : va_K D cl tys s) (hA : ∀ q, s.heap.size ≤ q → A q) (hM : ∀ sz, Met l y wy rm (pcC D cl tys (w S) sz As) (qL D cl tys w (va_A (w S) sz) (r, S1)) 0 0 (va_A (w S) sz)) (cw : CallB R s args own index y bytes maxL ret wy rm 0 0 n ∧ (Cond.static y).before args s = true)  (hn : As.length = n) (hst : st = As.reverse ++ rest) (hrm : (rest.map fun v => v.category).sum ≤ 8) (hdg : decode cc pc = .ok (.invokestatic index, 3)) (hcell : kc + 0 ≤ R.cells) (hslot : ks + 0 ≤ R.slots) (hp : pc + 3 = pc')
    (kk : Vj p l e R s m args below meth c Q D cl A nL kc ks (w S1) pc' lv (.long r :: rest)) : Vj p l e R s m args below meth c Q D cl A nL kc ks (w S) pc lv st := by
  subst hp
  subst hst
  intro H locs ls hP hD hS hh
  have hidx := idx_map (w S)
  have hFc := va_free (wc := w S) hD hS hA (List.range (w S).length) hidx
  refine va_calll (va_runS (As := As) (rest := rest) g (hM H.size) cw ⟨pcC_blind, fun U hU hW => ⟨rfl, by rw [hU], by rw [hU]; exact hP, va_K.moved hW.alike hK, hD.weaken (fun _ _ _ _ => trivial)⟩⟩ rfl hn hh.1 rfl (lv_room hrm) hdg ⟨hcell, hslot⟩) hS (fun q _ h => hFc q h) hFc (fun r9 u t H1 locs1 ht hvm hw hB hz1 hk1 hS1 => ?_)
  obtain ⟨hP1, hK1, hD1⟩ := hB
  rw [ht] at hP1
  obtain ⟨hP2, hD2⟩ := va_join (wr := []) hP hD (List.range (w S).length) [] hidx rfl rfl (fun i hi => by cases hi) hk1 hFc hP1 hD1
  cases hw
  exact kk H1 locs1 ls hP2 hD2 hS1 hh
theorem v_callS_v {S1 : σ} (g : CallFix p m c cc nL s args Ts own) (hK : va_K D cl tys s) (hA : ∀ q, s.heap.size ≤ q → A q) (hM : ∀ sz, Met l y wy rm (pcC D cl tys (w S) sz As) (qV D cl tys w (va_A (w S) sz) S1) 0 0 (va_A (w S) sz)) (cw : CallB R s args own index y bytes maxL ret wy rm 0 0 n ∧ (Cond.static y).before args s = true)  (hn : As.length = n) (hst : st = As.reverse ++ rest) (hrm : (rest.map fun v => v.category).sum ≤ 8) (hdg : decode cc pc = .ok (.invokestatic index, 3)) (hcell : kc + 0 ≤ R.cells) (hslot : ks + 0 ≤ R.slots) (hp : pc + 3 = pc')
    (kk : Vj p l e R s m args below meth c Q D cl A nL kc ks (w S1) pc' lv rest) : Vj p l e R s m args below meth c Q D cl A nL kc ks (w S) pc lv st := by
  subst hp
  subst hst
  intro H locs ls hP hD hS hh
  have hidx := idx_map (w S)
  have hFc := va_free (wc := w S) hD hS hA (List.range (w S).length) hidx
  refine va_callv (va_runS (As := As) (rest := rest) g (hM H.size) cw ⟨pcC_blind, fun U hU hW => ⟨rfl, by rw [hU], by rw [hU]; exact hP, va_K.moved hW.alike hK, hD.weaken (fun _ _ _ _ => trivial)⟩⟩ rfl hn hh.1 rfl (lv_room hrm) hdg ⟨hcell, hslot⟩) hS (fun q _ h => hFc q h) hFc (fun u t H1 locs1 ht hvm hw hB hz1 hk1 hS1 => ?_)
  obtain ⟨hP1, hK1, hD1⟩ := hB
  rw [ht] at hP1
  obtain ⟨hP2, hD2⟩ := va_join (wr := []) hP hD (List.range (w S).length) [] hidx rfl rfl (fun i hi => by cases hi) hk1 hFc hP1 hD1
  cases hw
  exact kk H1 locs1 ls hP2 hD2 hS1 hh
theorem ifT {α : Type} {c : Prop} {h : Decidable c} {a b : Option α} {r : α} (hc : c) (hf : (@ite _ c h a b) = some r) : a = some r := (if_pos hc).symm.trans hf
theorem ifF {α : Type} {c : Prop} {h : Decidable c} {a b : Option α} {r : α} (hc : ¬ c) (hf : (@ite _ c h a b) = some r) : b = some r := (if_neg hc).symm.trans hf
theorem grd {α : Type} {c : Bool} {a : Option α} {r : α} (hf : (if c = true then a else none) = some r) : c = true ∧ a = some r := by
  cases c with
  | true => exact ⟨rfl, hf⟩
  | false => cases hf
theorem grn {α : Type} {c : Prop} {h : Decidable c} {a : Option α} {r : α} (hf : (@ite _ c h none a) = some r) : ¬ c ∧ a = some r := by
  by_cases hc : c
  · rw [if_pos hc] at hf; cases hf
  · exact ⟨hc, (if_neg hc).symm.trans hf⟩
theorem bnd {α β : Type} {o : Option α} {k : α → Option β} {r : β} (hf : o.bind k = some r) : ∃ q, o = some q ∧ k q = some r := by
  cases o with
  | none => cases hf
  | some q => exact ⟨q, rfl, hf⟩
/-- behind a loop that may return: it left (.inl) or returned (.inr) -/
def exK {α ρ : Type} (o : α ⊕ ρ) (k : α → Option ρ) : Option ρ := match o with
  | .inl a => k a
  | .inr q => some q
/-- the same within a loop -/
def exL {α ρ β : Type} (o : α ⊕ ρ) (k : α → Option (β ⊕ ρ)) : Option (β ⊕ ρ) := match o with
  | .inl a => k a
  | .inr q => some (.inr q)
theorem exKl {α ρ : Type} {y : α} {k : α → Option ρ} {r : ρ} (h : exK (.inl y) k = some r) : k y = some r := h
theorem exLl {α ρ β : Type} {y : α} {k : α → Option (β ⊕ ρ)} {r : β ⊕ ρ} (h : exL (.inl y) k = some r) : k y = some r := h
theorem pinj {α σ' : Type} {v r : α} {S' : σ'} (h : some v = some r) : (v, S') = (r, S') := by rw [Option.some.inj h]
theorem tsOut3 {x : Int32} (h0 : ¬ x = 0) (h1 : ¬ x = 1) (h2 : ¬ x = 2) : x.toInt < 0 ∨ 2 < x.toInt := by
  have a0 := lv_neT (a := 0) h0 rfl
  have a1 := lv_neT (a := 1) h1 rfl
  have a2 := lv_neT (a := 2) h2 rfl
  omega
end VC
abbrev St9 : Type := (Nat → Int32) × (Nat → Int64) × (Nat → Nat → Int32) × (Nat → Nat → Int64)
def gI (S : St9) (k : Nat) : Int32 := S.1 k
def gL (S : St9) (k : Nat) : Int64 := S.2.1 k
def gA (S : St9) (k : Nat) : Nat → Int32 := S.2.2.1 k
def gB (S : St9) (k : Nat) : Nat → Int64 := S.2.2.2 k
def sI (S : St9) (k : Nat) (v : Int32) : St9 := (va_up S.1 k v, S.2)
def sL (S : St9) (k : Nat) (v : Int64) : St9 := (S.1, va_up S.2.1 k v, S.2.2)
def tA (S : St9) (k : Nat) (i v : Int32) : St9 := (S.1, S.2.1, va_up S.2.2.1 k (upd (S.2.2.1 k) i.toNatClampNeg v), S.2.2.2)
def tB (S : St9) (k : Nat) (i : Int32) (v : Int64) : St9 := (S.1, S.2.1, S.2.2.1, va_up S.2.2.2 k (vp_updL (S.2.2.2 k) i.toNatClampNeg v))
def St0 : St9 := (fun _ => 0, fun _ => 0, fun _ _ => 0, fun _ _ => 0)
