/-! the judgement: the machine at frame (pc, L, st) over any heap that the ghost heap G describes -/
def zV (p : Program) (l : Launch) (e : Env) (R : Room) (s : State) (m : MethodId) (args : Array Value) (below : List Frame) (meth : Method) (c : Code) (D : va_G) (A : Nat → Prop) (cells slots : Nat) (Q : State → Prop) (G : zG) (pc : Nat) (L : List (Option Value)) (st : List Value) : Prop :=
  ∀ (H : Heap) (locs : List Loc) (ls : Array Slot), zP D s G H → va_S A s.heap H locs → (∀ (a : Nat) (x : Nat × zE), G a = some x → A a) → zL ls L → W p l e R s m args below meth c H locs cells slots Q (F0 m pc ls st)
/-- what holds all through a method's body -/
def zC (p : Program) (s : State) (m : MethodId) (args : Array Value) (meth : Method) (c : Code) (D : va_G) (A : Nat → Prop) (cc : ByteArray) (nL : Nat) (own : String) (Ts : List Cond) (ret : Option FieldType) : Prop :=
  CallFix p m c cc nL s args Ts own ∧ va_K D vwCl [] s ∧ (∀ q : Nat, s.heap.size ≤ q → A q) ∧ meth.sig.returnType = ret ∧ meth.locks = false
section ZV
variable {p : Program} {l : Launch} {e : Env} {R : Room} {s : State} {m : MethodId} {args : Array Value} {below : List Frame} {meth : Method} {c : Code} {D : va_G} {A : Nat → Prop} {cells slots : Nat} {Q : State → Prop} {G : zG} {pc : Nat} {L : List (Option Value)} {st : List Value}
variable {cc : ByteArray} {nL : Nat} {own : String} {Ts : List Cond} {ret : Option FieldType}
theorem zC.ts (C : zC p s m args meth c D A cc nL own Ts ret) {w : Cond} (h : w ∈ Ts) : w.before args s = true := C.1.2.2.2.2 w h
theorem zV.less {L' : List (Option Value)} (h : zle L' L) (kk : zV p l e R s m args below meth c D A cells slots Q G pc L' st) : zV p l e R s m args below meth c D A cells slots Q G pc L st := fun H locs ls hP hS hG hL => kk H locs ls hP hS hG (zL_less hL h)
theorem zV.widen {k n : Nat} (h1 : cells ≤ k) (h2 : slots ≤ n) (kk : zV p l e R s m args below meth c D A k n Q G pc L st) : zV p l e R s m args below meth c D A cells slots Q G pc L st := fun H locs ls hP hS hG hL => W.widen h1 h2 (kk H locs ls hP hS hG hL)
theorem zV.fewer {G' : zG} (h : ∀ a x, G' a = some x → G a = some x) (kk : zV p l e R s m args below meth c D A cells slots Q G' pc L st) : zV p l e R s m args below meth c D A cells slots Q G pc L st := fun H locs ls hP hS hG hL => kk H locs ls (fun a t e he => hP a t e (h a _ he)) hS (fun a x hx => hG a x (h a x hx)) hL
theorem zV.alt (Hx : ∀ (H : Heap), zP D s G H → zV p l e R s m args below meth c D A cells slots Q G pc L st) : zV p l e R s m args below meth c D A cells slots Q G pc L st := fun H locs ls hP hS hG hL => Hx H hP H locs ls hP hS hG hL
theorem zz_iload_n (C : zC p s m args meth c D A cc nL own Ts ret) {k : Fin 4} {x : Int32} (hdg : decode cc pc = .ok (.iload_n k, 1)) (hL : L[(k : Nat)]? = some (some (.int x))) (kk : zV p l e R s m args below meth c D A cells slots Q G (pc + 1) L (.int x :: st)) : zV p l e R s m args below meth c D A cells slots Q G (pc) L st := fun H locs ls hP hS hG hL9 => lv_iload_n C.1.1 C.1.2.1 hdg rfl (zL_at hL9 hL) (kk H locs ls hP hS hG hL9)
theorem zz_iload (C : zC p s m args meth c D A cc nL own Ts ret) {i : Nat} {x : Int32} (hdg : decode cc pc = .ok (.iload i, 2)) (hL : L[i]? = some (some (.int x))) (kk : zV p l e R s m args below meth c D A cells slots Q G (pc + 2) L (.int x :: st)) : zV p l e R s m args below meth c D A cells slots Q G (pc) L st := fun H locs ls hP hS hG hL9 => lv_iload C.1.1 C.1.2.1 hdg (zL_at hL9 hL) (kk H locs ls hP hS hG hL9)
theorem zz_lload_n (C : zC p s m args meth c D A cc nL own Ts ret) {k : Fin 4} {x : Int64} (hdg : decode cc pc = .ok (.lload_n k, 1)) (hL : L[(k : Nat)]? = some (some (.long x))) (kk : zV p l e R s m args below meth c D A cells slots Q G (pc + 1) L (.long x :: st)) : zV p l e R s m args below meth c D A cells slots Q G (pc) L st := fun H locs ls hP hS hG hL9 => lv_lload_n C.1.1 C.1.2.1 hdg rfl (zL_at hL9 hL) (kk H locs ls hP hS hG hL9)
theorem zz_lload (C : zC p s m args meth c D A cc nL own Ts ret) {i : Nat} {x : Int64} (hdg : decode cc pc = .ok (.lload i, 2)) (hL : L[i]? = some (some (.long x))) (kk : zV p l e R s m args below meth c D A cells slots Q G (pc + 2) L (.long x :: st)) : zV p l e R s m args below meth c D A cells slots Q G (pc) L st := fun H locs ls hP hS hG hL9 => lv_lload C.1.1 C.1.2.1 hdg (zL_at hL9 hL) (kk H locs ls hP hS hG hL9)
theorem zz_aload_n (C : zC p s m args meth c D A cc nL own Ts ret) {k : Fin 4} {x : Nat} (hdg : decode cc pc = .ok (.aload_n k, 1)) (hL : L[(k : Nat)]? = some (some (.ref x))) (kk : zV p l e R s m args below meth c D A cells slots Q G (pc + 1) L (.ref x :: st)) : zV p l e R s m args below meth c D A cells slots Q G (pc) L st := fun H locs ls hP hS hG hL9 => lv_aload_n C.1.1 C.1.2.1 hdg rfl (zL_at hL9 hL) (kk H locs ls hP hS hG hL9)
theorem zz_aload (C : zC p s m args meth c D A cc nL own Ts ret) {i : Nat} {x : Nat} (hdg : decode cc pc = .ok (.aload i, 2)) (hL : L[i]? = some (some (.ref x))) (kk : zV p l e R s m args below meth c D A cells slots Q G (pc + 2) L (.ref x :: st)) : zV p l e R s m args below meth c D A cells slots Q G (pc) L st := fun H locs ls hP hS hG hL9 => lv_aload C.1.1 C.1.2.1 hdg (zL_at hL9 hL) (kk H locs ls hP hS hG hL9)
theorem zz_aloadN_n (C : zC p s m args meth c D A cc nL own Ts ret) {k : Fin 4} (hdg : decode cc pc = .ok (.aload_n k, 1)) (hL : L[(k : Nat)]? = some (some (.null))) (kk : zV p l e R s m args below meth c D A cells slots Q G (pc + 1) L (.null :: st)) : zV p l e R s m args below meth c D A cells slots Q G (pc) L st := fun H locs ls hP hS hG hL9 => lv_aload_nN C.1.1 C.1.2.1 hdg rfl (zL_at hL9 hL) (kk H locs ls hP hS hG hL9)
theorem zz_aloadN (C : zC p s m args meth c D A cc nL own Ts ret) {i : Nat} (hdg : decode cc pc = .ok (.aload i, 2)) (hL : L[i]? = some (some (.null))) (kk : zV p l e R s m args below meth c D A cells slots Q G (pc + 2) L (.null :: st)) : zV p l e R s m args below meth c D A cells slots Q G (pc) L st := fun H locs ls hP hS hG hL9 => lv_aloadN C.1.1 C.1.2.1 hdg (zL_at hL9 hL) (kk H locs ls hP hS hG hL9)
theorem zz_istore_n (C : zC p s m args meth c D A cc nL own Ts ret) {k : Fin 4} {x : Int32} (hdg : decode cc pc = .ok (.istore_n k, 1)) (hi : (k : Nat) < L.length) (kk : zV p l e R s m args below meth c D A cells slots Q G (pc + 1) (zs1 (k : Nat) (.int x) L) st) : zV p l e R s m args below meth c D A cells slots Q G (pc) L (.int x :: st) := fun H locs ls hP hS hG hL9 => lv_istore_n C.1.1 C.1.2.1 hdg rfl (zL_has hL9 (fun _ => true)) hi rfl (fun ls9 h9 => kk H locs ls9 hP hS hG (zL_store1 h9))
theorem zz_astore_n (C : zC p s m args meth c D A cc nL own Ts ret) {k : Fin 4} {x : Nat} (hdg : decode cc pc = .ok (.astore_n k, 1)) (hi : (k : Nat) < L.length) (kk : zV p l e R s m args below meth c D A cells slots Q G (pc + 1) (zs1 (k : Nat) (.ref x) L) st) : zV p l e R s m args below meth c D A cells slots Q G (pc) L (.ref x :: st) := fun H locs ls hP hS hG hL9 => lv_astore_n C.1.1 C.1.2.1 hdg rfl (zL_has hL9 (fun _ => true)) hi rfl (fun ls9 h9 => kk H locs ls9 hP hS hG (zL_store1 h9))
theorem zz_astoreN_n (C : zC p s m args meth c D A cc nL own Ts ret) {k : Fin 4} (hdg : decode cc pc = .ok (.astore_n k, 1)) (hi : (k : Nat) < L.length) (kk : zV p l e R s m args below meth c D A cells slots Q G (pc + 1) (zs1 (k : Nat) (.null) L) st) : zV p l e R s m args below meth c D A cells slots Q G (pc) L (.null :: st) := fun H locs ls hP hS hG hL9 => lv_astore_nN C.1.1 C.1.2.1 hdg rfl (zL_has hL9 (fun _ => true)) hi rfl (fun ls9 h9 => kk H locs ls9 hP hS hG (zL_store1 h9))
theorem zz_lstore_n (C : zC p s m args meth c D A cc nL own Ts ret) {k : Fin 4} {x : Int64} (hdg : decode cc pc = .ok (.lstore_n k, 1)) (hi : (k : Nat) + 1 < L.length) (kk : zV p l e R s m args below meth c D A cells slots Q G (pc + 1) (zs2 (k : Nat) (.long x) L) st) : zV p l e R s m args below meth c D A cells slots Q G (pc) L (.long x :: st) := fun H locs ls hP hS hG hL9 => lv_lstore_n C.1.1 C.1.2.1 hdg rfl (zL_has hL9 (fun _ => true)) hi rfl (fun ls9 h9 => kk H locs ls9 hP hS hG (zL_store2 h9))
theorem zz_istore (C : zC p s m args meth c D A cc nL own Ts ret) {i : Nat} {x : Int32} (hdg : decode cc pc = .ok (.istore i, 2)) (hi : i < L.length) (kk : zV p l e R s m args below meth c D A cells slots Q G (pc + 2) (zs1 i (.int x) L) st) : zV p l e R s m args below meth c D A cells slots Q G (pc) L (.int x :: st) := fun H locs ls hP hS hG hL9 => lv_istore C.1.1 C.1.2.1 hdg (zL_has hL9 (fun _ => true)) hi rfl (fun ls9 h9 => kk H locs ls9 hP hS hG (zL_store1 h9))
theorem zz_astore (C : zC p s m args meth c D A cc nL own Ts ret) {i : Nat} {x : Nat} (hdg : decode cc pc = .ok (.astore i, 2)) (hi : i < L.length) (kk : zV p l e R s m args below meth c D A cells slots Q G (pc + 2) (zs1 i (.ref x) L) st) : zV p l e R s m args below meth c D A cells slots Q G (pc) L (.ref x :: st) := fun H locs ls hP hS hG hL9 => lv_astore C.1.1 C.1.2.1 hdg (zL_has hL9 (fun _ => true)) hi rfl (fun ls9 h9 => kk H locs ls9 hP hS hG (zL_store1 h9))
theorem zz_astoreN (C : zC p s m args meth c D A cc nL own Ts ret) {i : Nat} (hdg : decode cc pc = .ok (.astore i, 2)) (hi : i < L.length) (kk : zV p l e R s m args below meth c D A cells slots Q G (pc + 2) (zs1 i (.null) L) st) : zV p l e R s m args below meth c D A cells slots Q G (pc) L (.null :: st) := fun H locs ls hP hS hG hL9 => lv_astoreN C.1.1 C.1.2.1 hdg (zL_has hL9 (fun _ => true)) hi rfl (fun ls9 h9 => kk H locs ls9 hP hS hG (zL_store1 h9))
theorem zz_lstore (C : zC p s m args meth c D A cc nL own Ts ret) {i : Nat} {x : Int64} (hdg : decode cc pc = .ok (.lstore i, 2)) (hi : i + 1 < L.length) (kk : zV p l e R s m args below meth c D A cells slots Q G (pc + 2) (zs2 i (.long x) L) st) : zV p l e R s m args below meth c D A cells slots Q G (pc) L (.long x :: st) := fun H locs ls hP hS hG hL9 => lv_lstore C.1.1 C.1.2.1 hdg (zL_has hL9 (fun _ => true)) hi rfl (fun ls9 h9 => kk H locs ls9 hP hS hG (zL_store2 h9))
theorem zz_iinc (C : zC p s m args meth c D A cc nL own Ts ret) {i : Nat} {n : Int} {x : Int32} (hdg : decode cc pc = .ok (.iinc i n, 3)) (hL : L[i]? = some (some (.int x))) (kk : zV p l e R s m args below meth c D A cells slots Q G (pc + 3) (zs1 i (.int (x + Int32.ofInt n)) L) st) : zV p l e R s m args below meth c D A cells slots Q G (pc) L st := by
  intro H locs ls hP hS hG hL9
  have hi : i < L.length := (List.getElem?_eq_some_iff.mp hL).1
  have hm : (i, Value.int x) ∈ zl L (fun _ => true) := zl_in.mpr ⟨hL, rfl⟩
  obtain ⟨k, hk⟩ := List.getElem?_of_mem hm
  exact lv_iinc C.1.1 C.1.2.1 hdg (zL_has hL9 (fun _ => true)) hk rfl hi rfl (fun ls9 h9 => kk H locs ls9 hP hS hG (zL_store1 h9))
theorem zz_iconst (C : zC p s m args meth c D A cc nL own Ts ret) {n : Int} {v : Int32} (hv : Int32.ofInt n = v) (hdg : decode cc pc = .ok (.iconst n, 1)) (kk : zV p l e R s m args below meth c D A cells slots Q G (pc + 1) L (.int v :: st)) : zV p l e R s m args below meth c D A cells slots Q G (pc) L st := fun H locs ls hP hS hG hL9 => lv_iconst C.1.1 C.1.2.1 hdg hv (kk H locs ls hP hS hG hL9)
theorem zz_bipush (C : zC p s m args meth c D A cc nL own Ts ret) {n : Int} {v : Int32} (hv : (Int8.ofInt n).toInt32 = v) (hdg : decode cc pc = .ok (.bipush n, 2)) (kk : zV p l e R s m args below meth c D A cells slots Q G (pc + 2) L (.int v :: st)) : zV p l e R s m args below meth c D A cells slots Q G (pc) L st := fun H locs ls hP hS hG hL9 => lv_bipush C.1.1 C.1.2.1 hdg hv (kk H locs ls hP hS hG hL9)
theorem zz_sipush (C : zC p s m args meth c D A cc nL own Ts ret) {n : Int} {v : Int32} (hv : (Int16.ofInt n).toInt32 = v) (hdg : decode cc pc = .ok (.sipush n, 3)) (kk : zV p l e R s m args below meth c D A cells slots Q G (pc + 3) L (.int v :: st)) : zV p l e R s m args below meth c D A cells slots Q G (pc) L st := fun H locs ls hP hS hG hL9 => lv_sipush C.1.1 C.1.2.1 hdg hv (kk H locs ls hP hS hG hL9)
theorem zz_lconst (C : zC p s m args meth c D A cc nL own Ts ret) {n : Fin 2} {v : Int64} (hv : Int64.ofNat (n : Nat) = v) (hdg : decode cc pc = .ok (.lconst n, 1)) (kk : zV p l e R s m args below meth c D A cells slots Q G (pc + 1) L (.long v :: st)) : zV p l e R s m args below meth c D A cells slots Q G (pc) L st := fun H locs ls hP hS hG hL9 => lv_lconst C.1.1 C.1.2.1 hdg hv (kk H locs ls hP hS hG hL9)
theorem zz_null (C : zC p s m args meth c D A cc nL own Ts ret) (hdg : decode cc pc = .ok (.aconst_null, 1)) (kk : zV p l e R s m args below meth c D A cells slots Q G (pc + 1) L (.null :: st)) : zV p l e R s m args below meth c D A cells slots Q G (pc) L st := fun H locs ls hP hS hG hL9 => lv_null C.1.1 C.1.2.1 hdg (kk H locs ls hP hS hG hL9)
theorem zz_ldc (C : zC p s m args meth c D A cc nL own Ts ret) {index : Nat} {v : Int32} (hw : Jvm.Cond.constant own index v ∈ Ts) (hdg : decode cc pc = .ok (.ldc index, 2)) (kk : zV p l e R s m args below meth c D A cells slots Q G (pc + 2) L (.int v :: st)) : zV p l e R s m args below meth c D A cells slots Q G (pc) L st := fun H locs ls hP hS hG hL9 => lv_ldc C.1.1 C.1.2.1 C.1.2.2.2.1 (C.ts hw) hdg (kk H locs ls hP hS hG hL9)
theorem zz_ldc2 (C : zC p s m args meth c D A cc nL own Ts ret) {index : Nat} {v : Int64} (hw : Jvm.Cond.constantLong own index v ∈ Ts) (hdg : decode cc pc = .ok (.ldc2_w index, 3)) (kk : zV p l e R s m args below meth c D A cells slots Q G (pc + 3) L (.long v :: st)) : zV p l e R s m args below meth c D A cells slots Q G (pc) L st := fun H locs ls hP hS hG hL9 => lv_ldc2 C.1.1 C.1.2.1 C.1.2.2.2.1 (C.ts hw) hdg (kk H locs ls hP hS hG hL9)
theorem zz_iadd (C : zC p s m args meth c D A cc nL own Ts ret) {x : Int32} {y : Int32} (hdg : decode cc pc = .ok (.iadd, 1)) (kk : zV p l e R s m args below meth c D A cells slots Q G (pc + 1) L (.int (x + y) :: st)) : zV p l e R s m args below meth c D A cells slots Q G (pc) L (.int y :: .int x :: st) := fun H locs ls hP hS hG hL9 => lv_iadd C.1.1 C.1.2.1 hdg (kk H locs ls hP hS hG hL9)
theorem zz_isub (C : zC p s m args meth c D A cc nL own Ts ret) {x : Int32} {y : Int32} (hdg : decode cc pc = .ok (.isub, 1)) (kk : zV p l e R s m args below meth c D A cells slots Q G (pc + 1) L (.int (x - y) :: st)) : zV p l e R s m args below meth c D A cells slots Q G (pc) L (.int y :: .int x :: st) := fun H locs ls hP hS hG hL9 => lv_isub C.1.1 C.1.2.1 hdg (kk H locs ls hP hS hG hL9)
theorem zz_imul (C : zC p s m args meth c D A cc nL own Ts ret) {x : Int32} {y : Int32} (hdg : decode cc pc = .ok (.imul, 1)) (kk : zV p l e R s m args below meth c D A cells slots Q G (pc + 1) L (.int (x * y) :: st)) : zV p l e R s m args below meth c D A cells slots Q G (pc) L (.int y :: .int x :: st) := fun H locs ls hP hS hG hL9 => lv_imul C.1.1 C.1.2.1 hdg (kk H locs ls hP hS hG hL9)
theorem zz_iand (C : zC p s m args meth c D A cc nL own Ts ret) {x : Int32} {y : Int32} (hdg : decode cc pc = .ok (.iand, 1)) (kk : zV p l e R s m args below meth c D A cells slots Q G (pc + 1) L (.int (x &&& y) :: st)) : zV p l e R s m args below meth c D A cells slots Q G (pc) L (.int y :: .int x :: st) := fun H locs ls hP hS hG hL9 => lv_iand C.1.1 C.1.2.1 hdg (kk H locs ls hP hS hG hL9)
theorem zz_ior (C : zC p s m args meth c D A cc nL own Ts ret) {x : Int32} {y : Int32} (hdg : decode cc pc = .ok (.ior, 1)) (kk : zV p l e R s m args below meth c D A cells slots Q G (pc + 1) L (.int (x ||| y) :: st)) : zV p l e R s m args below meth c D A cells slots Q G (pc) L (.int y :: .int x :: st) := fun H locs ls hP hS hG hL9 => lv_ior C.1.1 C.1.2.1 hdg (kk H locs ls hP hS hG hL9)
theorem zz_ixor (C : zC p s m args meth c D A cc nL own Ts ret) {x : Int32} {y : Int32} (hdg : decode cc pc = .ok (.ixor, 1)) (kk : zV p l e R s m args below meth c D A cells slots Q G (pc + 1) L (.int (x ^^^ y) :: st)) : zV p l e R s m args below meth c D A cells slots Q G (pc) L (.int y :: .int x :: st) := fun H locs ls hP hS hG hL9 => lv_ixor C.1.1 C.1.2.1 hdg (kk H locs ls hP hS hG hL9)
theorem zz_ishl (C : zC p s m args meth c D A cc nL own Ts ret) {x : Int32} {y : Int32} (hdg : decode cc pc = .ok (.ishl, 1)) (kk : zV p l e R s m args below meth c D A cells slots Q G (pc + 1) L (.int (x <<< (y &&& 31)) :: st)) : zV p l e R s m args below meth c D A cells slots Q G (pc) L (.int y :: .int x :: st) := fun H locs ls hP hS hG hL9 => lv_ishl C.1.1 C.1.2.1 hdg (kk H locs ls hP hS hG hL9)
theorem zz_ishr (C : zC p s m args meth c D A cc nL own Ts ret) {x : Int32} {y : Int32} (hdg : decode cc pc = .ok (.ishr, 1)) (kk : zV p l e R s m args below meth c D A cells slots Q G (pc + 1) L (.int (x >>> (y &&& 31)) :: st)) : zV p l e R s m args below meth c D A cells slots Q G (pc) L (.int y :: .int x :: st) := fun H locs ls hP hS hG hL9 => lv_ishr C.1.1 C.1.2.1 hdg (kk H locs ls hP hS hG hL9)
theorem zz_ladd (C : zC p s m args meth c D A cc nL own Ts ret) {x : Int64} {y : Int64} (hdg : decode cc pc = .ok (.ladd, 1)) (kk : zV p l e R s m args below meth c D A cells slots Q G (pc + 1) L (.long (x + y) :: st)) : zV p l e R s m args below meth c D A cells slots Q G (pc) L (.long y :: .long x :: st) := fun H locs ls hP hS hG hL9 => lv_ladd C.1.1 C.1.2.1 hdg (kk H locs ls hP hS hG hL9)
theorem zz_land (C : zC p s m args meth c D A cc nL own Ts ret) {x : Int64} {y : Int64} (hdg : decode cc pc = .ok (.land, 1)) (kk : zV p l e R s m args below meth c D A cells slots Q G (pc + 1) L (.long (x &&& y) :: st)) : zV p l e R s m args below meth c D A cells slots Q G (pc) L (.long y :: .long x :: st) := fun H locs ls hP hS hG hL9 => lv_land C.1.1 C.1.2.1 hdg (kk H locs ls hP hS hG hL9)
theorem zz_lor (C : zC p s m args meth c D A cc nL own Ts ret) {x : Int64} {y : Int64} (hdg : decode cc pc = .ok (.lor, 1)) (kk : zV p l e R s m args below meth c D A cells slots Q G (pc + 1) L (.long (x ||| y) :: st)) : zV p l e R s m args below meth c D A cells slots Q G (pc) L (.long y :: .long x :: st) := fun H locs ls hP hS hG hL9 => lv_lor C.1.1 C.1.2.1 hdg (kk H locs ls hP hS hG hL9)
theorem zz_lxor (C : zC p s m args meth c D A cc nL own Ts ret) {x : Int64} {y : Int64} (hdg : decode cc pc = .ok (.lxor, 1)) (kk : zV p l e R s m args below meth c D A cells slots Q G (pc + 1) L (.long (x ^^^ y) :: st)) : zV p l e R s m args below meth c D A cells slots Q G (pc) L (.long y :: .long x :: st) := fun H locs ls hP hS hG hL9 => lv_lxor C.1.1 C.1.2.1 hdg (kk H locs ls hP hS hG hL9)
theorem zz_lshl (C : zC p s m args meth c D A cc nL own Ts ret) {x : Int64} {y : Int32} (hdg : decode cc pc = .ok (.lshl, 1)) (kk : zV p l e R s m args below meth c D A cells slots Q G (pc + 1) L (.long (x <<< (y.toInt64 &&& 63)) :: st)) : zV p l e R s m args below meth c D A cells slots Q G (pc) L (.int y :: .long x :: st) := fun H locs ls hP hS hG hL9 => lv_lshl C.1.1 C.1.2.1 hdg rfl (kk H locs ls hP hS hG hL9)
theorem zz_lshr (C : zC p s m args meth c D A cc nL own Ts ret) {x : Int64} {y : Int32} (hdg : decode cc pc = .ok (.lshr, 1)) (kk : zV p l e R s m args below meth c D A cells slots Q G (pc + 1) L (.long (x >>> (y.toInt64 &&& 63)) :: st)) : zV p l e R s m args below meth c D A cells slots Q G (pc) L (.int y :: .long x :: st) := fun H locs ls hP hS hG hL9 => lv_lshr C.1.1 C.1.2.1 hdg rfl (kk H locs ls hP hS hG hL9)
theorem zz_iushr (C : zC p s m args meth c D A cc nL own Ts ret) {x : Int32} {y : Int32} (hdg : decode cc pc = .ok (.iushr, 1)) (kk : zV p l e R s m args below meth c D A cells slots Q G (pc + 1) L (.int ((x.toUInt32 >>> (y.toUInt32 &&& Int32.toUInt32 31)).toInt32) :: st)) : zV p l e R s m args below meth c D A cells slots Q G (pc) L (.int y :: .int x :: st) := fun H locs ls hP hS hG hL9 => lv_iushr C.1.1 C.1.2.1 hdg rfl (kk H locs ls hP hS hG hL9)
theorem zz_i2l (C : zC p s m args meth c D A cc nL own Ts ret) {x : Int32} (hdg : decode cc pc = .ok (.i2l, 1)) (kk : zV p l e R s m args below meth c D A cells slots Q G (pc + 1) L (.long x.toInt64 :: st)) : zV p l e R s m args below meth c D A cells slots Q G (pc) L (.int x :: st) := fun H locs ls hP hS hG hL9 => lv_i2l C.1.1 C.1.2.1 hdg rfl (kk H locs ls hP hS hG hL9)
theorem zz_lcmp (C : zC p s m args meth c D A cc nL own Ts ret) {x y : Int64} (hdg : decode cc pc = .ok (.lcmp, 1)) (kk : zV p l e R s m args below meth c D A cells slots Q G (pc + 1) L (.int (lg_cmp x y) :: st)) : zV p l e R s m args below meth c D A cells slots Q G (pc) L (.long y :: .long x :: st) := fun H locs ls hP hS hG hL9 => W.lcmp C.1.1 C.1.2.1 hdg (kk H locs ls hP hS hG hL9)
theorem zz_dup (C : zC p s m args meth c D A cc nL own Ts ret) {v : Value} (hdg : decode cc pc = .ok (.dup, 1)) (hv : v.category = 1) (kk : zV p l e R s m args below meth c D A cells slots Q G (pc + 1) L (v :: v :: st)) : zV p l e R s m args below meth c D A cells slots Q G (pc) L (v :: st) := fun H locs ls hP hS hG hL9 => lv_dup C.1.1 C.1.2.1 hdg hv (kk H locs ls hP hS hG hL9)
theorem zz_pop (C : zC p s m args meth c D A cc nL own Ts ret) {v : Value} (hdg : decode cc pc = .ok (.pop, 1)) (hv : v.category = 1) (kk : zV p l e R s m args below meth c D A cells slots Q G (pc + 1) L st) : zV p l e R s m args below meth c D A cells slots Q G (pc) L (v :: st) := fun H locs ls hP hS hG hL9 => lv_pop C.1.1 C.1.2.1 hdg hv (kk H locs ls hP hS hG hL9)
theorem zz_dup2 (C : zC p s m args meth c D A cc nL own Ts ret) {va vb : Value} (hdg : decode cc pc = .ok (.dup2, 1)) (hva : va.category = 1) (hvb : vb.category = 1) (kk : zV p l e R s m args below meth c D A cells slots Q G (pc + 1) L (va :: vb :: va :: vb :: st)) : zV p l e R s m args below meth c D A cells slots Q G (pc) L (va :: vb :: st) := fun H locs ls hP hS hG hL9 => lv_dup2_11 C.1.1 C.1.2.1 hdg hva hvb (kk H locs ls hP hS hG hL9)
theorem zz_if_eq (C : zC p s m args meth c D A cc nL own Ts ret) {x : Int32} {off : Int} {tgt : Nat} (hdg : decode cc pc = .ok (.ifCond .eq off, 3)) (ht : (pc : Int) + off = (tgt : Int)) (kt : (x = 0) → zV p l e R s m args below meth c D A cells slots Q G (tgt) L st) (kf : ¬ (x = 0) → zV p l e R s m args below meth c D A cells slots Q G (pc + 3) L st) : zV p l e R s m args below meth c D A cells slots Q G (pc) L (.int x :: st) := fun H locs ls hP hS hG hL9 => lv_if_eq C.1.1 C.1.2.1 hdg ht (fun h => kt h H locs ls hP hS hG hL9) (fun h => kf (h) H locs ls hP hS hG hL9)
theorem zz_if_ne (C : zC p s m args meth c D A cc nL own Ts ret) {x : Int32} {off : Int} {tgt : Nat} (hdg : decode cc pc = .ok (.ifCond .ne off, 3)) (ht : (pc : Int) + off = (tgt : Int)) (kt : (x ≠ 0) → zV p l e R s m args below meth c D A cells slots Q G (tgt) L st) (kf : ¬ (x ≠ 0) → zV p l e R s m args below meth c D A cells slots Q G (pc + 3) L st) : zV p l e R s m args below meth c D A cells slots Q G (pc) L (.int x :: st) := fun H locs ls hP hS hG hL9 => lv_if_ne C.1.1 C.1.2.1 hdg ht (fun h => kt h H locs ls hP hS hG hL9) (fun h => kf (fun q => q h) H locs ls hP hS hG hL9)
theorem zz_if_lt (C : zC p s m args meth c D A cc nL own Ts ret) {x : Int32} {off : Int} {tgt : Nat} (hdg : decode cc pc = .ok (.ifCond .lt off, 3)) (ht : (pc : Int) + off = (tgt : Int)) (kt : (x < 0) → zV p l e R s m args below meth c D A cells slots Q G (tgt) L st) (kf : ¬ (x < 0) → zV p l e R s m args below meth c D A cells slots Q G (pc + 3) L st) : zV p l e R s m args below meth c D A cells slots Q G (pc) L (.int x :: st) := fun H locs ls hP hS hG hL9 => lv_if_lt C.1.1 C.1.2.1 hdg ht (fun h => kt h H locs ls hP hS hG hL9) (fun h => kf (h) H locs ls hP hS hG hL9)
theorem zz_if_ge (C : zC p s m args meth c D A cc nL own Ts ret) {x : Int32} {off : Int} {tgt : Nat} (hdg : decode cc pc = .ok (.ifCond .ge off, 3)) (ht : (pc : Int) + off = (tgt : Int)) (kt : (0 ≤ x) → zV p l e R s m args below meth c D A cells slots Q G (tgt) L st) (kf : ¬ (0 ≤ x) → zV p l e R s m args below meth c D A cells slots Q G (pc + 3) L st) : zV p l e R s m args below meth c D A cells slots Q G (pc) L (.int x :: st) := fun H locs ls hP hS hG hL9 => lv_if_ge C.1.1 C.1.2.1 hdg ht (fun h => kt h H locs ls hP hS hG hL9) (fun h => kf (h) H locs ls hP hS hG hL9)
theorem zz_if_gt (C : zC p s m args meth c D A cc nL own Ts ret) {x : Int32} {off : Int} {tgt : Nat} (hdg : decode cc pc = .ok (.ifCond .gt off, 3)) (ht : (pc : Int) + off = (tgt : Int)) (kt : (0 < x) → zV p l e R s m args below meth c D A cells slots Q G (tgt) L st) (kf : ¬ (0 < x) → zV p l e R s m args below meth c D A cells slots Q G (pc + 3) L st) : zV p l e R s m args below meth c D A cells slots Q G (pc) L (.int x :: st) := fun H locs ls hP hS hG hL9 => lv_if_gt C.1.1 C.1.2.1 hdg ht (fun h => kt h H locs ls hP hS hG hL9) (fun h => kf (h) H locs ls hP hS hG hL9)
theorem zz_if_le (C : zC p s m args meth c D A cc nL own Ts ret) {x : Int32} {off : Int} {tgt : Nat} (hdg : decode cc pc = .ok (.ifCond .le off, 3)) (ht : (pc : Int) + off = (tgt : Int)) (kt : (x ≤ 0) → zV p l e R s m args below meth c D A cells slots Q G (tgt) L st) (kf : ¬ (x ≤ 0) → zV p l e R s m args below meth c D A cells slots Q G (pc + 3) L st) : zV p l e R s m args below meth c D A cells slots Q G (pc) L (.int x :: st) := fun H locs ls hP hS hG hL9 => lv_if_le C.1.1 C.1.2.1 hdg ht (fun h => kt h H locs ls hP hS hG hL9) (fun h => kf (h) H locs ls hP hS hG hL9)
theorem zz_icmp_eq (C : zC p s m args meth c D A cc nL own Ts ret) {x y : Int32} {off : Int} {tgt : Nat} (hdg : decode cc pc = .ok (.if_icmp .eq off, 3)) (ht : (pc : Int) + off = (tgt : Int)) (kt : (x = y) → zV p l e R s m args below meth c D A cells slots Q G (tgt) L st) (kf : ¬ (x = y) → zV p l e R s m args below meth c D A cells slots Q G (pc + 3) L st) : zV p l e R s m args below meth c D A cells slots Q G (pc) L (.int y :: .int x :: st) := fun H locs ls hP hS hG hL9 => lv_icmp_eq C.1.1 C.1.2.1 hdg ht (fun h => kt h H locs ls hP hS hG hL9) (fun h => kf (h) H locs ls hP hS hG hL9)
theorem zz_icmp_ne (C : zC p s m args meth c D A cc nL own Ts ret) {x y : Int32} {off : Int} {tgt : Nat} (hdg : decode cc pc = .ok (.if_icmp .ne off, 3)) (ht : (pc : Int) + off = (tgt : Int)) (kt : (x ≠ y) → zV p l e R s m args below meth c D A cells slots Q G (tgt) L st) (kf : ¬ (x ≠ y) → zV p l e R s m args below meth c D A cells slots Q G (pc + 3) L st) : zV p l e R s m args below meth c D A cells slots Q G (pc) L (.int y :: .int x :: st) := fun H locs ls hP hS hG hL9 => lv_icmp_ne C.1.1 C.1.2.1 hdg ht (fun h => kt h H locs ls hP hS hG hL9) (fun h => kf (fun q => q h) H locs ls hP hS hG hL9)
theorem zz_icmp_lt (C : zC p s m args meth c D A cc nL own Ts ret) {x y : Int32} {off : Int} {tgt : Nat} (hdg : decode cc pc = .ok (.if_icmp .lt off, 3)) (ht : (pc : Int) + off = (tgt : Int)) (kt : (x < y) → zV p l e R s m args below meth c D A cells slots Q G (tgt) L st) (kf : ¬ (x < y) → zV p l e R s m args below meth c D A cells slots Q G (pc + 3) L st) : zV p l e R s m args below meth c D A cells slots Q G (pc) L (.int y :: .int x :: st) := fun H locs ls hP hS hG hL9 => lv_icmp_lt C.1.1 C.1.2.1 hdg ht (fun h => kt h H locs ls hP hS hG hL9) (fun h => kf (h) H locs ls hP hS hG hL9)
theorem zz_icmp_ge (C : zC p s m args meth c D A cc nL own Ts ret) {x y : Int32} {off : Int} {tgt : Nat} (hdg : decode cc pc = .ok (.if_icmp .ge off, 3)) (ht : (pc : Int) + off = (tgt : Int)) (kt : (y ≤ x) → zV p l e R s m args below meth c D A cells slots Q G (tgt) L st) (kf : ¬ (y ≤ x) → zV p l e R s m args below meth c D A cells slots Q G (pc + 3) L st) : zV p l e R s m args below meth c D A cells slots Q G (pc) L (.int y :: .int x :: st) := fun H locs ls hP hS hG hL9 => lv_icmp_ge C.1.1 C.1.2.1 hdg ht (fun h => kt h H locs ls hP hS hG hL9) (fun h => kf (h) H locs ls hP hS hG hL9)
theorem zz_icmp_gt (C : zC p s m args meth c D A cc nL own Ts ret) {x y : Int32} {off : Int} {tgt : Nat} (hdg : decode cc pc = .ok (.if_icmp .gt off, 3)) (ht : (pc : Int) + off = (tgt : Int)) (kt : (y < x) → zV p l e R s m args below meth c D A cells slots Q G (tgt) L st) (kf : ¬ (y < x) → zV p l e R s m args below meth c D A cells slots Q G (pc + 3) L st) : zV p l e R s m args below meth c D A cells slots Q G (pc) L (.int y :: .int x :: st) := fun H locs ls hP hS hG hL9 => lv_icmp_gt C.1.1 C.1.2.1 hdg ht (fun h => kt h H locs ls hP hS hG hL9) (fun h => kf (h) H locs ls hP hS hG hL9)
theorem zz_icmp_le (C : zC p s m args meth c D A cc nL own Ts ret) {x y : Int32} {off : Int} {tgt : Nat} (hdg : decode cc pc = .ok (.if_icmp .le off, 3)) (ht : (pc : Int) + off = (tgt : Int)) (kt : (x ≤ y) → zV p l e R s m args below meth c D A cells slots Q G (tgt) L st) (kf : ¬ (x ≤ y) → zV p l e R s m args below meth c D A cells slots Q G (pc + 3) L st) : zV p l e R s m args below meth c D A cells slots Q G (pc) L (.int y :: .int x :: st) := fun H locs ls hP hS hG hL9 => lv_icmp_le C.1.1 C.1.2.1 hdg ht (fun h => kt h H locs ls hP hS hG hL9) (fun h => kf (h) H locs ls hP hS hG hL9)
theorem zz_acmp_eq (C : zC p s m args meth c D A cc nL own Ts ret) {x y : Nat} {off : Int} {tgt : Nat} (hdg : decode cc pc = .ok (.if_acmp .eq off, 3)) (ht : (pc : Int) + off = (tgt : Int)) (kt : (x = y) → zV p l e R s m args below meth c D A cells slots Q G (tgt) L st) (kf : ¬ (x = y) → zV p l e R s m args below meth c D A cells slots Q G (pc + 3) L st) : zV p l e R s m args below meth c D A cells slots Q G (pc) L (.ref y :: .ref x :: st) := fun H locs ls hP hS hG hL9 => lv_acmp_eq (rx := some x) (ry := some y) C.1.1 C.1.2.1 hdg ht (fun h => kt (by simpa using h) H locs ls hP hS hG hL9) (fun h => kf (by simpa using h) H locs ls hP hS hG hL9)
theorem zz_acmpN_eq (C : zC p s m args meth c D A cc nL own Ts ret) {y : Nat} {off : Int} {tgt : Nat} (hdg : decode cc pc = .ok (.if_acmp .eq off, 3)) (ht : (pc : Int) + off = (tgt : Int)) (kk : zV p l e R s m args below meth c D A cells slots Q G (pc + 3) L st) : zV p l e R s m args below meth c D A cells slots Q G (pc) L (.ref y :: .null :: st) := fun H locs ls hP hS hG hL9 => lv_acmp_eq (rx := none) (ry := some y) C.1.1 C.1.2.1 hdg ht (fun h => absurd h (by simp)) (fun h => kk H locs ls hP hS hG hL9)
theorem zz_acmp_ne (C : zC p s m args meth c D A cc nL own Ts ret) {x y : Nat} {off : Int} {tgt : Nat} (hdg : decode cc pc = .ok (.if_acmp .ne off, 3)) (ht : (pc : Int) + off = (tgt : Int)) (kt : (x ≠ y) → zV p l e R s m args below meth c D A cells slots Q G (tgt) L st) (kf : ¬ (x ≠ y) → zV p l e R s m args below meth c D A cells slots Q G (pc + 3) L st) : zV p l e R s m args below meth c D A cells slots Q G (pc) L (.ref y :: .ref x :: st) := fun H locs ls hP hS hG hL9 => lv_acmp_ne (rx := some x) (ry := some y) C.1.1 C.1.2.1 hdg ht (fun h => kt (by simpa using h) H locs ls hP hS hG hL9) (fun h => kf (by simpa using h) H locs ls hP hS hG hL9)
theorem zz_acmpN_ne (C : zC p s m args meth c D A cc nL own Ts ret) {y : Nat} {off : Int} {tgt : Nat} (hdg : decode cc pc = .ok (.if_acmp .ne off, 3)) (ht : (pc : Int) + off = (tgt : Int)) (kk : zV p l e R s m args below meth c D A cells slots Q G (tgt) L st) : zV p l e R s m args below meth c D A cells slots Q G (pc) L (.ref y :: .null :: st) := fun H locs ls hP hS hG hL9 => lv_acmp_ne (rx := none) (ry := some y) C.1.1 C.1.2.1 hdg ht (fun h => kk H locs ls hP hS hG hL9) (fun h => absurd h (by simp))
theorem zz_goto (C : zC p s m args meth c D A cc nL own Ts ret) {off : Int} {tgt : Nat} (hdg : decode cc pc = .ok (.goto off, 3)) (ht : (pc : Int) + off = (tgt : Int)) (kk : zV p l e R s m args below meth c D A cells slots Q G (tgt) L st) : zV p l e R s m args below meth c D A cells slots Q G (pc) L st := fun H locs ls hP hS hG hL9 => lv_goto C.1.1 C.1.2.1 hdg ht (kk H locs ls hP hS hG hL9)
theorem zz_ifnull (C : zC p s m args meth c D A cc nL own Ts ret) {x : Nat} {off : Int} (hdg : decode cc pc = .ok (.ifnull off, 3)) (kk : zV p l e R s m args below meth c D A cells slots Q G (pc + 3) L st) : zV p l e R s m args below meth c D A cells slots Q G (pc) L (.ref x :: st) := fun H locs ls hP hS hG hL9 => lv_ifnull C.1.1 C.1.2.1 hdg (kk H locs ls hP hS hG hL9)
theorem zz_ifnullN (C : zC p s m args meth c D A cc nL own Ts ret) {off : Int} {tgt : Nat} (hdg : decode cc pc = .ok (.ifnull off, 3)) (ht : (pc : Int) + off = (tgt : Int)) (kk : zV p l e R s m args below meth c D A cells slots Q G (tgt) L st) : zV p l e R s m args below meth c D A cells slots Q G (pc) L (.null :: st) := fun H locs ls hP hS hG hL9 => lv_ifnullN C.1.1 C.1.2.1 hdg ht (kk H locs ls hP hS hG hL9)
theorem zz_ifnonnull (C : zC p s m args meth c D A cc nL own Ts ret) {x : Nat} {off : Int} {tgt : Nat} (hdg : decode cc pc = .ok (.ifnonnull off, 3)) (ht : (pc : Int) + off = (tgt : Int)) (kk : zV p l e R s m args below meth c D A cells slots Q G (tgt) L st) : zV p l e R s m args below meth c D A cells slots Q G (pc) L (.ref x :: st) := fun H locs ls hP hS hG hL9 => lv_ifnonnull C.1.1 C.1.2.1 hdg ht (kk H locs ls hP hS hG hL9)
theorem zz_ifnonnullN (C : zC p s m args meth c D A cc nL own Ts ret) {off : Int} (hdg : decode cc pc = .ok (.ifnonnull off, 3)) (kk : zV p l e R s m args below meth c D A cells slots Q G (pc + 3) L st) : zV p l e R s m args below meth c D A cells slots Q G (pc) L (.null :: st) := fun H locs ls hP hS hG hL9 => lv_ifnonnullN C.1.1 C.1.2.1 hdg (kk H locs ls hP hS hG hL9)
theorem zz_get (C : zC p s m args meth c D A cc nL own Ts ret) {ref Cn : String} {T : u_T} {N ci index : Nat} (hin : ∀ w ∈ u_ws Cn T N, w ∈ Ts) {a t : Nat} {fs : List Value} (hc : vwCl[ci]? = some (Cn, T, N)) (k : Nat) (hk : k < N) (hlink : Cond.fieldLink own index ref (T k).2.1 (T k).2.2.1 ∈ Ts) (hsame : (T k).1 = ref) (hdg : decode cc pc = .ok (.getfield index, 3)) (he : G a = some (t, .inr (ci, fs))) {v : Value} (hv : fs[k]? = some v)
    (kk : zV p l e R s m args below meth c D A cells slots Q G (pc + 3) L (v :: st)) : zV p l e R s m args below meth c D A cells slots Q G (pc) L (.ref a :: st) := fun H locs ls hP hS hG hL9 =>
  va_get (ws := [(a, .inr (ci, fs))]) C.1.1 C.1.2.1 (fun w h => C.ts h) hin C.1.2.2.2.1 C.2.1 (fun j q hj => by
    match j, hj with
    | 0, hj => cases hj; exact hP a t _ he
    | j + 1, hj => simp at hj) 0 rfl hc k hk (C.ts hlink) (fun x hx => by rw [← hsame]; exact hx) hv hdg (kk H locs ls hP hS hG hL9)
theorem zS_put {H0 H H1 : Heap} {locs : List Loc} {A : Nat → Prop} {a i : Nat} (h : va_S A H0 H locs) (ha : A a) (z : H1.size = H.size) (oq : ∀ q : Nat, q ≠ a → H1[q]? = H[q]?) : va_S A H0 H1 (locs ++ [⟨a, i⟩]) := h.put z oq ha
theorem zG_upd {G : zG} {A : Nat → Prop} {a : Nat} {x0 y0 : Nat × zE} (hG : ∀ (a : Nat) (x : Nat × zE), G a = some x → A a) (he : G a = some x0) : ∀ (q : Nat) (x : Nat × zE), zU G a y0 q = some x → A q := by
  intro q x hq
  by_cases hqa : q = a
  · subst hqa; exact hG q _ he
  · rw [zU_ne hqa] at hq; exact hG q x hq
theorem zz_put (C : zC p s m args meth c D A cc nL own Ts ret) {ref Cn : String} {T : u_T} {N ci index : Nat} (hin : ∀ w ∈ u_ws Cn T N, w ∈ Ts) (ty0 : Nat → FieldType) (hty : ∀ k, k < N → parseFieldDescriptor (T k).2.2.1 = some (ty0 k)) (hnm : ∀ a, a < N → ∀ b, b < N → a ≠ b → (T a).2.1 ≠ (T b).2.1) {a t : Nat} {fs : List Value} (hc : vwCl[ci]? = some (Cn, T, N)) (k : Nat) (hk : k < N) (hlink : Cond.fieldLink own index ref (T k).2.1 (T k).2.2.1 ∈ Ts) (hsame : (T k).1 = ref) (hfin : (T k).2.2.2 = false) {v : Value} (hdg : decode cc pc = .ok (.putfield index, 3)) (he : G a = some (t, .inr (ci, fs))) (hn : narrow (ty0 k) v = v) (hfit : fits (ty0 k) v = true) (hl : k < fs.length)
    (kk : zV p l e R s m args below meth c D A cells slots Q (zU G a (t, .inr (ci, fs.set k v))) (pc + 3) L st) : zV p l e R s m args below meth c D A cells slots Q G (pc) L (v :: .ref a :: st) := by
  intro H locs ls hP hS0 hG hL9
  have hK := C.2.1
  have hts : ∀ w ∈ Ts, w.before args s = true := fun w h => C.ts h
  have hap := va_apart (own := own) hts hin ty0 hty hnm hK hc
  obtain ⟨r, h1, cell, q1, q2, q3, q4⟩ := hP a t _ he
  have hr : r = (Cn, T, N) := Option.some.inj (h1.symm.trans hc)
  subst hr
  obtain ⟨hS, hfc, kC, hkC, hkind⟩ := hK.1 ci _ hc
  obtain ⟨cf, kf, fi, f, hi, hsl⟩ := hS k hk
  have hlay := hts _ (hin _ (u_in_lay hk))
  unfold u_lay at hlay
  rw [if_neg (by rw [hfin]; decide)] at hlay
  have hst := (u_facts hfc hkC (u_lays hts hin hk) hi).1
  have h6 := u_store hfc hkC hkind hlay hi (hty k hk) hn hfit
  refine W.putK C.1.1 C.1.2.1 (f := f) ⟨C.1.2.2.2.1, C.ts hlink, ⟨_, _, _, by rw [← hsame]; exact hi⟩, hst⟩ (by rw [q2]; exact h6) q1 q3 (by rw [hsl]; exact k2_hasslot (q4 k hk)) rfl rfl hdg fun H' e1 e2 e3 => ?_
  rw [hsl] at e1 ⊢
  exact kk H' _ ls (hP.upd ⟨_, hc, t_OB.to (V := updV (vp_V fs) k v) ⟨_, e1, q2, q3, t_set q4 hap hk v⟩ (fun j _ => vp_updV_set hl v j)⟩ e3) (zS_put hS0 (hG a _ he) e2 e3) (zG_upd hG he) hL9
theorem zz_putF (C : zC p s m args meth c D A cc nL own Ts ret) {ref Cn : String} {T : u_T} {N ci index : Nat} (hin : ∀ w ∈ u_ws Cn T N, w ∈ Ts) (ty0 : Nat → FieldType) (hty : ∀ k, k < N → parseFieldDescriptor (T k).2.2.1 = some (ty0 k)) (hnm : ∀ a, a < N → ∀ b, b < N → a ≠ b → (T a).2.1 ≠ (T b).2.1) {a t : Nat} {fs : List Value} (hc : vwCl[ci]? = some (Cn, T, N)) (k : Nat) (hk : k < N) (hlink : Cond.fieldLink own index ref (T k).2.1 (T k).2.2.1 ∈ Ts) (hsame : (T k).1 = ref) (hfin : (T k).2.2.2 = true) (hin2 : meth.name = "<init>") (hdecl : (T k).1 = own) {v : Value} (hdg : decode cc pc = .ok (.putfield index, 3)) (he : G a = some (t, .inr (ci, fs))) (hn : narrow (ty0 k) v = v) (hfit : fits (ty0 k) v = true) (hl : k < fs.length)
    (kk : zV p l e R s m args below meth c D A cells slots Q (zU G a (t, .inr (ci, fs.set k v))) (pc + 3) L st) : zV p l e R s m args below meth c D A cells slots Q G (pc) L (v :: .ref a :: st) := by
  intro H locs ls hP hS0 hG hL9
  have hK := C.2.1
  have hts : ∀ w ∈ Ts, w.before args s = true := fun w h => C.ts h
  have hap := va_apart (own := own) hts hin ty0 hty hnm hK hc
  obtain ⟨r, h1, cell, q1, q2, q3, q4⟩ := hP a t _ he
  have hr : r = (Cn, T, N) := Option.some.inj (h1.symm.trans hc)
  subst hr
  obtain ⟨hS, hfc, kC, hkC, hkind⟩ := hK.1 ci _ hc
  obtain ⟨cf, kf, fi, f, hi, hsl⟩ := hS k hk
  have hlay := hts _ (hin _ (u_in_lay hk))
  unfold u_lay at hlay
  rw [if_pos hfin] at hlay
  have hst := (u_facts hfc hkC (u_lays hts hin hk) hi).1
  have hcf : m.cls = cf := by
    obtain ⟨_, _, c', _, _, _, -, -, hf', -, -, -, hown2, -⟩ := Cond.laysFinal_spec hlay
    have e1 : c' = cf := by have := hi.symm.trans hf'; simp at this; exact this.1.symm
    rw [hdecl] at hown2
    rw [← e1]; exact Option.some.inj (C.1.2.2.2.1.symm.trans hown2)
  have h6 := u_fits hfc hkC hkind (Or.inr hlay) hi (hty k hk) hn hfit
  refine W.putFinK C.1.1 C.1.2.1 C.1.2.2.2.1 (C.ts hlink) (by rw [← hsame]; exact hi) hst hcf hin2 (by rw [q2]; exact h6) q1 q3 (by rw [hsl]; exact k2_hasslot (q4 k hk)) rfl rfl hdg fun H' e1 e2 e3 => ?_
  rw [hsl] at e1 ⊢
  exact kk H' _ ls (hP.upd ⟨_, hc, t_OB.to (V := updV (vp_V fs) k v) ⟨_, e1, q2, q3, t_set q4 hap hk v⟩ (fun j _ => vp_updV_set hl v j)⟩ e3) (zS_put hS0 (hG a _ he) e2 e3) (zG_upd hG he) hL9
theorem zz_iald (C : zC p s m args meth c D A cc nL own Ts ret) {a t n : Nat} {f : Nat → Int32} {i : Int32} (hdg : decode cc pc = .ok (.iaload, 1)) (he : G a = some (t, .inl (.int, n, .inl f))) (hin : vp_in i n)
    (kk : zV p l e R s m args below meth c D A cells slots Q G (pc + 1) L (.int (f i.toNatClampNeg) :: st)) : zV p l e R s m args below meth c D A cells slots Q G (pc) L (.int i :: .ref a :: st) := by
  intro H locs ls hP hS hG hL9
  obtain ⟨cA, h1, h2, h3⟩ := hP a t _ he
  have hlt : i.toNatClampNeg < n := Nat.not_le.mp fun q => hin (Or.inr q)
  exact W.iald (v := .int (f i.toNatClampNeg)) C.1.1 C.1.2.1 h1 (h2 n (fun j => .int (f j))) (fun q => by cases q) (by show ¬ (i < 0 ∨ (arrV _ _ _).slots.size ≤ _); rw [arrV_size]; exact hin) (by show (arrV _ _ _).slots[_]? = _; rw [arrV_read _ _ hlt]) rfl rfl hdg (kk H locs ls hP hS hG hL9)
theorem zz_zald (C : zC p s m args meth c D A cc nL own Ts ret) {a t n : Nat} {f : Nat → Int32} {i : Int32} (hdg : decode cc pc = .ok (.baload, 1)) (he : G a = some (t, .inl (.boolean, n, .inl f))) (hin : vp_in i n)
    (kk : zV p l e R s m args below meth c D A cells slots Q G (pc + 1) L (.int (f i.toNatClampNeg) :: st)) : zV p l e R s m args below meth c D A cells slots Q G (pc) L (.int i :: .ref a :: st) := by
  intro H locs ls hP hS hG hL9
  obtain ⟨cA, h1, h2, h3⟩ := hP a t _ he
  have hlt : i.toNatClampNeg < n := Nat.not_le.mp fun q => hin (Or.inr q)
  exact W.zald (v := .int (f i.toNatClampNeg)) C.1.1 C.1.2.1 h1 (h2 n (fun j => .int (f j))) (fun q => by cases q) (by show ¬ (i < 0 ∨ (arrV _ _ _).slots.size ≤ _); rw [arrV_size]; exact hin) (by show (arrV _ _ _).slots[_]? = _; rw [arrV_read _ _ hlt]) rfl rfl hdg (kk H locs ls hP hS hG hL9)
theorem zz_lald (C : zC p s m args meth c D A cc nL own Ts ret) {a t n : Nat} {f : Nat → Int64} {i : Int32} (hdg : decode cc pc = .ok (.laload, 1)) (he : G a = some (t, .inl (.long, n, .inr (.inl f)))) (hin : vp_in i n)
    (kk : zV p l e R s m args below meth c D A cells slots Q G (pc + 1) L (.long (f i.toNatClampNeg) :: st)) : zV p l e R s m args below meth c D A cells slots Q G (pc) L (.int i :: .ref a :: st) := by
  intro H locs ls hP hS hG hL9
  obtain ⟨cA, h1, h2, h3⟩ := hP a t _ he
  have hlt : i.toNatClampNeg < n := Nat.not_le.mp fun q => hin (Or.inr q)
  exact W.lald (v := .long (f i.toNatClampNeg)) C.1.1 C.1.2.1 h1 (h2 n (fun j => .long (f j))) (fun q => by cases q) (by show ¬ (i < 0 ∨ (arrV _ _ _).slots.size ≤ _); rw [arrV_size]; exact hin) (by show (arrV _ _ _).slots[_]? = _; rw [arrV_read _ _ hlt]) rfl rfl hdg (kk H locs ls hP hS hG hL9)
theorem zz_aald (C : zC p s m args meth c D A cc nL own Ts ret) {a t n : Nat} {Cn : String} {f : Nat → Option Nat} {i : Int32} (hdg : decode cc pc = .ok (.aaload, 1)) (he : G a = some (t, .inl (.object Cn, n, .inr (.inr (.inr (.inr f)))))) (hin : vp_in i n)
    (kn : f i.toNatClampNeg = none → zV p l e R s m args below meth c D A cells slots Q G (pc + 1) L (.null :: st)) (kk : ∀ b : Nat, f i.toNatClampNeg = some b → zV p l e R s m args below meth c D A cells slots Q G (pc + 1) L (.ref b :: st)) : zV p l e R s m args below meth c D A cells slots Q G (pc) L (.int i :: .ref a :: st) := by
  intro H locs ls hP hS hG hL9
  obtain ⟨cA, h1, h2, h3⟩ := hP a t _ he
  have hlt : i.toNatClampNeg < n := Nat.not_le.mp fun q => hin (Or.inr q)
  refine W.aald (v := va_rf (f i.toNatClampNeg)) (ty := .object Cn) C.1.1 C.1.2.1 h1 (h2 n (fun j => va_rf (f j))) rfl (fun q => by cases q) (by show ¬ (i < 0 ∨ (arrV _ _ _).slots.size ≤ _); rw [arrV_size]; exact hin) (by show (arrV _ _ _).slots[_]? = _; rw [arrV_read _ _ hlt]) rfl rfl hdg ?_
  cases hf : f i.toNatClampNeg with
  | none => exact kn hf H locs ls hP hS hG hL9
  | some b => exact kk b hf H locs ls hP hS hG hL9
theorem zz_iast (C : zC p s m args meth c D A cc nL own Ts ret) {a t n : Nat} {f : Nat → Int32} {i : Int32} {x : Int32} (hdg : decode cc pc = .ok (.iastore, 1)) (he : G a = some (t, .inl (.int, n, .inl f))) (hin : vp_in i n)
    (kk : zV p l e R s m args below meth c D A cells slots Q (zU G a (t, .inl (.int, n, .inl (upd f i.toNatClampNeg x)))) (pc + 1) L st) : zV p l e R s m args below meth c D A cells slots Q G (pc) L (.int x :: .int i :: .ref a :: st) := by
  intro H locs ls hP hS hG hL9
  obtain ⟨cA, h1, h2, h3⟩ := hP a t _ he
  refine W.iast C.1.1 C.1.2.1 h1 (h2 n _) (fun q => by cases q) (by show ¬ (i < 0 ∨ (arrV _ _ _).slots.size ≤ _); rw [arrV_size]; exact hin) rfl rfl hdg fun H1 e1 z oq => ?_
  refine kk H1 _ ls (hP.upd ⟨cA, ?_, h2, h3⟩ oq) (zS_put hS (hG a _ he) z oq) (zG_upd hG he) hL9
  rw [e1]
  rw [vp_cell_i, vp_cell_i, arrV_store]
  congr 2
  funext q
  by_cases hq : q = i.toNatClampNeg
  · subst hq
    simp [updV, upd]
    
  · simp [updV, upd, hq]
theorem zz_zast (C : zC p s m args meth c D A cc nL own Ts ret) {a t n : Nat} {f : Nat → Int32} {i : Int32} {x : Int32} (hdg : decode cc pc = .ok (.bastore, 1)) (he : G a = some (t, .inl (.boolean, n, .inl f))) (hin : vp_in i n)
    (kk : zV p l e R s m args below meth c D A cells slots Q (zU G a (t, .inl (.boolean, n, .inl (upd f i.toNatClampNeg (vp_nar .boolean x))))) (pc + 1) L st) : zV p l e R s m args below meth c D A cells slots Q G (pc) L (.int x :: .int i :: .ref a :: st) := by
  intro H locs ls hP hS hG hL9
  obtain ⟨cA, h1, h2, h3⟩ := hP a t _ he
  refine W.zast C.1.1 C.1.2.1 h1 (h2 n _) (fun q => by cases q) (by show ¬ (i < 0 ∨ (arrV _ _ _).slots.size ≤ _); rw [arrV_size]; exact hin) rfl rfl hdg fun H1 e1 z oq => ?_
  refine kk H1 _ ls (hP.upd ⟨cA, ?_, h2, h3⟩ oq) (zS_put hS (hG a _ he) z oq) (zG_upd hG he) hL9
  rw [e1]
  rw [vp_cell_i, vp_cell_i, arrV_store]
  congr 2
  funext q
  by_cases hq : q = i.toNatClampNeg
  · subst hq
    simp [updV, upd, vp_nar]
    try rfl
  · simp [updV, upd, vp_nar, hq]
theorem zz_last (C : zC p s m args meth c D A cc nL own Ts ret) {a t n : Nat} {f : Nat → Int64} {i : Int32} {x : Int64} (hdg : decode cc pc = .ok (.lastore, 1)) (he : G a = some (t, .inl (.long, n, .inr (.inl f)))) (hin : vp_in i n)
    (kk : zV p l e R s m args below meth c D A cells slots Q (zU G a (t, .inl (.long, n, .inr (.inl (vp_updL f i.toNatClampNeg x))))) (pc + 1) L st) : zV p l e R s m args below meth c D A cells slots Q G (pc) L (.long x :: .int i :: .ref a :: st) := by
  intro H locs ls hP hS hG hL9
  obtain ⟨cA, h1, h2, h3⟩ := hP a t _ he
  refine W.last C.1.1 C.1.2.1 h1 (h2 n _) (fun q => by cases q) (by show ¬ (i < 0 ∨ (arrV _ _ _).slots.size ≤ _); rw [arrV_size]; exact hin) rfl rfl hdg fun H1 e1 z oq => ?_
  refine kk H1 _ ls (hP.upd ⟨cA, ?_, h2, h3⟩ oq) (zS_put hS (hG a _ he) z oq) (zG_upd hG he) hL9
  rw [e1]
  rw [vp_cell_l, vp_cell_l, arrV_store]
  congr 2
  funext q
  by_cases hq : q = i.toNatClampNeg
  · subst hq
    simp [updV, vp_updL]
    
  · simp [updV, vp_updL, hq]
theorem zz_aast (C : zC p s m args meth c D A cc nL own Ts ret) {a t n : Nat} {f : Nat → Option Nat} {i : Int32} {v tv ci : Nat} {r : vw_C} {vs : List Value} (hdg : decode cc pc = .ok (.aastore, 1)) (he : G a = some (t, .inl (.object r.1, n, .inr (.inr (.inr (.inr f)))))) (hv : G v = some (tv, .inr (ci, vs))) (hc : vwCl[ci]? = some r) (hin : vp_in i n)
    (kk : zV p l e R s m args below meth c D A cells slots Q (zU G a (t, .inl (.object r.1, n, .inr (.inr (.inr (.inr (va_up f i.toNatClampNeg (some v)))))))) (pc + 1) L st) : zV p l e R s m args below meth c D A cells slots Q G (pc) L (.ref v :: .int i :: .ref a :: st) := by
  intro H locs ls hP hS hG hL9
  obtain ⟨cA, ha1, ha2, ha3⟩ := hP a t _ he
  have hlt : i.toNatClampNeg < n := Nat.not_le.mp fun q => hin (Or.inr q)
  have h0 : ¬ i < 0 := fun q => hin (Or.inl q)
  obtain ⟨r', hr', cellV, g1, g2, g3, -⟩ := hP v tv _ hv
  have hcls := (C.2.1.1 ci r hc).2
  have ha4 := ha3
  obtain ⟨kA, comp, k1, k2, k3, -⟩ := ha3
  have hcomp : comp = D.1 ci := Option.some.inj (k3.symm.trans hcls.1)
  subst hcomp
  obtain ⟨kC, hkC, -⟩ := hcls.2
  refine W.aast C.1.1 C.1.2.1 ha1 (fun q h => by cases h) (fun h => by cases h) k1 k2 rfl hkC ⟨h0, by show _ < (arrV _ _ _).slots.size; rw [arrV_size]; exact hlt⟩ g1 (fun q h => by rw [g3] at h; cases h) (by rw [g2]; exact hkC) (by rw [g2]; exact va_assign hcls) rfl rfl hdg fun H1 e1 z oq => ?_
  refine kk H1 _ ls (hP.upd ⟨cA, ?_, ha2, ha4⟩ oq) (zS_put hS (hG a _ he) z oq) (zG_upd hG he) hL9
  rw [e1]
  rw [vp_cell_q, vp_cell_q, arrV_store]
  congr 2
  funext q
  by_cases hq : q = i.toNatClampNeg
  · subst hq
    simp [updV, va_up, va_rf]
  · simp [updV, va_up, hq]
theorem zz_aastN (C : zC p s m args meth c D A cc nL own Ts ret) {a t n : Nat} {Cn : String} {f : Nat → Option Nat} {i : Int32} (hdg : decode cc pc = .ok (.aastore, 1)) (he : G a = some (t, .inl (.object Cn, n, .inr (.inr (.inr (.inr f)))))) (hin : vp_in i n)
    (kk : zV p l e R s m args below meth c D A cells slots Q (zU G a (t, .inl (.object Cn, n, .inr (.inr (.inr (.inr (va_up f i.toNatClampNeg none))))))) (pc + 1) L st) : zV p l e R s m args below meth c D A cells slots Q G (pc) L (.null :: .int i :: .ref a :: st) := by
  intro H locs ls hP hS hG hL9
  obtain ⟨cA, ha1, ha2, ha3⟩ := hP a t _ he
  refine va_WaastN (C := Cn) C.1.1 C.1.2.1 ha1 (ha2 n (fun j => va_rf (f j))) (fun h => by cases h) (by show ¬ (i < 0 ∨ (arrV _ _ _).slots.size ≤ _); rw [arrV_size]; exact hin) rfl rfl hdg fun H1 e1 z oq => ?_
  refine kk H1 _ ls (hP.upd ⟨cA, ?_, ha2, ha3⟩ oq) (zS_put hS (hG a _ he) z oq) (zG_upd hG he) hL9
  rw [e1]
  rw [vp_cell_q, vp_cell_q, arrV_store]
  congr 2
  funext q
  by_cases hq : q = i.toNatClampNeg
  · subst hq
    simp [updV, va_up, va_rf]
  · simp [updV, va_up, hq]
theorem zz_alen (C : zC p s m args meth c D A cc nL own Ts ret) {a t : Nat} {ty : FieldType} {x : vp_A} (hdg : decode cc pc = .ok (.arraylength, 1)) (he : G a = some (t, .inl (ty, x)))
    (kk : zV p l e R s m args below meth c D A cells slots Q G (pc + 1) L (.int (Int32.ofNat x.1) :: st)) : zV p l e R s m args below meth c D A cells slots Q G (pc) L (.ref a :: st) := by
  intro H locs ls hP hS hG hL9
  obtain ⟨cA, h1, h2, h3⟩ := hP a t _ he
  have kk := kk H locs ls hP hS hG hL9
  obtain ⟨n, f | f | f | f | f⟩ := x
  · exact W.alen (n := Int32.ofNat n) C.1.1 C.1.2.1 h1 (h2 n (fun j => .int (f j))) (by rw [vp_cell_i, arrV_size] <;> rfl) rfl rfl hdg kk
  · exact W.alen (n := Int32.ofNat n) C.1.1 C.1.2.1 h1 (h2 n (fun j => .long (f j))) (by rw [vp_cell_l, arrV_size] <;> rfl) rfl rfl hdg kk
  · exact W.alen (n := Int32.ofNat n) C.1.1 C.1.2.1 h1 (h2 n (fun j => .float (f j))) (by rw [vp_cell_f, arrV_size] <;> rfl) rfl rfl hdg kk
  · exact W.alen (n := Int32.ofNat n) C.1.1 C.1.2.1 h1 (h2 n (fun j => .double (f j))) (by rw [vp_cell_d, arrV_size] <;> rfl) rfl rfl hdg kk
  · exact W.alen (n := Int32.ofNat n) C.1.1 C.1.2.1 h1 (h2 n (fun j => va_rf (f j))) (by rw [vp_cell_q, arrV_size] <;> rfl) rfl rfl hdg kk
theorem zS_new {H0 H H1 : Heap} {locs : List Loc} {A : Nat → Prop} (hS : va_S A H0 H locs) (z : H1.size = H.size + 1) (oq : ∀ q : Nat, q < H.size → H1[q]? = H[q]?) : va_S A H0 H1 locs := ⟨Nat.le_trans hS.1 (by omega), fun x h1 h2 => (oq x (Nat.lt_of_lt_of_le h1 hS.1)).trans (hS.2.1 x h1 h2), hS.2.2⟩
theorem zG_new {G : zG} {A : Nat → Prop} {a : Nat} {y0 : Nat × zE} (hG : ∀ (a : Nat) (x : Nat × zE), G a = some x → A a) (ha : A a) : ∀ (q : Nat) (x : Nat × zE), zU G a y0 q = some x → A q := by
  intro q x hq
  by_cases hqa : q = a
  · subst hqa; exact ha
  · rw [zU_ne hqa] at hq; exact hG q x hq
theorem zP.free {G : zG} {H : Heap} (h : zP D s G H) {a : Nat} (ha : H.size ≤ a) : G a = none := by
  cases hg : G a with
  | none => rfl
  | some x => exact absurd (h a x.1 x.2 hg).lt (by omega)
theorem zz_newarr (C : zC p s m args meth c D A cc nL own Ts ret) (tg : Nat) {atype : ArrayType} {ty : FieldType} {n : Int32} {N : Nat} {x0 : vp_A} (hw : Cond.arrayClass ty ∈ Ts) (hty : newarray.typeOf atype = ty) (hra : ∀ cA : ClassId, s.vm.findClass ("[" ++ ty.toString) = some cA → va_RA s cA ty) (hx : ∀ cA : ClassId, vp_cell cA x0 = arrV cA N (fun _ => defaultValue ty)) (hn : ¬ n < 0) (hN : n.toNatClampNeg = N) (hbytes : N * componentBytes ty ≤ 536870912) (hcells : cells + 1 ≤ R.cells) (hslots : slots + N ≤ R.slots) (hdg : decode cc pc = .ok (.newarray atype, 2))
    (kk : ∀ a : Nat, G a = none → s.heap.size ≤ a → zV p l e R s m args below meth c D A (cells + 1) (slots + N) Q (zU G a (tg, .inl (ty, x0))) (pc + 2) L (.ref a :: st)) : zV p l e R s m args below meth c D A cells slots Q G (pc) L (.int n :: st) := by
  intro H locs ls hP hS hG hL9
  subst hty
  refine va_newaK C.1.1 C.1.2.1 (C.ts hw) rfl hdg rfl hn hN hbytes hcells hslots rfl fun H1 cA e1 z1 o1 hAr hNm => ?_
  exact kk H.size (hP.free (Nat.le_refl _)) hS.1 H1 locs ls (hP.new rfl ⟨cA, by rw [e1, hx], hAr, hra cA hNm⟩ o1) (zS_new hS z1 o1) (zG_new hG (C.2.2.1 _ hS.1)) hL9
theorem zz_newq (C : zC p s m args meth c D A cc nL own Ts ret) (tg : Nat) {Cn : String} {index : Nat} {n : Int32} {N : Nat} (hclink : Cond.classLink own index Cn ∈ Ts) (hover : Cond.arrayOver (.object Cn) ∈ Ts) (hn : ¬ n < 0) (hN : n.toNatClampNeg = N) (hbytes : N * 4 ≤ 536870912) (hcells : cells + 1 ≤ R.cells) (hslots : slots + N ≤ R.slots) (hdg : decode cc pc = .ok (.anewarray index, 3))
    (kk : ∀ a : Nat, G a = none → s.heap.size ≤ a → zV p l e R s m args below meth c D A (cells + 1) (slots + N) Q (zU G a (tg, .inl (.object Cn, N, .inr (.inr (.inr (.inr (fun _ => none))))))) (pc + 3) L (.ref a :: st)) : zV p l e R s m args below meth c D A cells slots Q G (pc) L (.int n :: st) := by
  intro H locs ls hP hS hG hL9
  subst hN
  refine W.anew C.1.1 C.1.2.1 C.1.2.2.2.1 (C.ts hclink) (C.ts hover) rfl hdg rfl hn hbytes hcells hslots fun cA kA comp f1 f2 f3 f4 => ?_
  generalize hH1 : H.push ({ cls := cA, slots := Array.replicate n.toNatClampNeg .null, vm := .none } : Cell) = H1
  have z1 : H1.size = H.size + 1 := by rw [← hH1, Array.size_push]
  have e1 : H1[H.size]? = some (arrV cA n.toNatClampNeg (fun _ => .null)) := by rw [← hH1, Array.getElem?_push_size, ← arrV_new]
  have o1 : ∀ q : Nat, q < H.size → H1[q]? = H[q]? := fun q hq => by rw [← hH1, Array.getElem?_push, if_neg (Nat.ne_of_lt hq)]
  have hAr : ArrOfT s cA (.object Cn) := fun N z => ⟨(fun k h => by cases h), kA, f2, comp, f3⟩
  exact kk H.size (hP.free (Nat.le_refl _)) hS.1 H1 locs ls (hP.new rfl ⟨cA, by rw [vp_cell_q]; exact e1, hAr, kA, comp, f2, f3, f4, f1⟩ o1) (zS_new hS z1 o1) (zG_new hG (C.2.2.1 _ hS.1)) hL9
theorem zz_new (C : zC p s m args meth c D A cc nL own Ts ret) (tg : Nat) {Cn : String} {T : u_T} {N ci index : Nat} (hin : ∀ w ∈ u_ws Cn T N, w ∈ Ts) (ty0 : Nat → FieldType) (hty : ∀ k, k < N → parseFieldDescriptor (T k).2.2.1 = some (ty0 k)) (hcl : Cond.classLink own index Cn ∈ Ts) (hinst : Cond.instantiable Cn N ∈ Ts) (hini : Cond.initialized Cn ∈ Ts) (hc : vwCl[ci]? = some (Cn, T, N)) {fs : List Value} (hfs : ∀ j, j < N → defaultValue (ty0 j) = vp_V fs j) (hcells : cells + 1 ≤ R.cells) (hslots : slots + N ≤ R.slots) (hdg : decode cc pc = .ok (.new index, 3))
    (kk : ∀ a : Nat, G a = none → s.heap.size ≤ a → zV p l e R s m args below meth c D A (cells + 1) (slots + N) Q (zU G a (tg, .inr (ci, fs))) (pc + 3) L (.ref a :: st)) : zV p l e R s m args below meth c D A cells slots Q G (pc) L st := by
  intro H locs ls hP hS hG hL9
  have hKn := C.2.1.1 ci _ hc
  refine W.newcK C.1.1 C.1.2.1 C.1.2.2.2.1 (C.ts hcl) (C.ts hinst) (C.ts hini) rfl hdg hcells hslots hKn.2.1 rfl fun H1 kC hkC e1 z1 o1 => ?_
  exact kk H.size (hP.free (Nat.le_refl _)) hS.1 H1 locs ls (hP.new rfl ⟨_, hc, (u_born ty0 (fun w h => C.ts h) hin hKn hkC e1 hty).to hfs⟩ o1) (zS_new hS z1 o1) (zG_new hG (C.2.2.1 _ hS.1)) hL9
theorem zz_objInit (C : zC p s m args meth c D A cc nL own Ts ret) {idx a : Nat} (hlink : Cond.methodLink own idx Lib.objectInit ∈ Ts) (hinst : Cond.instanceMethod Lib.objectInit ∈ Ts) (hcode : Cond.code Lib.objectInit ⟨#[0xb1]⟩ 1 none ∈ Ts) (hlen : L.length = nL) (hd : decode cc pc = .ok (.invokespecial idx, 3)) (hframes : 1 ≤ R.frames) (hlocals : (st.map fun v => v.category).sum + 12 ≤ R.locals)
    (kk : zV p l e R s m args below meth c D A cells slots Q G (pc + 3) L st) : zV p l e R s m args below meth c D A cells slots Q G (pc) L (.ref a :: st) := fun H locs ls hP hS hG hL9 => by
  refine W.objInit C.1.1 C.1.2.1 C.1.2.2.2.1 (C.ts hlink) (C.ts hinst) (C.ts hcode) rfl (show ls.size = c.maxLocals by rw [hL9.1, hlen, C.1.2.2.1]) rfl hd hframes (by show 2 * 0 + _ + 12 ≤ _; omega) ?_
  exact kk H locs ls hP hS hG hL9
end ZV
