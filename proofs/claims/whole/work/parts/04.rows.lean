section XR
variable {p : Program} {l : Launch} {e : Env} {R : Room} {s : State} {m : MethodId} {args : Array Value} {below : List Frame} {meth : Method} {c : Code} {G : xG} {bs : Nat} {Q : State → Prop} {cells slots pc : Nat} {L : List (Option Value)} {st : List Value} {h : xh}
variable {own : String} {cc : ByteArray} {nL : Nat} {ret : Option FieldType}

theorem x_iconst (C : Cx p s m args meth c G own cc nL ret) {n : Int} {v : Int32} (hd : decode cc pc = .ok (.iconst n, 1)) (hv : Int32.ofInt n = v := by rfl) (kk : (X p l e R s m args below meth c G bs Q cells slots (pc + 1) L (.int v :: st) h)) : X p l e R s m args below meth c G bs Q cells slots pc L st h := fun H ls locs hH hS hL => lv_iconst C.1 C.2.1 hd hv (kk H ls locs hH hS hL)
theorem x_bipush (C : Cx p s m args meth c G own cc nL ret) {n : Int} {v : Int32} (hd : decode cc pc = .ok (.bipush n, 2)) (hv : (Int8.ofInt n).toInt32 = v := by rfl) (kk : (X p l e R s m args below meth c G bs Q cells slots (pc + 2) L (.int v :: st) h)) : X p l e R s m args below meth c G bs Q cells slots pc L st h := fun H ls locs hH hS hL => lv_bipush C.1 C.2.1 hd hv (kk H ls locs hH hS hL)
theorem x_sipush (C : Cx p s m args meth c G own cc nL ret) {n : Int} {v : Int32} (hd : decode cc pc = .ok (.sipush n, 3)) (hv : (Int16.ofInt n).toInt32 = v := by rfl) (kk : (X p l e R s m args below meth c G bs Q cells slots (pc + 3) L (.int v :: st) h)) : X p l e R s m args below meth c G bs Q cells slots pc L st h := fun H ls locs hH hS hL => lv_sipush C.1 C.2.1 hd hv (kk H ls locs hH hS hL)
theorem x_ldc (C : Cx p s m args meth c G own cc nL ret) {n : Nat} {v : Int32} (hk : Cond.constant own n v ∈ TB) (hd : decode cc pc = .ok (.ldc n, 2))  (kk : (X p l e R s m args below meth c G bs Q cells slots (pc + 2) L (.int v :: st) h)) : X p l e R s m args below meth c G bs Q cells slots pc L st h := fun H ls locs hH hS hL => lv_ldc C.1 C.2.1 C.2.2.2.2.2.1 (C.2.2.2.2.1 _ hk) hd (kk H ls locs hH hS hL)
theorem x_ldcw (C : Cx p s m args meth c G own cc nL ret) {n : Nat} {v : Int32} (hk : Cond.constant own n v ∈ TB) (hd : decode cc pc = .ok (.ldc_w n, 3))  (kk : (X p l e R s m args below meth c G bs Q cells slots (pc + 3) L (.int v :: st) h)) : X p l e R s m args below meth c G bs Q cells slots pc L st h := fun H ls locs hH hS hL => lv_ldcw C.1 C.2.1 C.2.2.2.2.2.1 (C.2.2.2.2.1 _ hk) hd (kk H ls locs hH hS hL)
theorem x_null (C : Cx p s m args meth c G own cc nL ret)  (hd : decode cc pc = .ok (.aconst_null, 1))  (kk : (X p l e R s m args below meth c G bs Q cells slots (pc + 1) L (.null :: st) h)) : X p l e R s m args below meth c G bs Q cells slots pc L st h := fun H ls locs hH hS hL => lv_null C.1 C.2.1 hd (kk H ls locs hH hS hL)
theorem x_iload_n (C : Cx p s m args meth c G own cc nL ret) {k : Fin 4} {x : Int32} (hd : decode cc pc = .ok (.iload_n k, 1)) (hv : L[(k : Nat)]? = some (some (.int x)) := by rfl) (kk : (X p l e R s m args below meth c G bs Q cells slots (pc + 1) L (.int x :: st) h)) : X p l e R s m args below meth c G bs Q cells slots pc L st h := fun H ls locs hH hS hL => lv_iload_n C.1 C.2.1 hd rfl (hL.2.2 _ _ hv).1 (kk H ls locs hH hS hL)
theorem x_iload (C : Cx p s m args meth c G own cc nL ret) {k : Nat} {x : Int32} (hd : decode cc pc = .ok (.iload k, 2)) (hv : L[k]? = some (some (.int x)) := by rfl) (kk : (X p l e R s m args below meth c G bs Q cells slots (pc + 2) L (.int x :: st) h)) : X p l e R s m args below meth c G bs Q cells slots pc L st h := fun H ls locs hH hS hL => lv_iload C.1 C.2.1 hd (hL.2.2 _ _ hv).1 (kk H ls locs hH hS hL)
theorem x_aload_n (C : Cx p s m args meth c G own cc nL ret) {k : Fin 4} {x : Nat} (hd : decode cc pc = .ok (.aload_n k, 1)) (hv : L[(k : Nat)]? = some (some (.ref x)) := by rfl) (kk : (X p l e R s m args below meth c G bs Q cells slots (pc + 1) L (.ref x :: st) h)) : X p l e R s m args below meth c G bs Q cells slots pc L st h := fun H ls locs hH hS hL => lv_aload_n C.1 C.2.1 hd rfl (hL.2.2 _ _ hv).1 (kk H ls locs hH hS hL)
theorem x_aload (C : Cx p s m args meth c G own cc nL ret) {k : Nat} {x : Nat} (hd : decode cc pc = .ok (.aload k, 2)) (hv : L[k]? = some (some (.ref x)) := by rfl) (kk : (X p l e R s m args below meth c G bs Q cells slots (pc + 2) L (.ref x :: st) h)) : X p l e R s m args below meth c G bs Q cells slots pc L st h := fun H ls locs hH hS hL => lv_aload C.1 C.2.1 hd (hL.2.2 _ _ hv).1 (kk H ls locs hH hS hL)
theorem x_aload_nN (C : Cx p s m args meth c G own cc nL ret) {k : Fin 4} (hd : decode cc pc = .ok (.aload_n k, 1)) (hv : L[(k : Nat)]? = some (some .null) := by rfl) (kk : (X p l e R s m args below meth c G bs Q cells slots (pc + 1) L (.null :: st) h)) : X p l e R s m args below meth c G bs Q cells slots pc L st h := fun H ls locs hH hS hL => lv_aload_nN C.1 C.2.1 hd rfl (hL.2.2 _ _ hv).1 (kk H ls locs hH hS hL)
theorem x_aloadN (C : Cx p s m args meth c G own cc nL ret) {k : Nat} (hd : decode cc pc = .ok (.aload k, 2)) (hv : L[k]? = some (some .null) := by rfl) (kk : (X p l e R s m args below meth c G bs Q cells slots (pc + 2) L (.null :: st) h)) : X p l e R s m args below meth c G bs Q cells slots pc L st h := fun H ls locs hH hS hL => lv_aloadN C.1 C.2.1 hd (hL.2.2 _ _ hv).1 (kk H ls locs hH hS hL)
theorem x_istore_n (C : Cx p s m args meth c G own cc nL ret) {k : Fin 4} {x : Int32} (hd : decode cc pc = .ok (.istore_n k, 1)) (hn : (k : Nat) < nL := by decide) (kk : (X p l e R s m args below meth c G bs Q cells slots (pc + 1) (L.set (k : Nat) (some (.int x))) st h)) : X p l e R s m args below meth c G bs Q cells slots pc L (.int x :: st) h := fun H ls locs hH hS hL => lv_istore_n C.1 C.2.1 hd rfl hL.has (by rw [C.2.2.1]; exact hn) rfl (fun ls1 h1 => kk H ls1 locs hH hS (hL.set rfl h1))
theorem x_istore (C : Cx p s m args meth c G own cc nL ret) {k : Nat} {x : Int32} (hd : decode cc pc = .ok (.istore k, 2)) (hn : k < nL := by decide) (kk : (X p l e R s m args below meth c G bs Q cells slots (pc + 2) (L.set k (some (.int x))) st h)) : X p l e R s m args below meth c G bs Q cells slots pc L (.int x :: st) h := fun H ls locs hH hS hL => lv_istore C.1 C.2.1 hd hL.has (by rw [C.2.2.1]; exact hn) rfl (fun ls1 h1 => kk H ls1 locs hH hS (hL.set rfl h1))
theorem x_astore_n (C : Cx p s m args meth c G own cc nL ret) {k : Fin 4} {x : Nat} (hd : decode cc pc = .ok (.astore_n k, 1)) (hn : (k : Nat) < nL := by decide) (kk : (X p l e R s m args below meth c G bs Q cells slots (pc + 1) (L.set (k : Nat) (some (.ref x))) st h)) : X p l e R s m args below meth c G bs Q cells slots pc L (.ref x :: st) h := fun H ls locs hH hS hL => lv_astore_n C.1 C.2.1 hd rfl hL.has (by rw [C.2.2.1]; exact hn) rfl (fun ls1 h1 => kk H ls1 locs hH hS (hL.set rfl h1))
theorem x_astore (C : Cx p s m args meth c G own cc nL ret) {k : Nat} {x : Nat} (hd : decode cc pc = .ok (.astore k, 2)) (hn : k < nL := by decide) (kk : (X p l e R s m args below meth c G bs Q cells slots (pc + 2) (L.set k (some (.ref x))) st h)) : X p l e R s m args below meth c G bs Q cells slots pc L (.ref x :: st) h := fun H ls locs hH hS hL => lv_astore C.1 C.2.1 hd hL.has (by rw [C.2.2.1]; exact hn) rfl (fun ls1 h1 => kk H ls1 locs hH hS (hL.set rfl h1))
theorem x_astore_nN (C : Cx p s m args meth c G own cc nL ret) {k : Fin 4} (hd : decode cc pc = .ok (.astore_n k, 1)) (hn : (k : Nat) < nL := by decide) (kk : (X p l e R s m args below meth c G bs Q cells slots (pc + 1) (L.set (k : Nat) (some (.null))) st h)) : X p l e R s m args below meth c G bs Q cells slots pc L (.null :: st) h := fun H ls locs hH hS hL => lv_astore_nN C.1 C.2.1 hd rfl hL.has (by rw [C.2.2.1]; exact hn) rfl (fun ls1 h1 => kk H ls1 locs hH hS (hL.set rfl h1))
theorem x_astoreN (C : Cx p s m args meth c G own cc nL ret) {k : Nat} (hd : decode cc pc = .ok (.astore k, 2)) (hn : k < nL := by decide) (kk : (X p l e R s m args below meth c G bs Q cells slots (pc + 2) (L.set k (some (.null))) st h)) : X p l e R s m args below meth c G bs Q cells slots pc L (.null :: st) h := fun H ls locs hH hS hL => lv_astoreN C.1 C.2.1 hd hL.has (by rw [C.2.2.1]; exact hn) rfl (fun ls1 h1 => kk H ls1 locs hH hS (hL.set rfl h1))
theorem x_iinc (C : Cx p s m args meth c G own cc nL ret) {k : Nat} {n : Int} {x v : Int32} (hd : decode cc pc = .ok (.iinc k n, 3)) (hx : L[k]? = some (some (.int x)) := by rfl) (hv : x + Int32.ofInt n = v := by rfl) (hn : k < nL := by decide) (kk : (X p l e R s m args below meth c G bs Q cells slots (pc + 3) (L.set k (some (.int v))) st h)) : X p l e R s m args below meth c G bs Q cells slots pc L st h := by
  intro H ls locs hH hS hL
  have hm : (k, Value.int x) ∈ x_as L := x_as_in.mpr hx
  obtain ⟨j, hj⟩ := List.getElem?_of_mem hm
  exact lv_iinc C.1 C.2.1 hd hL.has hj hv (by rw [C.2.2.1]; exact hn) rfl (fun ls1 h1 => kk H ls1 locs hH hS (hL.set rfl h1))
theorem x_iinc1 (C : Cx p s m args meth c G own cc nL ret) {k : Nat} {j : Nat} (hd : decode cc pc = .ok (.iinc k 1, 3)) (hx : L[k]? = some (some (.int (nI j))) := by rfl) (hn : k < nL := by decide) (kk : (X p l e R s m args below meth c G bs Q cells slots (pc + 3) (L.set k (some (.int (nI (j + 1))))) st h)) : X p l e R s m args below meth c G bs Q cells slots pc L st h :=
  x_iinc C hd hx (nI_1 j) hn kk
theorem x_iadd (C : Cx p s m args meth c G own cc nL ret) {x y : Int32} (hd : decode cc pc = .ok (.iadd, 1))  (kk : (X p l e R s m args below meth c G bs Q cells slots (pc + 1) L (.int (x + y) :: st) h)) : X p l e R s m args below meth c G bs Q cells slots pc L (.int y :: .int x :: st) h := fun H ls locs hH hS hL => lv_iadd C.1 C.2.1 hd (kk H ls locs hH hS hL)
theorem x_isub (C : Cx p s m args meth c G own cc nL ret) {x y : Int32} (hd : decode cc pc = .ok (.isub, 1))  (kk : (X p l e R s m args below meth c G bs Q cells slots (pc + 1) L (.int (x - y) :: st) h)) : X p l e R s m args below meth c G bs Q cells slots pc L (.int y :: .int x :: st) h := fun H ls locs hH hS hL => lv_isub C.1 C.2.1 hd (kk H ls locs hH hS hL)
theorem x_imul (C : Cx p s m args meth c G own cc nL ret) {x y : Int32} (hd : decode cc pc = .ok (.imul, 1))  (kk : (X p l e R s m args below meth c G bs Q cells slots (pc + 1) L (.int (x * y) :: st) h)) : X p l e R s m args below meth c G bs Q cells slots pc L (.int y :: .int x :: st) h := fun H ls locs hH hS hL => lv_imul C.1 C.2.1 hd (kk H ls locs hH hS hL)
theorem x_iand (C : Cx p s m args meth c G own cc nL ret) {x y : Int32} (hd : decode cc pc = .ok (.iand, 1))  (kk : (X p l e R s m args below meth c G bs Q cells slots (pc + 1) L (.int (x &&& y) :: st) h)) : X p l e R s m args below meth c G bs Q cells slots pc L (.int y :: .int x :: st) h := fun H ls locs hH hS hL => lv_iand C.1 C.2.1 hd (kk H ls locs hH hS hL)
theorem x_ior (C : Cx p s m args meth c G own cc nL ret) {x y : Int32} (hd : decode cc pc = .ok (.ior, 1))  (kk : (X p l e R s m args below meth c G bs Q cells slots (pc + 1) L (.int (x ||| y) :: st) h)) : X p l e R s m args below meth c G bs Q cells slots pc L (.int y :: .int x :: st) h := fun H ls locs hH hS hL => lv_ior C.1 C.2.1 hd (kk H ls locs hH hS hL)
theorem x_ishr (C : Cx p s m args meth c G own cc nL ret) {x y : Int32} (hd : decode cc pc = .ok (.ishr, 1))  (kk : (X p l e R s m args below meth c G bs Q cells slots (pc + 1) L (.int (x >>> (y &&& 31)) :: st) h)) : X p l e R s m args below meth c G bs Q cells slots pc L (.int y :: .int x :: st) h := fun H ls locs hH hS hL => lv_ishr C.1 C.2.1 hd (kk H ls locs hH hS hL)
theorem x_idiv (C : Cx p s m args meth c G own cc nL ret) {x y : Int32} (hd : decode cc pc = .ok (.idiv, 1)) (hy : ¬ y = 0 := by decide) (kk : (X p l e R s m args below meth c G bs Q cells slots (pc + 1) L (.int (x / y) :: st) h)) : X p l e R s m args below meth c G bs Q cells slots pc L (.int y :: .int x :: st) h := fun H ls locs hH hS hL => lv_idiv C.1 C.2.1 hd hy (kk H ls locs hH hS hL)
theorem x_irem (C : Cx p s m args meth c G own cc nL ret) {x y : Int32} (hd : decode cc pc = .ok (.irem, 1)) (hy : ¬ y = 0 := by decide) (kk : (X p l e R s m args below meth c G bs Q cells slots (pc + 1) L (.int (x - x / y * y) :: st) h)) : X p l e R s m args below meth c G bs Q cells slots pc L (.int y :: .int x :: st) h := fun H ls locs hH hS hL => lv_irem C.1 C.2.1 hd hy (kk H ls locs hH hS hL)
theorem x_dup (C : Cx p s m args meth c G own cc nL ret) {v : Value} (hd : decode cc pc = .ok (.dup, 1)) (hc : v.category = 1 := by rfl) (kk : (X p l e R s m args below meth c G bs Q cells slots (pc + 1) L (v :: v :: st) h)) : X p l e R s m args below meth c G bs Q cells slots pc L (v :: st) h := fun H ls locs hH hS hL => lv_dup C.1 C.2.1 hd hc (kk H ls locs hH hS hL)
theorem x_dup2 (C : Cx p s m args meth c G own cc nL ret) {v w : Value} (hd : decode cc pc = .ok (.dup2, 1)) (hc : v.category = 1 := by rfl) (hc2 : w.category = 1 := by rfl) (kk : (X p l e R s m args below meth c G bs Q cells slots (pc + 1) L (v :: w :: v :: w :: st) h)) : X p l e R s m args below meth c G bs Q cells slots pc L (v :: w :: st) h := fun H ls locs hH hS hL => lv_dup2_11 C.1 C.2.1 hd hc hc2 (kk H ls locs hH hS hL)
theorem x_pop (C : Cx p s m args meth c G own cc nL ret) {v : Value} (hd : decode cc pc = .ok (.pop, 1)) (hc : v.category = 1 := by rfl) (kk : (X p l e R s m args below meth c G bs Q cells slots (pc + 1) L st h)) : X p l e R s m args below meth c G bs Q cells slots pc L (v :: st) h := fun H ls locs hH hS hL => lv_pop C.1 C.2.1 hd hc (kk H ls locs hH hS hL)
theorem x_icmp_eq (C : Cx p s m args meth c G own cc nL ret) {x y : Int32} {off : Int} (hd : decode cc pc = .ok (.if_icmp .eq off, 3)) (tgt : Nat) (kt : (x = y) → X p l e R s m args below meth c G bs Q cells slots tgt L st h) (kf : (¬ x = y) → X p l e R s m args below meth c G bs Q cells slots (pc + 3) L st h) (ht : (pc : Int) + off = (tgt : Int) := by decide) : X p l e R s m args below meth c G bs Q cells slots pc L (.int y :: .int x :: st) h := fun H ls locs hH hS hL => lv_icmp_eq C.1 C.2.1 hd ht (fun q => kt q H ls locs hH hS hL) (fun q => kf q H ls locs hH hS hL)
theorem x_icmp_lt (C : Cx p s m args meth c G own cc nL ret) {x y : Int32} {off : Int} (hd : decode cc pc = .ok (.if_icmp .lt off, 3)) (tgt : Nat) (kt : (x < y) → X p l e R s m args below meth c G bs Q cells slots tgt L st h) (kf : (¬ x < y) → X p l e R s m args below meth c G bs Q cells slots (pc + 3) L st h) (ht : (pc : Int) + off = (tgt : Int) := by decide) : X p l e R s m args below meth c G bs Q cells slots pc L (.int y :: .int x :: st) h := fun H ls locs hH hS hL => lv_icmp_lt C.1 C.2.1 hd ht (fun q => kt q H ls locs hH hS hL) (fun q => kf q H ls locs hH hS hL)
theorem x_icmp_ge (C : Cx p s m args meth c G own cc nL ret) {x y : Int32} {off : Int} (hd : decode cc pc = .ok (.if_icmp .ge off, 3)) (tgt : Nat) (kt : (y ≤ x) → X p l e R s m args below meth c G bs Q cells slots tgt L st h) (kf : (¬ y ≤ x) → X p l e R s m args below meth c G bs Q cells slots (pc + 3) L st h) (ht : (pc : Int) + off = (tgt : Int) := by decide) : X p l e R s m args below meth c G bs Q cells slots pc L (.int y :: .int x :: st) h := fun H ls locs hH hS hL => lv_icmp_ge C.1 C.2.1 hd ht (fun q => kt q H ls locs hH hS hL) (fun q => kf q H ls locs hH hS hL)
theorem x_icmp_gt (C : Cx p s m args meth c G own cc nL ret) {x y : Int32} {off : Int} (hd : decode cc pc = .ok (.if_icmp .gt off, 3)) (tgt : Nat) (kt : (y < x) → X p l e R s m args below meth c G bs Q cells slots tgt L st h) (kf : (¬ y < x) → X p l e R s m args below meth c G bs Q cells slots (pc + 3) L st h) (ht : (pc : Int) + off = (tgt : Int) := by decide) : X p l e R s m args below meth c G bs Q cells slots pc L (.int y :: .int x :: st) h := fun H ls locs hH hS hL => lv_icmp_gt C.1 C.2.1 hd ht (fun q => kt q H ls locs hH hS hL) (fun q => kf q H ls locs hH hS hL)
theorem x_icmp_le (C : Cx p s m args meth c G own cc nL ret) {x y : Int32} {off : Int} (hd : decode cc pc = .ok (.if_icmp .le off, 3)) (tgt : Nat) (kt : (x ≤ y) → X p l e R s m args below meth c G bs Q cells slots tgt L st h) (kf : (¬ x ≤ y) → X p l e R s m args below meth c G bs Q cells slots (pc + 3) L st h) (ht : (pc : Int) + off = (tgt : Int) := by decide) : X p l e R s m args below meth c G bs Q cells slots pc L (.int y :: .int x :: st) h := fun H ls locs hH hS hL => lv_icmp_le C.1 C.2.1 hd ht (fun q => kt q H ls locs hH hS hL) (fun q => kf q H ls locs hH hS hL)
theorem x_icmp_ne (C : Cx p s m args meth c G own cc nL ret) {x y : Int32} {off : Int} (hd : decode cc pc = .ok (.if_icmp .ne off, 3)) (tgt : Nat) (kt : (¬ x = y) → X p l e R s m args below meth c G bs Q cells slots tgt L st h) (kf : (x = y) → X p l e R s m args below meth c G bs Q cells slots (pc + 3) L st h) (ht : (pc : Int) + off = (tgt : Int) := by decide) : X p l e R s m args below meth c G bs Q cells slots pc L (.int y :: .int x :: st) h := fun H ls locs hH hS hL => lv_icmp_ne C.1 C.2.1 hd ht (fun q => kt q H ls locs hH hS hL) (fun q => kf q H ls locs hH hS hL)
theorem x_if_eq (C : Cx p s m args meth c G own cc nL ret) {x : Int32} {off : Int} (hd : decode cc pc = .ok (.ifCond .eq off, 3)) (tgt : Nat) (kt : (x = 0) → X p l e R s m args below meth c G bs Q cells slots tgt L st h) (kf : (¬ x = 0) → X p l e R s m args below meth c G bs Q cells slots (pc + 3) L st h) (ht : (pc : Int) + off = (tgt : Int) := by decide) : X p l e R s m args below meth c G bs Q cells slots pc L (.int x :: st) h := fun H ls locs hH hS hL => lv_if_eq C.1 C.2.1 hd ht (fun q => kt q H ls locs hH hS hL) (fun q => kf q H ls locs hH hS hL)
theorem x_if_lt (C : Cx p s m args meth c G own cc nL ret) {x : Int32} {off : Int} (hd : decode cc pc = .ok (.ifCond .lt off, 3)) (tgt : Nat) (kt : (x < 0) → X p l e R s m args below meth c G bs Q cells slots tgt L st h) (kf : (¬ x < 0) → X p l e R s m args below meth c G bs Q cells slots (pc + 3) L st h) (ht : (pc : Int) + off = (tgt : Int) := by decide) : X p l e R s m args below meth c G bs Q cells slots pc L (.int x :: st) h := fun H ls locs hH hS hL => lv_if_lt C.1 C.2.1 hd ht (fun q => kt q H ls locs hH hS hL) (fun q => kf q H ls locs hH hS hL)
theorem x_if_ge (C : Cx p s m args meth c G own cc nL ret) {x : Int32} {off : Int} (hd : decode cc pc = .ok (.ifCond .ge off, 3)) (tgt : Nat) (kt : (0 ≤ x) → X p l e R s m args below meth c G bs Q cells slots tgt L st h) (kf : (¬ 0 ≤ x) → X p l e R s m args below meth c G bs Q cells slots (pc + 3) L st h) (ht : (pc : Int) + off = (tgt : Int) := by decide) : X p l e R s m args below meth c G bs Q cells slots pc L (.int x :: st) h := fun H ls locs hH hS hL => lv_if_ge C.1 C.2.1 hd ht (fun q => kt q H ls locs hH hS hL) (fun q => kf q H ls locs hH hS hL)
theorem x_if_gt (C : Cx p s m args meth c G own cc nL ret) {x : Int32} {off : Int} (hd : decode cc pc = .ok (.ifCond .gt off, 3)) (tgt : Nat) (kt : (0 < x) → X p l e R s m args below meth c G bs Q cells slots tgt L st h) (kf : (¬ 0 < x) → X p l e R s m args below meth c G bs Q cells slots (pc + 3) L st h) (ht : (pc : Int) + off = (tgt : Int) := by decide) : X p l e R s m args below meth c G bs Q cells slots pc L (.int x :: st) h := fun H ls locs hH hS hL => lv_if_gt C.1 C.2.1 hd ht (fun q => kt q H ls locs hH hS hL) (fun q => kf q H ls locs hH hS hL)
theorem x_if_le (C : Cx p s m args meth c G own cc nL ret) {x : Int32} {off : Int} (hd : decode cc pc = .ok (.ifCond .le off, 3)) (tgt : Nat) (kt : (x ≤ 0) → X p l e R s m args below meth c G bs Q cells slots tgt L st h) (kf : (¬ x ≤ 0) → X p l e R s m args below meth c G bs Q cells slots (pc + 3) L st h) (ht : (pc : Int) + off = (tgt : Int) := by decide) : X p l e R s m args below meth c G bs Q cells slots pc L (.int x :: st) h := fun H ls locs hH hS hL => lv_if_le C.1 C.2.1 hd ht (fun q => kt q H ls locs hH hS hL) (fun q => kf q H ls locs hH hS hL)
theorem x_if_ne (C : Cx p s m args meth c G own cc nL ret) {x : Int32} {off : Int} (hd : decode cc pc = .ok (.ifCond .ne off, 3)) (tgt : Nat) (kt : (¬ x = 0) → X p l e R s m args below meth c G bs Q cells slots tgt L st h) (kf : (x = 0) → X p l e R s m args below meth c G bs Q cells slots (pc + 3) L st h) (ht : (pc : Int) + off = (tgt : Int) := by decide) : X p l e R s m args below meth c G bs Q cells slots pc L (.int x :: st) h := fun H ls locs hH hS hL => lv_if_ne C.1 C.2.1 hd ht (fun q => kt q H ls locs hH hS hL) (fun q => kf q H ls locs hH hS hL)
theorem x_ncmp_ge (C : Cx p s m args meth c G own cc nL ret) {x y : Int32} {off : Int} (a b : Nat) (hd : decode cc pc = .ok (.if_icmp .ge off, 3)) (tgt : Nat) (kt : b ≤ a → X p l e R s m args below meth c G bs Q cells slots tgt L st h) (kf : a < b → X p l e R s m args below meth c G bs Q cells slots (pc + 3) L st h) (ea : x = nI a := by rfl) (eb : y = nI b := by rfl) (ha : a < 2 ^ 31 := by omega) (hb : b < 2 ^ 31 := by omega) (ht : (pc : Int) + off = (tgt : Int) := by decide) : X p l e R s m args below meth c G bs Q cells slots pc L (.int y :: .int x :: st) h := by
  subst ea; subst eb
  exact x_icmp_ge C hd tgt (fun q => kt ((nI_leI hb ha).mp q)) (fun q => kf (Nat.not_le.mp (fun z => q ((nI_leI hb ha).mpr z)))) ht
theorem x_ncmp_lt (C : Cx p s m args meth c G own cc nL ret) {x y : Int32} {off : Int} (a b : Nat) (hd : decode cc pc = .ok (.if_icmp .lt off, 3)) (tgt : Nat) (kt : a < b → X p l e R s m args below meth c G bs Q cells slots tgt L st h) (kf : b ≤ a → X p l e R s m args below meth c G bs Q cells slots (pc + 3) L st h) (ea : x = nI a := by rfl) (eb : y = nI b := by rfl) (ha : a < 2 ^ 31 := by omega) (hb : b < 2 ^ 31 := by omega) (ht : (pc : Int) + off = (tgt : Int) := by decide) : X p l e R s m args below meth c G bs Q cells slots pc L (.int y :: .int x :: st) h := by
  subst ea; subst eb
  exact x_icmp_lt C hd tgt (fun q => kt ((nI_ltI ha hb).mp q)) (fun q => kf (Nat.not_lt.mp (fun z => q ((nI_ltI ha hb).mpr z)))) ht
theorem x_ncmp_gt (C : Cx p s m args meth c G own cc nL ret) {x y : Int32} {off : Int} (a b : Nat) (hd : decode cc pc = .ok (.if_icmp .gt off, 3)) (tgt : Nat) (kt : b < a → X p l e R s m args below meth c G bs Q cells slots tgt L st h) (kf : a ≤ b → X p l e R s m args below meth c G bs Q cells slots (pc + 3) L st h) (ea : x = nI a := by rfl) (eb : y = nI b := by rfl) (ha : a < 2 ^ 31 := by omega) (hb : b < 2 ^ 31 := by omega) (ht : (pc : Int) + off = (tgt : Int) := by decide) : X p l e R s m args below meth c G bs Q cells slots pc L (.int y :: .int x :: st) h := by
  subst ea; subst eb
  exact x_icmp_gt C hd tgt (fun q => kt ((nI_ltI hb ha).mp q)) (fun q => kf (Nat.not_lt.mp (fun z => q ((nI_ltI hb ha).mpr z)))) ht
theorem x_ncmp_le (C : Cx p s m args meth c G own cc nL ret) {x y : Int32} {off : Int} (a b : Nat) (hd : decode cc pc = .ok (.if_icmp .le off, 3)) (tgt : Nat) (kt : a ≤ b → X p l e R s m args below meth c G bs Q cells slots tgt L st h) (kf : b < a → X p l e R s m args below meth c G bs Q cells slots (pc + 3) L st h) (ea : x = nI a := by rfl) (eb : y = nI b := by rfl) (ha : a < 2 ^ 31 := by omega) (hb : b < 2 ^ 31 := by omega) (ht : (pc : Int) + off = (tgt : Int) := by decide) : X p l e R s m args below meth c G bs Q cells slots pc L (.int y :: .int x :: st) h := by
  subst ea; subst eb
  exact x_icmp_le C hd tgt (fun q => kt ((nI_leI ha hb).mp q)) (fun q => kf (Nat.not_le.mp (fun z => q ((nI_leI ha hb).mpr z)))) ht
theorem x_ncmp_eq (C : Cx p s m args meth c G own cc nL ret) {x y : Int32} {off : Int} (a b : Nat) (hd : decode cc pc = .ok (.if_icmp .eq off, 3)) (tgt : Nat) (kt : a = b → X p l e R s m args below meth c G bs Q cells slots tgt L st h) (kf : a ≠ b → X p l e R s m args below meth c G bs Q cells slots (pc + 3) L st h) (ea : x = nI a := by rfl) (eb : y = nI b := by rfl) (ha : a < 2 ^ 31 := by omega) (hb : b < 2 ^ 31 := by omega) (ht : (pc : Int) + off = (tgt : Int) := by decide) : X p l e R s m args below meth c G bs Q cells slots pc L (.int y :: .int x :: st) h := by
  subst ea; subst eb
  exact x_icmp_eq C hd tgt (fun q => kt ((nI_eq ha hb).mp q)) (fun q => kf ((fun z => q ((nI_eq ha hb).mpr z)))) ht
theorem x_ncmp_ne (C : Cx p s m args meth c G own cc nL ret) {x y : Int32} {off : Int} (a b : Nat) (hd : decode cc pc = .ok (.if_icmp .ne off, 3)) (tgt : Nat) (kt : a ≠ b → X p l e R s m args below meth c G bs Q cells slots tgt L st h) (kf : a = b → X p l e R s m args below meth c G bs Q cells slots (pc + 3) L st h) (ea : x = nI a := by rfl) (eb : y = nI b := by rfl) (ha : a < 2 ^ 31 := by omega) (hb : b < 2 ^ 31 := by omega) (ht : (pc : Int) + off = (tgt : Int) := by decide) : X p l e R s m args below meth c G bs Q cells slots pc L (.int y :: .int x :: st) h := by
  subst ea; subst eb
  exact x_icmp_ne C hd tgt (fun q => kt ((fun z => q ((nI_eq ha hb).mpr z)))) (fun q => kf ((nI_eq ha hb).mp q)) ht
theorem x_nif_le (C : Cx p s m args meth c G own cc nL ret) {x : Int32} {off : Int} (a : Nat) (hd : decode cc pc = .ok (.ifCond .le off, 3)) (tgt : Nat) (kt : a = 0 → X p l e R s m args below meth c G bs Q cells slots tgt L st h) (kf : 0 < a → X p l e R s m args below meth c G bs Q cells slots (pc + 3) L st h) (ea : x = nI a := by rfl) (ha : a < 2 ^ 31 := by omega) (ht : (pc : Int) + off = (tgt : Int) := by decide) : X p l e R s m args below meth c G bs Q cells slots pc L (.int x :: st) h := by
  subst ea
  exact x_if_le C hd tgt (fun q => kt (Nat.le_zero.mp ((nI_leI ha (by decide)).mp q))) (fun q => kf (Nat.pos_of_ne_zero (fun z => q (by subst z; decide)))) ht
theorem x_goto (C : Cx p s m args meth c G own cc nL ret) {off : Int} (hd : decode cc pc = .ok (.goto off, 3)) (tgt : Nat) (kk : X p l e R s m args below meth c G bs Q cells slots tgt L st h) (ht : (pc : Int) + off = (tgt : Int) := by decide) : X p l e R s m args below meth c G bs Q cells slots pc L st h := fun H ls locs hH hS hL => lv_goto C.1 C.2.1 hd ht (kk H ls locs hH hS hL)
theorem x_ifnull (C : Cx p s m args meth c G own cc nL ret) {x : Nat} {off : Int} (hd : decode cc pc = .ok (.ifnull off, 3)) (kk : X p l e R s m args below meth c G bs Q cells slots (pc + 3) L st h) : X p l e R s m args below meth c G bs Q cells slots pc L (.ref x :: st) h := fun H ls locs hH hS hL => lv_ifnull C.1 C.2.1 hd (kk H ls locs hH hS hL)
theorem x_ifnullN (C : Cx p s m args meth c G own cc nL ret) {off : Int} (hd : decode cc pc = .ok (.ifnull off, 3)) (tgt : Nat) (kk : X p l e R s m args below meth c G bs Q cells slots tgt L st h) (ht : (pc : Int) + off = (tgt : Int) := by decide) : X p l e R s m args below meth c G bs Q cells slots pc L (.null :: st) h := fun H ls locs hH hS hL => lv_ifnullN C.1 C.2.1 hd ht (kk H ls locs hH hS hL)
theorem x_ifnonnull (C : Cx p s m args meth c G own cc nL ret) {x : Nat} {off : Int} (hd : decode cc pc = .ok (.ifnonnull off, 3)) (tgt : Nat) (kk : X p l e R s m args below meth c G bs Q cells slots tgt L st h) (ht : (pc : Int) + off = (tgt : Int) := by decide) : X p l e R s m args below meth c G bs Q cells slots pc L (.ref x :: st) h := fun H ls locs hH hS hL => lv_ifnonnull C.1 C.2.1 hd ht (kk H ls locs hH hS hL)
theorem x_ifnonnullN (C : Cx p s m args meth c G own cc nL ret) {off : Int} (hd : decode cc pc = .ok (.ifnonnull off, 3)) (kk : X p l e R s m args below meth c G bs Q cells slots (pc + 3) L st h) : X p l e R s m args below meth c G bs Q cells slots pc L (.null :: st) h := fun H ls locs hH hS hL => lv_ifnonnullN C.1 C.2.1 hd (kk H ls locs hH hS hL)
theorem x_tabO (C : Cx p s m args meth c G own cc nL ret) {dflt lo hi : Int} {offs : Array Int} {len : Nat} {x : Int32} (hd : decode cc pc = .ok (.tableswitch dflt lo hi offs, len)) (tgt : Nat) (hx : x.toInt < lo ∨ hi < x.toInt) (kk : X p l e R s m args below meth c G bs Q cells slots tgt L st h) (ht : (pc : Int) + dflt = (tgt : Int) := by decide) : X p l e R s m args below meth c G bs Q cells slots pc L (.int x :: st) h := fun H ls locs hH hS hL => lv_tableOut C.1 C.2.1 hd hx ht (kk H ls locs hH hS hL)
theorem x_tabI (C : Cx p s m args meth c G own cc nL ret) {dflt lo hi : Int} {offs : Array Int} {len : Nat} {x : Int32} (j : Nat) {off : Int} (hd : decode cc pc = .ok (.tableswitch dflt lo hi offs, len)) (tgt : Nat) (hx : x.toInt = lo + j) (hj : lo + j ≤ hi) (ho : offs[j]? = some off) (kk : X p l e R s m args below meth c G bs Q cells slots tgt L st h) (ht : (pc : Int) + off = (tgt : Int) := by decide) : X p l e R s m args below meth c G bs Q cells slots pc L (.int x :: st) h := fun H ls locs hH hS hL => lv_tableIn C.1 C.2.1 hd (by omega) (by omega) (by rw [show (x.toInt - lo).toNat = j by omega]; exact ho) ht (kk H ls locs hH hS hL)
theorem x_lx (C : Cx p s m args meth c G own cc nL ret) (L' : List (Option Value)) (kk : X p l e R s m args below meth c G bs Q cells slots pc L' st h) (hs : ∀ (i : Nat) (v : Value), L'[i]? = some (some v) → L[i]? = some (some v)) : X p l e R s m args below meth c G bs Q cells slots pc L st h := fun H ls locs hH hS hL => kk H ls locs hH hS (hL.sub hs)
theorem x_wd (C : Cx p s m args meth c G own cc nL ret) {k n : Nat} (h1 : cells ≤ k) (h2 : slots ≤ n) (kk : X p l e R s m args below meth c G bs Q k n pc L st h) : X p l e R s m args below meth c G bs Q cells slots pc L st h := fun H ls locs hH hS hL => W.widen h1 h2 (kk H ls locs hH hS hL)
/-- a value by another name -/
theorem x_top {x : Int32} (y : Int32) (hx : x = y) (kk : X p l e R s m args below meth c G bs Q cells slots pc L (.int y :: st) h) : X p l e R s m args below meth c G bs Q cells slots pc L (.int x :: st) h := hx ▸ kk
theorem x_top2 {v : Value} {x : Int32} (y : Int32) (hx : x = y) (kk : X p l e R s m args below meth c G bs Q cells slots pc L (v :: .int y :: st) h) : X p l e R s m args below meth c G bs Q cells slots pc L (v :: .int x :: st) h := hx ▸ kk
theorem x_hp (h' : xh) (hh : h = h') (kk : X p l e R s m args below meth c G bs Q cells slots pc L st h') : X p l e R s m args below meth c G bs Q cells slots pc L st h := hh ▸ kk
theorem x_nm (P : Int32 → Prop) {x : Int32} (hx : P x) (kk : ∀ y, P y → X p l e R s m args below meth c G bs Q cells slots pc L (.int y :: st) h) : X p l e R s m args below meth c G bs Q cells slots pc L (.int x :: st) h := kk x hx
theorem x_get (C : Cx p s m args meth c G own cc nL ret) {idx ci k a : Nat} {fs : List Value} {v : Value} (hf : FL own idx ci k) (hd : decode cc pc = .ok (.getfield idx, 3)) (hh : h.1 a = some (eO ci fs) := by first | assumption | exact x_set_eq | exact x_set_ne (by omega) (by first | assumption | exact x_set_eq | exact x_set_ne (by omega) (by first | assumption | exact x_set_eq | exact x_set_ne (by omega) (by first | assumption | exact x_set_eq | exact x_set_ne (by omega) (by first | assumption | exact x_set_eq | exact x_set_ne (by omega) (by assumption)))))) (hv : fs[k]? = some v := by rfl) (kk : (X p l e R s m args below meth c G bs Q cells slots (pc + 3) L (v :: st) h)) : X p l e R s m args below meth c G bs Q cells slots pc L (.ref a :: st) h := by
  obtain ⟨r, h1, h2, h3, h4⟩ := hf
  intro H ls locs hH hS hL
  exact va_get C.1 C.2.1 C.2.2.2.2.1 h4 C.2.2.2.2.2.1 C.2.2.2.2.2.2.2.1 (hH.one hh) 0 rfl h1 k h2 (C.2.2.2.2.1 _ h3) (fun _ q => q) hv hd (kk H ls locs hH hS hL)
theorem x_put (C : Cx p s m args meth c G own cc nL ret) {idx ci k a : Nat} {fs : List Value} {v : Value} {ty : FieldType} (hf : FP own idx ci k ty false) (hd : decode cc pc = .ok (.putfield idx, 3)) (hh : h.1 a = some (eO ci fs) := by first | assumption | exact x_set_eq | exact x_set_ne (by omega) (by first | assumption | exact x_set_eq | exact x_set_ne (by omega) (by first | assumption | exact x_set_eq | exact x_set_ne (by omega) (by first | assumption | exact x_set_eq | exact x_set_ne (by omega) (by first | assumption | exact x_set_eq | exact x_set_ne (by omega) (by assumption)))))) (hn : narrow ty v = v := by rfl) (hfit : fits ty v = true := by rfl) (hl : k < fs.length := by exact Nat.le_of_ble_eq_true rfl) (kk : (X p l e R s m args below meth c G bs Q cells slots (pc + 3) L st (x_set h a (eO ci (fs.set k v))))) : X p l e R s m args below meth c G bs Q cells slots pc L (v :: .ref a :: st) h := by
  obtain ⟨r, h1, h2, h3, h4, ⟨ty0, h5⟩, h6, h7, h8, -⟩ := hf
  obtain ⟨C0, T, N⟩ := r
  intro H ls locs hH hS hL
  have hK := C.2.2.2.2.2.2.2.1
  have hap := va_apart (own := own) C.2.2.2.2.1 h4 ty0 h5 h6 hK h1
  obtain ⟨r', g1, cell, q1, q2, q3, q4⟩ := (hH.2.2 a _ hh).2
  have hr : r' = (C0, T, N) := Option.some.inj (g1.symm.trans h1)
  subst hr
  obtain ⟨hSl, hfc, kC, hkC, hkind⟩ := hK.1 ci _ h1
  obtain ⟨cf, kf, fi, f, hi, hsl⟩ := hSl k h2
  have hlay := C.2.2.2.2.1 _ (h4 _ (u_in_lay h2))
  unfold u_lay at hlay
  rw [if_neg (by rw [h8]; decide)] at hlay
  have hst := (u_facts hfc hkC (u_lays C.2.2.2.2.1 h4 h2) hi).1
  have h9 := u_store hfc hkC hkind hlay hi h7 hn hfit
  refine W.putK C.1 C.2.1 (f := f) ⟨C.2.2.2.2.2.1, C.2.2.2.2.1 _ h3, ⟨_, _, _, hi⟩, hst⟩ (by rw [q2]; exact h9) q1 q3 (by rw [hsl]; exact k2_hasslot (q4 k h2)) rfl rfl hd fun H' e1 e2 e3 => ?_
  rw [hsl] at e1 ⊢
  exact kk H' ls _ (hH.put hh e2 e3 ⟨_, h1, t_OB.to (V := updV (vp_V fs) k v) ⟨_, e1, q2, q3, t_set q4 hap h2 v⟩ (fun j _ => vp_updV_set hl v j)⟩) (hS.put e2 e3 (hH.2.2 a _ hh).1) hL
theorem x_putF (C : Cx p s m args meth c G own cc nL ret) {idx ci k a : Nat} {fs : List Value} {v : Value} {ty : FieldType} (hini : meth.name = "<init>") (hf : FP own idx ci k ty true) (hd : decode cc pc = .ok (.putfield idx, 3)) (hh : h.1 a = some (eO ci fs) := by first | assumption | exact x_set_eq | exact x_set_ne (by omega) (by first | assumption | exact x_set_eq | exact x_set_ne (by omega) (by first | assumption | exact x_set_eq | exact x_set_ne (by omega) (by first | assumption | exact x_set_eq | exact x_set_ne (by omega) (by first | assumption | exact x_set_eq | exact x_set_ne (by omega) (by assumption)))))) (hn : narrow ty v = v := by rfl) (hfit : fits ty v = true := by rfl) (hl : k < fs.length := by exact Nat.le_of_ble_eq_true rfl) (kk : (X p l e R s m args below meth c G bs Q cells slots (pc + 3) L st (x_set h a (eO ci (fs.set k v))))) : X p l e R s m args below meth c G bs Q cells slots pc L (v :: .ref a :: st) h := by
  obtain ⟨r, h1, h2, h3, h4, ⟨ty0, h5⟩, h6, h7, h8, h10⟩ := hf
  obtain ⟨C0, T, N⟩ := r
  have h10 := h10 rfl
  intro H ls locs hH hS hL
  have hK := C.2.2.2.2.2.2.2.1
  have hap := va_apart (own := own) C.2.2.2.2.1 h4 ty0 h5 h6 hK h1
  obtain ⟨r', g1, cell, q1, q2, q3, q4⟩ := (hH.2.2 a _ hh).2
  have hr : r' = (C0, T, N) := Option.some.inj (g1.symm.trans h1)
  subst hr
  obtain ⟨hSl, hfc, kC, hkC, hkind⟩ := hK.1 ci _ h1
  obtain ⟨cf, kf, fi, f, hi, hsl⟩ := hSl k h2
  have hst := (u_facts hfc hkC (u_lays C.2.2.2.2.1 h4 h2) hi).1
  have h9 := u_fits hfc hkC hkind (u_lays C.2.2.2.2.1 h4 h2) hi h7 hn hfit
  have hlay := C.2.2.2.2.1 _ (h4 _ (u_in_lay h2))
  unfold u_lay at hlay
  rw [if_pos h8] at hlay
  have hcf : m.cls = cf := by
    obtain ⟨_, _, c', _, _, _, -, -, hf', -, -, -, hown2, -⟩ := Cond.laysFinal_spec hlay
    have e1 : c' = cf := by have := hi.symm.trans hf'; simp at this; exact this.1.symm
    rw [h10] at hown2
    rw [← e1]
    exact Option.some.inj (C.2.2.2.2.2.1.symm.trans hown2)
  refine W.putFinK C.1 C.2.1 C.2.2.2.2.2.1 (C.2.2.2.2.1 _ h3) hi hst hcf hini (by rw [q2]; exact h9) q1 q3 (by rw [hsl]; exact k2_hasslot (q4 k h2)) rfl rfl hd fun H' e1 e2 e3 => ?_
  rw [hsl] at e1 ⊢
  exact kk H' ls _ (hH.put hh e2 e3 ⟨_, h1, t_OB.to (V := updV (vp_V fs) k v) ⟨_, e1, q2, q3, t_set q4 hap h2 v⟩ (fun j _ => vp_updV_set hl v j)⟩) (hS.put e2 e3 (hH.2.2 a _ hh).1) hL
theorem x_iald (C : Cx p s m args meth c G own cc nL ret) {a n : Nat} {f : Nat → Int32} {x : Int32} (j : Nat) (hd : decode cc pc = .ok (.iaload, 1)) (hx : x = nI j := by rfl) (hh : h.1 a = some (eI G n f) := by first | assumption | exact x_set_eq | exact x_set_ne (by omega) (by first | assumption | exact x_set_eq | exact x_set_ne (by omega) (by first | assumption | exact x_set_eq | exact x_set_ne (by omega) (by first | assumption | exact x_set_eq | exact x_set_ne (by omega) (by first | assumption | exact x_set_eq | exact x_set_ne (by omega) (by assumption)))))) (hj : j < n := by omega) (hn : n < 2 ^ 31 := by omega) (kk : (X p l e R s m args below meth c G bs Q cells slots (pc + 1) L (.int (f j) :: st) h)) : X p l e R s m args below meth c G bs Q cells slots pc L (.int x :: .ref a :: st) h := by
  subst hx
  intro H ls locs hH hS hL
  have kk := kk H ls locs hH hS hL
  have e := nI_clamp (n := j) (by omega)
  refine va_iald C.1 C.2.1 C.2.2.2.2.2.2.2.1 (hH.one hh) 0 0 rfl rfl (vp_in_nI hj hn) hd ?_
  rw [e]
  exact kk
theorem x_iast (C : Cx p s m args meth c G own cc nL ret) {a n : Nat} {f : Nat → Int32} {x y : Int32} (j : Nat) (hd : decode cc pc = .ok (.iastore, 1)) (hx : x = nI j := by rfl) (hh : h.1 a = some (eI G n f) := by first | assumption | exact x_set_eq | exact x_set_ne (by omega) (by first | assumption | exact x_set_eq | exact x_set_ne (by omega) (by first | assumption | exact x_set_eq | exact x_set_ne (by omega) (by first | assumption | exact x_set_eq | exact x_set_ne (by omega) (by first | assumption | exact x_set_eq | exact x_set_ne (by omega) (by assumption)))))) (hj : j < n := by omega) (hn : n < 2 ^ 31 := by omega) (kk : (X p l e R s m args below meth c G bs Q cells slots (pc + 1) L st (x_set h a (eI G n (upd f j y))))) : X p l e R s m args below meth c G bs Q cells slots pc L (.int y :: .int x :: .ref a :: st) h := by
  subst hx
  intro H ls locs hH hS hL
  have e : (nI j).toNatClampNeg = j := nI_clamp (by omega)
  have hc : H[a]? = some (vp_cell (G.2 0) (n, .inl f)) := (hH.2.2 a _ hh).2
  refine W.iast C.1 C.2.1 hc ((C.2.2.2.2.2.2.2.1.2 0 _ rfl).1 n (fun j => .int (f j))) (fun q => by cases q) (by show ¬ (nI j < 0 ∨ (arrV _ _ _).slots.size ≤ _); rw [arrV_size]; exact vp_in_nI hj hn) rfl rfl hd fun H1 e1 z oq => ?_
  refine kk H1 ls _ (hH.put hh z oq ?_) (hS.put z oq (hH.2.2 a _ hh).1) hL
  show H1[a]? = some (vp_cell _ _)
  rw [e1, e, vp_cell_i, vp_cell_i, arrV_store]
  congr 2
  funext q
  by_cases hq : q = j
  · subst hq
    simp [updV, upd]
  · simp [updV, upd, hq]
theorem x_alen (C : Cx p s m args meth c G own cc nL ret) {a n : Nat} {f : Nat → Int32} (hd : decode cc pc = .ok (.arraylength, 1)) (hh : h.1 a = some (eI G n f) := by first | assumption | exact x_set_eq | exact x_set_ne (by omega) (by first | assumption | exact x_set_eq | exact x_set_ne (by omega) (by first | assumption | exact x_set_eq | exact x_set_ne (by omega) (by first | assumption | exact x_set_eq | exact x_set_ne (by omega) (by first | assumption | exact x_set_eq | exact x_set_ne (by omega) (by assumption)))))) (kk : (X p l e R s m args below meth c G bs Q cells slots (pc + 1) L (.int (nI n) :: st) h)) : X p l e R s m args below meth c G bs Q cells slots pc L (.ref a :: st) h := fun H ls locs hH hS hL =>
  va_alen C.1 C.2.1 C.2.2.2.2.2.2.2.1 (hH.one hh) 0 0 rfl rfl rfl hd (kk H ls locs hH hS hL)
theorem x_aald (C : Cx p s m args meth c G own cc nL ret) {a n t : Nat} {f : Nat → Option Nat} {x : Int32} (j : Nat) {cn : String} (hd : decode cc pc = .ok (.aaload, 1)) (ht : (x_tys G)[t]? = some (G.2 t, .object cn) := by rfl) (hx : x = nI j := by rfl) (hh : h.1 a = some (eR G t n f) := by first | assumption | exact x_set_eq | exact x_set_ne (by omega) (by first | assumption | exact x_set_eq | exact x_set_ne (by omega) (by first | assumption | exact x_set_eq | exact x_set_ne (by omega) (by first | assumption | exact x_set_eq | exact x_set_ne (by omega) (by first | assumption | exact x_set_eq | exact x_set_ne (by omega) (by assumption)))))) (hj : j < n := by omega) (hn : n < 2 ^ 31 := by omega) (kk : (X p l e R s m args below meth c G bs Q cells slots (pc + 1) L (va_rf (f j) :: st) h)) : X p l e R s m args below meth c G bs Q cells slots pc L (.int x :: .ref a :: st) h := by
  subst hx
  intro H ls locs hH hS hL
  have kk := kk H ls locs hH hS hL
  have e := nI_clamp (n := j) (by omega)
  refine va_aldq C.1 C.2.1 C.2.2.2.2.2.2.2.1 (hH.one hh) 0 t rfl ht (vp_in_nI hj hn) hd ?_
  rw [e]
  exact kk
theorem x_aast (C : Cx p s m args meth c G own cc nL ret) {a n t v ci : Nat} {f : Nat → Option Nat} {vs : List Value} {x : Int32} (j : Nat) {r : vw_C} (hd : decode cc pc = .ok (.aastore, 1)) (ht : (x_tys G)[t]? = some (G.2 t, .object r.1)) (hci : vwCl[ci]? = some r) (hx : x = nI j := by rfl) (hh : h.1 a = some (eR G t n f) := by first | assumption | exact x_set_eq | exact x_set_ne (by omega) (by first | assumption | exact x_set_eq | exact x_set_ne (by omega) (by first | assumption | exact x_set_eq | exact x_set_ne (by omega) (by first | assumption | exact x_set_eq | exact x_set_ne (by omega) (by first | assumption | exact x_set_eq | exact x_set_ne (by omega) (by assumption)))))) (hv : h.1 v = some (eO ci vs) := by first | assumption | exact x_set_eq | exact x_set_ne (by omega) (by first | assumption | exact x_set_eq | exact x_set_ne (by omega) (by first | assumption | exact x_set_eq | exact x_set_ne (by omega) (by first | assumption | exact x_set_eq | exact x_set_ne (by omega) (by first | assumption | exact x_set_eq | exact x_set_ne (by omega) (by assumption)))))) (hj : j < n := by omega) (hn : n < 2 ^ 31 := by omega) (kk : (X p l e R s m args below meth c G bs Q cells slots (pc + 1) L st (x_set h a (eR G t n (va_up f j (some v)))))) : X p l e R s m args below meth c G bs Q cells slots pc L (.ref v :: .int x :: .ref a :: st) h := by
  subst hx
  intro H ls locs hH hS hL
  have e : (nI j).toNatClampNeg = j := nI_clamp (by omega)
  have hK := C.2.2.2.2.2.2.2.1
  have hc : H[a]? = some (vp_cell (G.2 t) (n, .inr (.inr (.inr (.inr f))))) := (hH.2.2 a _ hh).2
  obtain ⟨r', hr', cellV, g1, g2, g3, -⟩ := (hH.2.2 v _ hv).2
  have hcls := (hK.1 ci r hci).2
  obtain ⟨kA, comp, k1, k2, k3, -⟩ := (hK.2 t _ ht).2
  have hcomp : comp = G.1.1 ci := Option.some.inj (k3.symm.trans hcls.1)
  subst hcomp
  obtain ⟨kC, hkC, -⟩ := hcls.2
  refine W.aast C.1 C.2.1 hc (fun q h => by cases h) (fun h => by cases h) k1 k2 rfl hkC ⟨nI_pos (by omega), by show _ < (arrV _ _ _).slots.size; rw [arrV_size, e]; exact hj⟩ g1 (fun q h => by rw [g3] at h; cases h) (by rw [g2]; exact hkC) (by rw [g2]; exact va_assign hcls) rfl rfl hd fun H1 e1 z oq => ?_
  refine kk H1 ls _ (hH.put hh z oq ?_) (hS.put z oq (hH.2.2 a _ hh).1) hL
  show H1[a]? = some (vp_cell _ _)
  rw [e1, e, vp_cell_q, vp_cell_q, arrV_store]
  congr 2
  funext q
  by_cases hq : q = j
  · subst hq
    simp [updV, va_up, va_rf]
  · simp [updV, va_up, hq]
theorem x_aastN (C : Cx p s m args meth c G own cc nL ret) {a n t : Nat} {f : Nat → Option Nat} {x : Int32} (j : Nat) {cn : String} (hd : decode cc pc = .ok (.aastore, 1)) (ht : (x_tys G)[t]? = some (G.2 t, .object cn)) (hx : x = nI j := by rfl) (hh : h.1 a = some (eR G t n f) := by first | assumption | exact x_set_eq | exact x_set_ne (by omega) (by first | assumption | exact x_set_eq | exact x_set_ne (by omega) (by first | assumption | exact x_set_eq | exact x_set_ne (by omega) (by first | assumption | exact x_set_eq | exact x_set_ne (by omega) (by first | assumption | exact x_set_eq | exact x_set_ne (by omega) (by assumption)))))) (hj : j < n := by omega) (hn : n < 2 ^ 31 := by omega) (kk : (X p l e R s m args below meth c G bs Q cells slots (pc + 1) L st (x_set h a (eR G t n (va_up f j none))))) : X p l e R s m args below meth c G bs Q cells slots pc L (.null :: .int x :: .ref a :: st) h := by
  subst hx
  intro H ls locs hH hS hL
  have e : (nI j).toNatClampNeg = j := nI_clamp (by omega)
  have hc : H[a]? = some (vp_cell (G.2 t) (n, .inr (.inr (.inr (.inr f))))) := (hH.2.2 a _ hh).2
  refine va_WaastN (C := cn) C.1 C.2.1 hc ((C.2.2.2.2.2.2.2.1.2 t _ ht).1 n (fun j => va_rf (f j))) (fun h => by cases h) (by show ¬ (nI j < 0 ∨ (arrV _ _ _).slots.size ≤ _); rw [arrV_size]; exact vp_in_nI hj hn) rfl rfl hd fun H1 e1 z oq => ?_
  refine kk H1 ls _ (hH.put hh z oq ?_) (hS.put z oq (hH.2.2 a _ hh).1) hL
  show H1[a]? = some (vp_cell _ _)
  rw [e1, e, vp_cell_q, vp_cell_q, arrV_store]
  congr 2
  funext q
  by_cases hq : q = j
  · subst hq
    simp [updV, va_up, va_rf]
  · simp [updV, va_up, hq]
theorem x_obj (C : Cx p s m args meth c G own cc nL ret) {idx ci N : Nat} {cn : String} {T : u_T} {fs : List Value} (ty : Nat → FieldType) (hc : vwCl[ci]? = some (cn, T, N)) (hin : ∀ w ∈ u_ws cn T N, w ∈ TB) (hty : ∀ k, k < N → parseFieldDescriptor (T k).2.2.1 = some (ty k)) (hcl : Cond.classLink own idx cn ∈ TB) (hinst : Cond.instantiable cn N ∈ TB) (hini : Cond.initialized cn ∈ TB) (hfs : ∀ j, j < N → defaultValue (ty j) = vp_V fs j) (hd : decode cc pc = .ok (.new idx, 3)) (hcells : cells + 1 ≤ R.cells := by exact Nat.le_of_ble_eq_true rfl) (hslots : slots + N ≤ R.slots := by exact Nat.le_of_ble_eq_true rfl) (kk : X p l e R s m args below meth c G bs Q (cells + 1) (slots + N) (pc + 3) L (.ref h.2 :: st) (x_new h (eO ci fs))) : X p l e R s m args below meth c G bs Q cells slots pc L st h := by
  intro H ls locs hH hS hL
  have hKn := C.2.2.2.2.2.2.2.1.1 ci _ hc
  refine W.newcK C.1 C.2.1 C.2.2.2.2.2.1 (C.2.2.2.2.1 _ hcl) (C.2.2.2.2.1 _ hinst) (C.2.2.2.2.1 _ hini) rfl hd hcells hslots hKn.2.1 hH.1 fun H1 kC hkC e1 z1 o1 => ?_
  have o2 : ∀ q : Nat, q < H.size → H1[q]? = H[q]? := fun q hq => o1 q (by rw [← hH.1]; exact hq)
  refine kk H1 ls locs (hH.new (by rw [hH.1]; exact z1) o2 ⟨_, hc, (u_born ty C.2.2.2.2.1 hin hKn hkC (by rw [hH.1]; exact e1) hty).to hfs⟩) ⟨Nat.le_trans hS.1 (by rw [z1, hH.1]; omega), fun x h1 h2 => (o2 x (Nat.lt_of_lt_of_le h1 hS.1)).trans (hS.2.1 x h1 h2), hS.2.2⟩ hL
theorem x_newi (C : Cx p s m args meth c G own cc nL ret) {x : Int32} (N : Nat) (harr : Cond.arrayClass .int ∈ TB) (hd : decode cc pc = .ok (.newarray .int, 2)) (hx : x = nI N := by rfl) (hN : N < 134217728 := by omega) (hcells : cells + 1 ≤ R.cells := by exact Nat.le_of_ble_eq_true rfl) (hslots : slots + N ≤ R.slots := by exact Nat.le_of_ble_eq_true rfl) (kk : X p l e R s m args below meth c G bs Q (cells + 1) (slots + N) (pc + 2) L (.ref h.2 :: st) (x_new h (eI G N (fun _ => 0)))) : X p l e R s m args below meth c G bs Q cells slots pc L (.int x :: st) h := by
  subst hx
  intro H ls locs hH hS hL
  have hle : N * componentBytes (newarray.typeOf .int) ≤ 536870912 := by
    show N * 4 ≤ 536870912
    omega
  refine va_newaK (N := N) (atype := .int) C.1 C.2.1 (C.2.2.2.2.1 _ harr) rfl hd rfl (nI_pos (by omega)) (nI_clamp (by omega)) hle hcells hslots hH.1 fun H1 cA e1 z1 o1 hAr hNm => ?_
  have hcA : cA = G.2 0 := Option.some.inj (hNm.symm.trans (C.2.2.2.2.2.2.2.1.2 0 _ rfl).2)
  have o2 : ∀ q : Nat, q < H.size → H1[q]? = H[q]? := fun q hq => o1 q (by rw [← hH.1]; exact hq)
  refine kk H1 ls locs (hH.new (by rw [hH.1]; exact z1) o2 ?_) ⟨Nat.le_trans hS.1 (by rw [z1, hH.1]; omega), fun x h1 h2 => (o2 x (Nat.lt_of_lt_of_le h1 hS.1)).trans (hS.2.1 x h1 h2), hS.2.2⟩ hL
  show H1[H.size]? = some (vp_cell _ _)
  rw [hH.1, e1, hcA]
  rfl
theorem x_newr (C : Cx p s m args meth c G own cc nL ret) {x : Int32} {idx t : Nat} {cn : String} (N : Nat) (ht : (x_tys G)[t]? = some (G.2 t, .object cn)) (hao : ∀ U, x_K G U → va_AO cn U) (hcl : Cond.classLink own idx cn ∈ TB) (hd : decode cc pc = .ok (.anewarray idx, 3)) (hx : x = nI N := by rfl) (hN : N < 134217728 := by omega) (hcells : cells + 1 ≤ R.cells := by exact Nat.le_of_ble_eq_true rfl) (hslots : slots + N ≤ R.slots := by exact Nat.le_of_ble_eq_true rfl) (kk : X p l e R s m args below meth c G bs Q (cells + 1) (slots + N) (pc + 3) L (.ref h.2 :: st) (x_new h (eR G t N (fun _ => none)))) : X p l e R s m args below meth c G bs Q cells slots pc L (.int x :: st) h := by
  subst hx
  intro H ls locs hH hS hL
  have e : (nI N).toNatClampNeg = N := nI_clamp (by omega)
  refine W.anew C.1 C.2.1 C.2.2.2.2.2.1 (C.2.2.2.2.1 _ hcl) (va_AO.use (hao s C.2.2.2.2.2.2.2)) rfl hd rfl (nI_pos (by omega)) (by rw [e]; omega) hcells (by rw [e]; exact hslots) fun cA kA comp f1 f2 f3 f4 => ?_
  rw [e]
  have hRA := (C.2.2.2.2.2.2.2.1.2 t _ ht).2
  obtain ⟨kA', comp', g1, g2, g3, g4⟩ := hRA
  have hcA : cA = G.2 t := Option.some.inj (f1.symm.trans g4)
  generalize hH1 : H.push ({ cls := cA, slots := Array.replicate N .null, vm := .none } : Cell) = H1
  have z1 : H1.size = H.size + 1 := by rw [← hH1, Array.size_push]
  have o2 : ∀ q : Nat, q < H.size → H1[q]? = H[q]? := fun q hq => by rw [← hH1, Array.getElem?_push, if_neg (Nat.ne_of_lt hq)]
  rw [hH.1]
  refine kk H1 ls locs (hH.new z1 o2 ?_) ⟨Nat.le_trans hS.1 (by omega), fun x h1 h2 => (o2 x (Nat.lt_of_lt_of_le h1 hS.1)).trans (hS.2.1 x h1 h2), hS.2.2⟩ hL
  show H1[H.size]? = some (vp_cell _ _)
  rw [← hH1, Array.getElem?_push_size, hcA, arrV_new]
  rfl
theorem x_oinit (C : Cx p s m args meth c G own cc nL ret) {idx a : Nat} (h1 : Cond.methodLink own idx objectInit ∈ TB) (hd : decode cc pc = .ok (.invokespecial idx, 3)) (h2 : Cond.instanceMethod objectInit ∈ TB) (h3 : Cond.code objectInit ⟨#[0xb1]⟩ 1 none ∈ TB) (hR : 1 ≤ R.frames := by exact Nat.le_of_ble_eq_true rfl) (hRl : (st.map fun v => v.category).sum + 12 ≤ R.locals := by exact Nat.le_of_ble_eq_true rfl) (kk : (X p l e R s m args below meth c G bs Q cells slots (pc + 3) L st h)) : X p l e R s m args below meth c G bs Q cells slots pc L (.ref a :: st) h := by
  intro H ls locs hH hS hL
  refine W.objInit C.1 C.2.1 C.2.2.2.2.2.1 (C.2.2.2.2.1 _ h1) (C.2.2.2.2.1 _ h2) (C.2.2.2.2.1 _ h3) rfl hL.1 rfl hd hR (by show 2 * 0 + _ + 12 ≤ _; omega) (kk H ls locs hH hS hL)
theorem x_iret (C : Cx p s m args meth c G own cc nL ret) {mc ms : Nat} {post : Option Value → xh → Prop} {v : Int32} (hr : ret = some .int) (hd : decode cc pc = .ok (.ireturn, 1)) (h1 : cells ≤ mc := by exact Nat.le_of_ble_eq_true rfl) (h2 : slots ≤ ms := by exact Nat.le_of_ble_eq_true rfl) (hp : post (some (.int v)) h) : X p l e R s m args below meth c G bs (MQ below (x_Q G bs post) args s mc ms (fun q => bs ≤ q)) cells slots pc L [.int v] h := fun H ls locs hH hS hL =>
  W.widen h1 h2 (W.iret C.1 C.2.1 (C.2.2.2.1.trans hr) (fun t ht hW => ⟨_, h, rfl, hp, by rw [ht]; exact hH, hS.F ht⟩) hS.2.2 hd C.2.2.2.2.2.2.1)
theorem x_zret (C : Cx p s m args meth c G own cc nL ret) {mc ms : Nat} {post : Option Value → xh → Prop} {v : Int32} (hr : ret = some .boolean) (hd : decode cc pc = .ok (.ireturn, 1)) (hz : v = 0 ∨ v = 1) (h1 : cells ≤ mc := by exact Nat.le_of_ble_eq_true rfl) (h2 : slots ≤ ms := by exact Nat.le_of_ble_eq_true rfl) (hp : post (some (.int v)) h) : X p l e R s m args below meth c G bs (MQ below (x_Q G bs post) args s mc ms (fun q => bs ≤ q)) cells slots pc L [.int v] h := fun H ls locs hH hS hL =>
  W.widen h1 h2 (W.zret C.1 C.2.1 (C.2.2.2.1.trans hr) (by rcases hz with rfl | rfl <;> rfl) (fun t ht hW => ⟨_, h, rfl, hp, by rw [ht]; exact hH, hS.F ht⟩) hS.2.2 hd C.2.2.2.2.2.2.1)
theorem x_vret (C : Cx p s m args meth c G own cc nL ret) {mc ms : Nat} {post : Option Value → xh → Prop} (hr : ret = none) (hd : decode cc pc = .ok (.return_, 1)) (h1 : cells ≤ mc := by exact Nat.le_of_ble_eq_true rfl) (h2 : slots ≤ ms := by exact Nat.le_of_ble_eq_true rfl) (hp : post none h) : X p l e R s m args below meth c G bs (MQ below (x_Q G bs post) args s mc ms (fun q => bs ≤ q)) cells slots pc L [] h := fun H ls locs hH hS hL =>
  W.widen h1 h2 (W.vret C.1 C.2.1 (C.2.2.2.1.trans hr) (fun t ht hW => ⟨_, h, rfl, hp, by rw [ht]; exact hH, hS.F ht⟩) hS.2.2 hd C.2.2.2.2.2.2.1)
theorem x_aret (C : Cx p s m args meth c G own cc nL ret) {mc ms : Nat} {post : Option Value → xh → Prop} {v : Value} {rt : FieldType} (hr : ret = some rt) (hrt : (∃ n, rt = .object n) ∨ ∃ t, rt = .array t) (hv : v = .null ∨ ∃ a, v = .ref a) (hd : decode cc pc = .ok (.areturn, 1)) (h1 : cells ≤ mc := by exact Nat.le_of_ble_eq_true rfl) (h2 : slots ≤ ms := by exact Nat.le_of_ble_eq_true rfl) (hp : post (some v) h) : X p l e R s m args below meth c G bs (MQ below (x_Q G bs post) args s mc ms (fun q => bs ≤ q)) cells slots pc L [v] h := fun H ls locs hH hS hL =>
  W.widen h1 h2 (W.aret C.1 C.2.1 (C.2.2.2.1.trans hr) hrt hv (fun t ht hW => ⟨_, h, rfl, hp, by rw [ht]; exact hH, hS.F ht⟩) hS.2.2 hd C.2.2.2.2.2.2.1)
theorem x_blind {av : List Value} {g0 : xh} : FrameBlind (fun v U => v = av.toArray ∧ x_H G bs g0 U.heap ∧ x_K G U) := fun a U g mk q => ⟨q.1, q.2.1, q.2.2.vm rfl⟩
theorem x_run (C : Cx p s m args meth c G own cc nL ret) {mc ms : Nat} {post : Option Value → xh → Prop} {rest st0 : List Value} {av : Array Value} {H : Heap} {ls : Array Slot} {locs : List Loc} (hH : x_H G bs h H) (hS : va_S (fun q => bs ≤ q) s.heap H locs) (hL : x_L ls c.maxLocals L)
    (hr : va_Run p l e R s m args below meth c H locs cells slots mc ms (F0 m pc ls st0) rest (x_Q G bs post av) (fun q => bs ≤ q))
    (kk : ∀ (r : Option Value) (h' : xh), post r h' → X p l e R s m args below meth c G bs Q (cells + mc) (slots + ms) (pc + 3) L (r.toList ++ rest) h') : W p l e R s m args below meth c H locs cells slots Q (F0 m pc ls st0) := by
  intro T hT X0
  obtain ⟨v, st₀, t, T', L1, h0, X', hL1, e1, e2, ⟨r, h', hv, hp, hH', hF⟩, sg⟩ := hr T hT X0
  cases hv
  obtain ⟨hz, hk⟩ := hF
  rw [h0] at hz hk
  obtain ⟨t2, a1, b1⟩ := kk v h' hp t.heap ls (locs ++ L1) hH' ⟨Nat.le_trans hS.1 hz, fun q h1 h2 => (hk q (Nat.lt_of_lt_of_le h1 hS.1) h2).trans (hS.2.1 q h1 h2), fun q hq => by
      rcases List.mem_append.mp hq with h | h
      · exact hS.2.2 q h
      · exact hL1 q h⟩ hL T' e1 X'
  exact ⟨t2, sg t2 a1, b1⟩
theorem x_fix (C : Cx p s m args meth c G own cc nL ret) : CallFix p m c cc nL s args TB own := ⟨C.1, C.2.1, C.2.2.1, C.2.2.2.2.2.1, C.2.2.2.2.1⟩
theorem x_callB (C : Cx p s m args meth c G own cc nL ret) {idx maxL n : Nat} {y : MethodName} {bytes : ByteArray} {rt : Option FieldType} {rm : Room} (hm : ML y bytes maxL rt n) (hl : Cond.methodLink own idx y ∈ TB) (hR : rm.frames + 1 ≤ R.frames ∧ 8 + (maxL + 11) + rm.locals ≤ R.locals) : CallB R s args own idx y bytes maxL rt (.code y bytes maxL rt :: TB) rm rm.cells rm.slots n :=
  callB_of n C.2.2.2.2.1 (x_goodC hm.1) rfl rfl rfl (C.2.2.2.2.1 _ hm.2.1) (C.2.2.2.2.1 _ hl) ⟨hm.2.2.1.1, hm.2.2.1.2, hm.2.2.2⟩ hR
theorem x_callN (C : Cx p s m args meth c G own cc nL ret) {idx maxL n : Nat} {y : MethodName} {bytes : ByteArray} {rt : Option FieldType} {rm : Room} (hm : ML y bytes maxL rt n) (hl : NL own idx y) (hR : rm.frames + 1 ≤ R.frames ∧ 8 + (maxL + 11) + rm.locals ≤ R.locals) : va_CN R s args own idx y "SignTables" bytes maxL rt (.code y bytes maxL rt :: TB) rm rm.cells rm.slots n :=
  va_cnB n C.2.2.2.2.1 (x_goodC hm.1) rfl rfl rfl (C.2.2.2.2.2.2.2.2.1 _ hl) (C.2.2.2.2.1 _ hm.2.1) ⟨hm.2.2.1.1, hm.2.2.1.2, hm.2.2.2⟩ hR
def RB (R rm : Room) (maxL cells slots : Nat) : Prop := (rm.frames + 1 ≤ R.frames ∧ 8 + (maxL + 11) + rm.locals ≤ R.locals) ∧ cells + rm.cells ≤ R.cells ∧ slots + rm.slots ≤ R.slots
theorem x_callV (C : Cx p s m args meth c G own cc nL ret) {idx maxL n b ci : Nat} {y : MethodName} {bytes : ByteArray} {rt : Option FieldType} {rm : Room} {As rest fs : List Value} {post : Option Value → xh → Prop} {r : vw_C} (hm : ML y bytes maxL rt n) (vl : VL own idx y) (ct : Ct l G y bytes maxL rt rm (.ref b :: As) h post) (hd : decode cc pc = .ok (.invokevirtual idx, 3))
    (kk : ∀ (r : Option Value) (h' : xh), post r h' → X p l e R s m args below meth c G bs Q (cells + rm.cells) (slots + rm.slots) (pc + 3) L (r.toList ++ rest) h')
    (hh : h.1 b = some (eO ci fs) := by first | assumption | exact x_set_eq | exact x_set_ne (by omega) (by first | assumption | exact x_set_eq | exact x_set_ne (by omega) (by first | assumption | exact x_set_eq | exact x_set_ne (by omega) (by first | assumption | exact x_set_eq | exact x_set_ne (by omega) (by first | assumption | exact x_set_eq | exact x_set_ne (by omega) (by assumption)))))) (hc : vwCl[ci]? = some r := by rfl) (hy : r.1 = y.cls := by rfl) (hst : st = As.reverse ++ .ref b :: rest := by rfl) (hn : As.length = n := by rfl) (hW : (rest.map fun v => v.category).sum ≤ 8 := by exact Nat.le_of_ble_eq_true rfl) (hR : RB R rm maxL cells slots := by exact ⟨⟨Nat.le_of_ble_eq_true rfl, Nat.le_of_ble_eq_true rfl⟩, Nat.le_of_ble_eq_true rfl, Nat.le_of_ble_eq_true rfl⟩) : X p l e R s m args below meth c G bs Q cells slots pc L st h := by
  intro H ls locs hH hS hL
  subst hst
  obtain ⟨r', hr', cell, g1, g2, g3, -⟩ := (hH.2.2 b _ hh).2
  have e : r' = r := Option.some.inj (hr'.symm.trans hc)
  subst e
  have hcl := (C.2.2.2.2.2.2.2.1.1 ci _ hc).2.1
  rw [hy] at hcl
  exact x_run C hH hS hL (va_runV (As := As) (rest := rest) (b := b) (x_fix C) (ct bs) ⟨x_callB C hm vl.1 hR.1, C.2.2.2.2.1 _ vl.2.1, C.2.2.2.2.1 _ vl.2.2⟩ ⟨x_blind, ⟨cell, g1, by rw [g3]; rfl, by rw [g2]; exact hcl⟩, fun U hU hW => ⟨rfl, by rw [hU]; exact hH, C.2.2.2.2.2.2.2.warm hW⟩⟩ rfl hn (hL.1.trans C.2.2.1) rfl (lv_room hW) hd hR.2) kk
theorem x_callS (C : Cx p s m args meth c G own cc nL ret) {idx maxL n : Nat} {y : MethodName} {bytes : ByteArray} {rt : Option FieldType} {rm : Room} {As rest : List Value} {post : Option Value → xh → Prop} (hm : ML y bytes maxL rt n) (vl : SL own idx y) (ct : Ct l G y bytes maxL rt rm As h post) (hd : decode cc pc = .ok (.invokestatic idx, 3))
    (kk : ∀ (r : Option Value) (h' : xh), post r h' → X p l e R s m args below meth c G bs Q (cells + rm.cells) (slots + rm.slots) (pc + 3) L (r.toList ++ rest) h')
    (hst : st = As.reverse ++ rest := by rfl) (hn : As.length = n := by rfl) (hW : (rest.map fun v => v.category).sum ≤ 8 := by exact Nat.le_of_ble_eq_true rfl) (hR : RB R rm maxL cells slots := by exact ⟨⟨Nat.le_of_ble_eq_true rfl, Nat.le_of_ble_eq_true rfl⟩, Nat.le_of_ble_eq_true rfl, Nat.le_of_ble_eq_true rfl⟩) : X p l e R s m args below meth c G bs Q cells slots pc L st h := by
  intro H ls locs hH hS hL
  subst hst
  exact x_run C hH hS hL (va_runS (As := As) (rest := rest) (x_fix C) (ct bs) ⟨x_callB C hm vl.1 hR.1, C.2.2.2.2.1 _ vl.2⟩ ⟨x_blind, fun U hU hW => ⟨rfl, by rw [hU]; exact hH, C.2.2.2.2.2.2.2.warm hW⟩⟩ rfl hn (hL.1.trans C.2.2.1) rfl (lv_room hW) hd hR.2) kk
theorem x_callSN (C : Cx p s m args meth c G own cc nL ret) {idx maxL n : Nat} {y : MethodName} {bytes : ByteArray} {rt : Option FieldType} {rm : Room} {As rest : List Value} {post : Option Value → xh → Prop} (hm : ML y bytes maxL rt n) (vl : NL own idx y) (vs : Cond.static y ∈ TB) (ct : Ct l G y bytes maxL rt rm As h post) (hd : decode cc pc = .ok (.invokestatic idx, 3))
    (kk : ∀ (r : Option Value) (h' : xh), post r h' → X p l e R s m args below meth c G bs Q (cells + rm.cells) (slots + rm.slots) (pc + 3) L (r.toList ++ rest) h')
    (hst : st = As.reverse ++ rest := by rfl) (hn : As.length = n := by rfl) (hW : (rest.map fun v => v.category).sum ≤ 8 := by exact Nat.le_of_ble_eq_true rfl) (hR : RB R rm maxL cells slots := by exact ⟨⟨Nat.le_of_ble_eq_true rfl, Nat.le_of_ble_eq_true rfl⟩, Nat.le_of_ble_eq_true rfl, Nat.le_of_ble_eq_true rfl⟩) : X p l e R s m args below meth c G bs Q cells slots pc L st h := by
  intro H ls locs hH hS hL
  subst hst
  exact x_run C hH hS hL (va_runSN (As := As) (rest := rest) (x_fix C) (ct bs) ⟨x_callN C hm vl hR.1, C.2.2.2.2.1 _ vs, trivial⟩ ⟨x_blind, fun U hU hW => ⟨rfl, by rw [hU]; exact hH, C.2.2.2.2.2.2.2.warm hW⟩⟩ rfl hn (hL.1.trans C.2.2.1) rfl (lv_room hW) hd hR.2) kk
theorem x_callI (C : Cx p s m args meth c G own cc nL ret) {idx maxL n b : Nat} {y : MethodName} {bytes : ByteArray} {rm : Room} {As rest : List Value} {post : Option Value → xh → Prop} (hm : ML y bytes maxL none n) (vl : IL own idx y) (ct : Ct l G y bytes maxL none rm (.ref b :: As) h post) (hd : decode cc pc = .ok (.invokespecial idx, 3))
    (kk : ∀ (r : Option Value) (h' : xh), post r h' → X p l e R s m args below meth c G bs Q (cells + rm.cells) (slots + rm.slots) (pc + 3) L (r.toList ++ rest) h')
    (hst : st = As.reverse ++ .ref b :: rest := by rfl) (hn : As.length = n := by rfl) (hW : (rest.map fun v => v.category).sum ≤ 8 := by exact Nat.le_of_ble_eq_true rfl) (hR : RB R rm maxL cells slots := by exact ⟨⟨Nat.le_of_ble_eq_true rfl, Nat.le_of_ble_eq_true rfl⟩, Nat.le_of_ble_eq_true rfl, Nat.le_of_ble_eq_true rfl⟩) : X p l e R s m args below meth c G bs Q cells slots pc L st h := by
  intro H ls locs hH hS hL
  subst hst
  exact x_run C hH hS hL (va_runI (As := As) (rest := rest) (b := b) (x_fix C) (ct bs) ⟨x_callB C hm vl.1 hR.1, vl.2.2, C.2.2.2.2.1 _ vl.2.1⟩ ⟨x_blind, fun U hU hW => ⟨rfl, by rw [hU]; exact hH, C.2.2.2.2.2.2.2.warm hW⟩⟩ rfl hn (hL.1.trans C.2.2.1) rfl (lv_room hW) hd hR.2) kk
theorem x_callIN (C : Cx p s m args meth c G own cc nL ret) {idx maxL n b : Nat} {y : MethodName} {bytes : ByteArray} {rm : Room} {As rest : List Value} {post : Option Value → xh → Prop} (hm : ML y bytes maxL none n) (vl : NL own idx y) (vi : y.name = "<init>" ∧ Cond.instanceMethod y ∈ TB) (ct : Ct l G y bytes maxL none rm (.ref b :: As) h post) (hd : decode cc pc = .ok (.invokespecial idx, 3))
    (kk : ∀ (r : Option Value) (h' : xh), post r h' → X p l e R s m args below meth c G bs Q (cells + rm.cells) (slots + rm.slots) (pc + 3) L (r.toList ++ rest) h')
    (hst : st = As.reverse ++ .ref b :: rest := by rfl) (hn : As.length = n := by rfl) (hW : (rest.map fun v => v.category).sum ≤ 8 := by exact Nat.le_of_ble_eq_true rfl) (hR : RB R rm maxL cells slots := by exact ⟨⟨Nat.le_of_ble_eq_true rfl, Nat.le_of_ble_eq_true rfl⟩, Nat.le_of_ble_eq_true rfl, Nat.le_of_ble_eq_true rfl⟩) : X p l e R s m args below meth c G bs Q cells slots pc L st h := by
  intro H ls locs hH hS hL
  subst hst
  exact x_run C hH hS hL (va_runIN (As := As) (rest := rest) (b := b) (x_fix C) (ct bs) ⟨x_callN C hm vl hR.1, vi.1, C.2.2.2.2.1 _ vi.2⟩ ⟨x_blind, fun U hU hW => ⟨rfl, by rw [hU]; exact hH, C.2.2.2.2.2.2.2.warm hW⟩⟩ rfl hn (hL.1.trans C.2.2.1) rfl (lv_room hW) hd hR.2) kk
end XR
