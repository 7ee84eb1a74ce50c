section JVR
variable {E : jv_E} {cc : ByteArray} {own : String} {nL : Nat} {h : jv_H} {ce sl : Nat} {Q : State → Prop} {pc q : Nat} {lo : List (Nat × Value)} {st : List Value}
theorem jv_iconst (G : jv_C E cc own nL) {n : Int} {v : Int32} (hd : decode cc pc = .ok (.iconst n, 1)) (hv : Int32.ofInt n = v) (hp : pc + 1 = q) (k : jv_V E nL h ce sl Q q lo (.int v :: st)) : jv_V E nL h ce sl Q pc lo st := by
  subst hp
  exact fun H locs ls hR hS hl => lv_iconst G.1 G.2.1 hd hv (k H locs ls hR hS hl)
theorem jv_bipush (G : jv_C E cc own nL) {n : Int} {v : Int32} (hd : decode cc pc = .ok (.bipush n, 2)) (hv : (Int8.ofInt n).toInt32 = v) (hp : pc + 2 = q) (k : jv_V E nL h ce sl Q q lo (.int v :: st)) : jv_V E nL h ce sl Q pc lo st := by
  subst hp
  exact fun H locs ls hR hS hl => lv_bipush G.1 G.2.1 hd hv (k H locs ls hR hS hl)
theorem jv_sipush (G : jv_C E cc own nL) {n : Int} {v : Int32} (hd : decode cc pc = .ok (.sipush n, 3)) (hv : (Int16.ofInt n).toInt32 = v) (hp : pc + 3 = q) (k : jv_V E nL h ce sl Q q lo (.int v :: st)) : jv_V E nL h ce sl Q pc lo st := by
  subst hp
  exact fun H locs ls hR hS hl => lv_sipush G.1 G.2.1 hd hv (k H locs ls hR hS hl)
theorem jv_lconst (G : jv_C E cc own nL) {n : Fin 2} {v : Int64} (hd : decode cc pc = .ok (.lconst n, 1)) (hv : Int64.ofNat (n : Nat) = v) (hp : pc + 1 = q) (k : jv_V E nL h ce sl Q q lo (.long v :: st)) : jv_V E nL h ce sl Q pc lo st := by
  subst hp
  exact fun H locs ls hR hS hl => lv_lconst G.1 G.2.1 hd hv (k H locs ls hR hS hl)
theorem jv_null (G : jv_C E cc own nL) (hd : decode cc pc = .ok (.aconst_null, 1)) (hp : pc + 1 = q) (k : jv_V E nL h ce sl Q q lo (.null :: st)) : jv_V E nL h ce sl Q pc lo st := by
  subst hp
  exact fun H locs ls hR hS hl => lv_null G.1 G.2.1 hd (k H locs ls hR hS hl)
theorem jv_iload_n (G : jv_C E cc own nL) (j : Nat) {n : Fin 4} {i : Nat} {x : Int32} (hd : decode cc pc = .ok (.iload_n n, 1)) (hi : (n : Nat) = i) (hj : lo[j]? = some (i, .int x)) (hp : pc + 1 = q) (k : jv_V E nL h ce sl Q q lo (.int x :: st)) : jv_V E nL h ce sl Q pc lo st := by
  subst hp
  exact fun H locs ls hR hS hl => lv_iload_n G.1 G.2.1 hd hi (lv_at hl j hj) (k H locs ls hR hS hl)
theorem jv_iload (G : jv_C E cc own nL) (j : Nat) {i : Nat} {x : Int32} (hd : decode cc pc = .ok (.iload i, 2)) (hj : lo[j]? = some (i, .int x)) (hp : pc + 2 = q) (k : jv_V E nL h ce sl Q q lo (.int x :: st)) : jv_V E nL h ce sl Q pc lo st := by
  subst hp
  exact fun H locs ls hR hS hl => lv_iload G.1 G.2.1 hd (lv_at hl j hj) (k H locs ls hR hS hl)
theorem jv_istore_n (G : jv_C E cc own nL) {lo' : List (Nat × Value)} {n : Fin 4} {i : Nat} {x : Int32} (hd : decode cc pc = .ok (.istore_n n, 1)) (hi : (n : Nat) = i) (hn : i < nL) (hl' : (i, Value.int x) :: lo.filter (fun q => !(q.1 == i) && !(q.1 + 1 == i && q.2.category == 2)) = lo') (hp : pc + 1 = q) (k : jv_V E nL h ce sl Q q lo' st) : jv_V E nL h ce sl Q pc lo (.int x :: st) := by
  subst hp
  exact fun H locs ls hR hS hl => lv_istore_n G.1 G.2.1 hd hi hl hn hl' (fun ls' h' => k H locs ls' hR hS h')
theorem jv_istore (G : jv_C E cc own nL) {lo' : List (Nat × Value)} {i : Nat} {x : Int32} (hd : decode cc pc = .ok (.istore i, 2)) (hn : i < nL) (hl' : (i, Value.int x) :: lo.filter (fun q => !(q.1 == i) && !(q.1 + 1 == i && q.2.category == 2)) = lo') (hp : pc + 2 = q) (k : jv_V E nL h ce sl Q q lo' st) : jv_V E nL h ce sl Q pc lo (.int x :: st) := by
  subst hp
  exact fun H locs ls hR hS hl => lv_istore G.1 G.2.1 hd hl hn hl' (fun ls' h' => k H locs ls' hR hS h')
theorem jv_lload_n (G : jv_C E cc own nL) (j : Nat) {n : Fin 4} {i : Nat} {x : Int64} (hd : decode cc pc = .ok (.lload_n n, 1)) (hi : (n : Nat) = i) (hj : lo[j]? = some (i, .long x)) (hp : pc + 1 = q) (k : jv_V E nL h ce sl Q q lo (.long x :: st)) : jv_V E nL h ce sl Q pc lo st := by
  subst hp
  exact fun H locs ls hR hS hl => lv_lload_n G.1 G.2.1 hd hi (lv_at hl j hj) (k H locs ls hR hS hl)
theorem jv_lload (G : jv_C E cc own nL) (j : Nat) {i : Nat} {x : Int64} (hd : decode cc pc = .ok (.lload i, 2)) (hj : lo[j]? = some (i, .long x)) (hp : pc + 2 = q) (k : jv_V E nL h ce sl Q q lo (.long x :: st)) : jv_V E nL h ce sl Q pc lo st := by
  subst hp
  exact fun H locs ls hR hS hl => lv_lload G.1 G.2.1 hd (lv_at hl j hj) (k H locs ls hR hS hl)
theorem jv_lstore_n (G : jv_C E cc own nL) {lo' : List (Nat × Value)} {n : Fin 4} {i : Nat} {x : Int64} (hd : decode cc pc = .ok (.lstore_n n, 1)) (hi : (n : Nat) = i) (hn : i + 1 < nL) (hl' : (i, Value.long x) :: lo.filter (fun q => !(q.1 == i) && (!(q.1 == i + 1) && !(q.1 + 1 == i && q.2.category == 2))) = lo') (hp : pc + 1 = q) (k : jv_V E nL h ce sl Q q lo' st) : jv_V E nL h ce sl Q pc lo (.long x :: st) := by
  subst hp
  exact fun H locs ls hR hS hl => lv_lstore_n G.1 G.2.1 hd hi hl hn hl' (fun ls' h' => k H locs ls' hR hS h')
theorem jv_lstore (G : jv_C E cc own nL) {lo' : List (Nat × Value)} {i : Nat} {x : Int64} (hd : decode cc pc = .ok (.lstore i, 2)) (hn : i + 1 < nL) (hl' : (i, Value.long x) :: lo.filter (fun q => !(q.1 == i) && (!(q.1 == i + 1) && !(q.1 + 1 == i && q.2.category == 2))) = lo') (hp : pc + 2 = q) (k : jv_V E nL h ce sl Q q lo' st) : jv_V E nL h ce sl Q pc lo (.long x :: st) := by
  subst hp
  exact fun H locs ls hR hS hl => lv_lstore G.1 G.2.1 hd hl hn hl' (fun ls' h' => k H locs ls' hR hS h')
theorem jv_aload_n (G : jv_C E cc own nL) (j : Nat) {n : Fin 4} {i : Nat} {x : Nat} (hd : decode cc pc = .ok (.aload_n n, 1)) (hi : (n : Nat) = i) (hj : lo[j]? = some (i, .ref x)) (hp : pc + 1 = q) (k : jv_V E nL h ce sl Q q lo (.ref x :: st)) : jv_V E nL h ce sl Q pc lo st := by
  subst hp
  exact fun H locs ls hR hS hl => lv_aload_n G.1 G.2.1 hd hi (lv_at hl j hj) (k H locs ls hR hS hl)
theorem jv_aload (G : jv_C E cc own nL) (j : Nat) {i : Nat} {x : Nat} (hd : decode cc pc = .ok (.aload i, 2)) (hj : lo[j]? = some (i, .ref x)) (hp : pc + 2 = q) (k : jv_V E nL h ce sl Q q lo (.ref x :: st)) : jv_V E nL h ce sl Q pc lo st := by
  subst hp
  exact fun H locs ls hR hS hl => lv_aload G.1 G.2.1 hd (lv_at hl j hj) (k H locs ls hR hS hl)
theorem jv_astore_n (G : jv_C E cc own nL) {lo' : List (Nat × Value)} {n : Fin 4} {i : Nat} {x : Nat} (hd : decode cc pc = .ok (.astore_n n, 1)) (hi : (n : Nat) = i) (hn : i < nL) (hl' : (i, Value.ref x) :: lo.filter (fun q => !(q.1 == i) && !(q.1 + 1 == i && q.2.category == 2)) = lo') (hp : pc + 1 = q) (k : jv_V E nL h ce sl Q q lo' st) : jv_V E nL h ce sl Q pc lo (.ref x :: st) := by
  subst hp
  exact fun H locs ls hR hS hl => lv_astore_n G.1 G.2.1 hd hi hl hn hl' (fun ls' h' => k H locs ls' hR hS h')
theorem jv_astore (G : jv_C E cc own nL) {lo' : List (Nat × Value)} {i : Nat} {x : Nat} (hd : decode cc pc = .ok (.astore i, 2)) (hn : i < nL) (hl' : (i, Value.ref x) :: lo.filter (fun q => !(q.1 == i) && !(q.1 + 1 == i && q.2.category == 2)) = lo') (hp : pc + 2 = q) (k : jv_V E nL h ce sl Q q lo' st) : jv_V E nL h ce sl Q pc lo (.ref x :: st) := by
  subst hp
  exact fun H locs ls hR hS hl => lv_astore G.1 G.2.1 hd hl hn hl' (fun ls' h' => k H locs ls' hR hS h')
theorem jv_iinc (G : jv_C E cc own nL) (j : Nat) {lo' : List (Nat × Value)} {i : Nat} {n : Int} {x v : Int32} (hd : decode cc pc = .ok (.iinc i n, 3)) (hj : lo[j]? = some (i, .int x)) (hv : x + Int32.ofInt n = v) (hn : i < nL) (hl' : (i, Value.int v) :: lo.filter (fun q => !(q.1 == i) && !(q.1 + 1 == i && q.2.category == 2)) = lo') (hp : pc + 3 = q) (k : jv_V E nL h ce sl Q q lo' st) : jv_V E nL h ce sl Q pc lo st := by
  subst hp
  exact fun H locs ls hR hS hl => lv_iinc G.1 G.2.1 hd hl hj hv hn hl' (fun ls' h' => k H locs ls' hR hS h')
theorem jv_iadd (G : jv_C E cc own nL) {x y : Int32} (hd : decode cc pc = .ok (.iadd, 1)) (hp : pc + 1 = q) (k : jv_V E nL h ce sl Q q lo (.int (x + y) :: st)) : jv_V E nL h ce sl Q pc lo (.int y :: .int x :: st) := by
  subst hp
  exact fun H locs ls hR hS hl => lv_iadd G.1 G.2.1 hd  (k H locs ls hR hS hl)
theorem jv_isub (G : jv_C E cc own nL) {x y : Int32} (hd : decode cc pc = .ok (.isub, 1)) (hp : pc + 1 = q) (k : jv_V E nL h ce sl Q q lo (.int (x - y) :: st)) : jv_V E nL h ce sl Q pc lo (.int y :: .int x :: st) := by
  subst hp
  exact fun H locs ls hR hS hl => lv_isub G.1 G.2.1 hd  (k H locs ls hR hS hl)
theorem jv_imul (G : jv_C E cc own nL) {x y : Int32} (hd : decode cc pc = .ok (.imul, 1)) (hp : pc + 1 = q) (k : jv_V E nL h ce sl Q q lo (.int (x * y) :: st)) : jv_V E nL h ce sl Q pc lo (.int y :: .int x :: st) := by
  subst hp
  exact fun H locs ls hR hS hl => lv_imul G.1 G.2.1 hd  (k H locs ls hR hS hl)
theorem jv_iand (G : jv_C E cc own nL) {x y : Int32} (hd : decode cc pc = .ok (.iand, 1)) (hp : pc + 1 = q) (k : jv_V E nL h ce sl Q q lo (.int (x &&& y) :: st)) : jv_V E nL h ce sl Q pc lo (.int y :: .int x :: st) := by
  subst hp
  exact fun H locs ls hR hS hl => lv_iand G.1 G.2.1 hd  (k H locs ls hR hS hl)
theorem jv_ior (G : jv_C E cc own nL) {x y : Int32} (hd : decode cc pc = .ok (.ior, 1)) (hp : pc + 1 = q) (k : jv_V E nL h ce sl Q q lo (.int (x ||| y) :: st)) : jv_V E nL h ce sl Q pc lo (.int y :: .int x :: st) := by
  subst hp
  exact fun H locs ls hR hS hl => lv_ior G.1 G.2.1 hd  (k H locs ls hR hS hl)
theorem jv_ixor (G : jv_C E cc own nL) {x y : Int32} (hd : decode cc pc = .ok (.ixor, 1)) (hp : pc + 1 = q) (k : jv_V E nL h ce sl Q q lo (.int (x ^^^ y) :: st)) : jv_V E nL h ce sl Q pc lo (.int y :: .int x :: st) := by
  subst hp
  exact fun H locs ls hR hS hl => lv_ixor G.1 G.2.1 hd  (k H locs ls hR hS hl)
theorem jv_ishl (G : jv_C E cc own nL) {x y : Int32} (hd : decode cc pc = .ok (.ishl, 1)) (hp : pc + 1 = q) (k : jv_V E nL h ce sl Q q lo (.int (x <<< (y &&& 31)) :: st)) : jv_V E nL h ce sl Q pc lo (.int y :: .int x :: st) := by
  subst hp
  exact fun H locs ls hR hS hl => lv_ishl G.1 G.2.1 hd  (k H locs ls hR hS hl)
theorem jv_ishr (G : jv_C E cc own nL) {x y : Int32} (hd : decode cc pc = .ok (.ishr, 1)) (hp : pc + 1 = q) (k : jv_V E nL h ce sl Q q lo (.int (x >>> (y &&& 31)) :: st)) : jv_V E nL h ce sl Q pc lo (.int y :: .int x :: st) := by
  subst hp
  exact fun H locs ls hR hS hl => lv_ishr G.1 G.2.1 hd  (k H locs ls hR hS hl)
theorem jv_idiv (G : jv_C E cc own nL) {x y : Int32} (hd : decode cc pc = .ok (.idiv, 1)) (hy : ¬ y = 0) (hp : pc + 1 = q) (k : jv_V E nL h ce sl Q q lo (.int (x / y) :: st)) : jv_V E nL h ce sl Q pc lo (.int y :: .int x :: st) := by
  subst hp
  exact fun H locs ls hR hS hl => lv_idiv G.1 G.2.1 hd hy (k H locs ls hR hS hl)
theorem jv_irem (G : jv_C E cc own nL) {x y : Int32} (hd : decode cc pc = .ok (.irem, 1)) (hy : ¬ y = 0) (hp : pc + 1 = q) (k : jv_V E nL h ce sl Q q lo (.int (x - x / y * y) :: st)) : jv_V E nL h ce sl Q pc lo (.int y :: .int x :: st) := by
  subst hp
  exact fun H locs ls hR hS hl => lv_irem G.1 G.2.1 hd hy (k H locs ls hR hS hl)
theorem jv_ladd (G : jv_C E cc own nL) {x y : Int64} (hd : decode cc pc = .ok (.ladd, 1)) (hp : pc + 1 = q) (k : jv_V E nL h ce sl Q q lo (.long (x + y) :: st)) : jv_V E nL h ce sl Q pc lo (.long y :: .long x :: st) := by
  subst hp
  exact fun H locs ls hR hS hl => lv_ladd G.1 G.2.1 hd  (k H locs ls hR hS hl)
theorem jv_land (G : jv_C E cc own nL) {x y : Int64} (hd : decode cc pc = .ok (.land, 1)) (hp : pc + 1 = q) (k : jv_V E nL h ce sl Q q lo (.long (x &&& y) :: st)) : jv_V E nL h ce sl Q pc lo (.long y :: .long x :: st) := by
  subst hp
  exact fun H locs ls hR hS hl => lv_land G.1 G.2.1 hd  (k H locs ls hR hS hl)
theorem jv_lor (G : jv_C E cc own nL) {x y : Int64} (hd : decode cc pc = .ok (.lor, 1)) (hp : pc + 1 = q) (k : jv_V E nL h ce sl Q q lo (.long (x ||| y) :: st)) : jv_V E nL h ce sl Q pc lo (.long y :: .long x :: st) := by
  subst hp
  exact fun H locs ls hR hS hl => lv_lor G.1 G.2.1 hd  (k H locs ls hR hS hl)
theorem jv_lxor (G : jv_C E cc own nL) {x y : Int64} (hd : decode cc pc = .ok (.lxor, 1)) (hp : pc + 1 = q) (k : jv_V E nL h ce sl Q q lo (.long (x ^^^ y) :: st)) : jv_V E nL h ce sl Q pc lo (.long y :: .long x :: st) := by
  subst hp
  exact fun H locs ls hR hS hl => lv_lxor G.1 G.2.1 hd  (k H locs ls hR hS hl)
theorem jv_iushr (G : jv_C E cc own nL) {x y v : Int32} (hd : decode cc pc = .ok (.iushr, 1)) (hv : (x.toUInt32 >>> (y.toUInt32 &&& Int32.toUInt32 31)).toInt32 = v) (hp : pc + 1 = q) (k : jv_V E nL h ce sl Q q lo (.int v :: st)) : jv_V E nL h ce sl Q pc lo (.int y :: .int x :: st) := by
  subst hp
  exact fun H locs ls hR hS hl => lv_iushr G.1 G.2.1 hd hv (k H locs ls hR hS hl)
theorem jv_lushr (G : jv_C E cc own nL) {x v : Int64} {y : Int32} (hd : decode cc pc = .ok (.lushr, 1)) (hv : (x.toUInt64 >>> (y.toInt64.toUInt64 &&& Int64.toUInt64 63)).toInt64 = v) (hp : pc + 1 = q) (k : jv_V E nL h ce sl Q q lo (.long v :: st)) : jv_V E nL h ce sl Q pc lo (.int y :: .long x :: st) := by
  subst hp
  exact fun H locs ls hR hS hl => lv_lushr G.1 G.2.1 hd hv (k H locs ls hR hS hl)
theorem jv_lshl (G : jv_C E cc own nL) {x v : Int64} {y : Int32} (hd : decode cc pc = .ok (.lshl, 1)) (hv : x <<< (y.toInt64 &&& 63) = v) (hp : pc + 1 = q) (k : jv_V E nL h ce sl Q q lo (.long v :: st)) : jv_V E nL h ce sl Q pc lo (.int y :: .long x :: st) := by
  subst hp
  exact fun H locs ls hR hS hl => lv_lshl G.1 G.2.1 hd hv (k H locs ls hR hS hl)
theorem jv_i2l (G : jv_C E cc own nL) {x : Int32} {v : Int64} (hd : decode cc pc = .ok (.i2l, 1)) (hv : x.toInt64 = v) (hp : pc + 1 = q) (k : jv_V E nL h ce sl Q q lo (.long v :: st)) : jv_V E nL h ce sl Q pc lo (.int x :: st) := by
  subst hp
  exact fun H locs ls hR hS hl => lv_i2l G.1 G.2.1 hd hv (k H locs ls hR hS hl)
theorem jv_dup (G : jv_C E cc own nL) {v : Value} (hd : decode cc pc = .ok (.dup, 1)) (hc : v.category = 1) (hp : pc + 1 = q) (k : jv_V E nL h ce sl Q q lo (v :: v :: st)) : jv_V E nL h ce sl Q pc lo (v :: st) := by
  subst hp
  exact fun H locs ls hR hS hl => lv_dup G.1 G.2.1 hd hc (k H locs ls hR hS hl)
theorem jv_pop (G : jv_C E cc own nL) {v : Value} (hd : decode cc pc = .ok (.pop, 1)) (hc : v.category = 1) (hp : pc + 1 = q) (k : jv_V E nL h ce sl Q q lo st) : jv_V E nL h ce sl Q pc lo (v :: st) := by
  subst hp
  exact fun H locs ls hR hS hl => lv_pop G.1 G.2.1 hd hc (k H locs ls hR hS hl)
theorem jv_dup2 (G : jv_C E cc own nL) {v w : Value} (hd : decode cc pc = .ok (.dup2, 1)) (hc : v.category = 1) (hc2 : w.category = 1) (hp : pc + 1 = q) (k : jv_V E nL h ce sl Q q lo (v :: w :: v :: w :: st)) : jv_V E nL h ce sl Q pc lo (v :: w :: st) := by
  subst hp
  exact fun H locs ls hR hS hl => lv_dup2_11 G.1 G.2.1 hd hc hc2 (k H locs ls hR hS hl)
theorem jv_icmp_eq (G : jv_C E cc own nL) {x y : Int32} {off : Int} {tgt : Nat} (hd : decode cc pc = .ok (.if_icmp .eq off, 3)) (ht : (pc : Int) + off = (tgt : Int)) (hp : pc + 3 = q) (kt : x = y → jv_V E nL h ce sl Q tgt lo st) (kf : ¬ x = y → jv_V E nL h ce sl Q q lo st) : jv_V E nL h ce sl Q pc lo (.int y :: .int x :: st) := by
  subst hp
  exact fun H locs ls hR hS hl => lv_icmp_eq G.1 G.2.1 hd ht (fun z => kt z H locs ls hR hS hl) (fun z => kf z H locs ls hR hS hl)
theorem jv_if_eq (G : jv_C E cc own nL) {x : Int32} {off : Int} {tgt : Nat} (hd : decode cc pc = .ok (.ifCond .eq off, 3)) (ht : (pc : Int) + off = (tgt : Int)) (hp : pc + 3 = q) (kt : x = 0 → jv_V E nL h ce sl Q tgt lo st) (kf : ¬ x = 0 → jv_V E nL h ce sl Q q lo st) : jv_V E nL h ce sl Q pc lo (.int x :: st) := by
  subst hp
  exact fun H locs ls hR hS hl => lv_if_eq G.1 G.2.1 hd ht (fun z => kt z H locs ls hR hS hl) (fun z => kf z H locs ls hR hS hl)
theorem jv_icmp_ne (G : jv_C E cc own nL) {x y : Int32} {off : Int} {tgt : Nat} (hd : decode cc pc = .ok (.if_icmp .ne off, 3)) (ht : (pc : Int) + off = (tgt : Int)) (hp : pc + 3 = q) (kt : ¬ x = y → jv_V E nL h ce sl Q tgt lo st) (kf : x = y → jv_V E nL h ce sl Q q lo st) : jv_V E nL h ce sl Q pc lo (.int y :: .int x :: st) := by
  subst hp
  exact fun H locs ls hR hS hl => lv_icmp_ne G.1 G.2.1 hd ht (fun z => kt z H locs ls hR hS hl) (fun z => kf z H locs ls hR hS hl)
theorem jv_if_ne (G : jv_C E cc own nL) {x : Int32} {off : Int} {tgt : Nat} (hd : decode cc pc = .ok (.ifCond .ne off, 3)) (ht : (pc : Int) + off = (tgt : Int)) (hp : pc + 3 = q) (kt : ¬ x = 0 → jv_V E nL h ce sl Q tgt lo st) (kf : x = 0 → jv_V E nL h ce sl Q q lo st) : jv_V E nL h ce sl Q pc lo (.int x :: st) := by
  subst hp
  exact fun H locs ls hR hS hl => lv_if_ne G.1 G.2.1 hd ht (fun z => kt z H locs ls hR hS hl) (fun z => kf z H locs ls hR hS hl)
theorem jv_icmp_lt (G : jv_C E cc own nL) {x y : Int32} {off : Int} {tgt : Nat} (hd : decode cc pc = .ok (.if_icmp .lt off, 3)) (ht : (pc : Int) + off = (tgt : Int)) (hp : pc + 3 = q) (kt : x < y → jv_V E nL h ce sl Q tgt lo st) (kf : ¬ x < y → jv_V E nL h ce sl Q q lo st) : jv_V E nL h ce sl Q pc lo (.int y :: .int x :: st) := by
  subst hp
  exact fun H locs ls hR hS hl => lv_icmp_lt G.1 G.2.1 hd ht (fun z => kt z H locs ls hR hS hl) (fun z => kf z H locs ls hR hS hl)
theorem jv_if_lt (G : jv_C E cc own nL) {x : Int32} {off : Int} {tgt : Nat} (hd : decode cc pc = .ok (.ifCond .lt off, 3)) (ht : (pc : Int) + off = (tgt : Int)) (hp : pc + 3 = q) (kt : x < 0 → jv_V E nL h ce sl Q tgt lo st) (kf : ¬ x < 0 → jv_V E nL h ce sl Q q lo st) : jv_V E nL h ce sl Q pc lo (.int x :: st) := by
  subst hp
  exact fun H locs ls hR hS hl => lv_if_lt G.1 G.2.1 hd ht (fun z => kt z H locs ls hR hS hl) (fun z => kf z H locs ls hR hS hl)
theorem jv_icmp_ge (G : jv_C E cc own nL) {x y : Int32} {off : Int} {tgt : Nat} (hd : decode cc pc = .ok (.if_icmp .ge off, 3)) (ht : (pc : Int) + off = (tgt : Int)) (hp : pc + 3 = q) (kt : y ≤ x → jv_V E nL h ce sl Q tgt lo st) (kf : ¬ y ≤ x → jv_V E nL h ce sl Q q lo st) : jv_V E nL h ce sl Q pc lo (.int y :: .int x :: st) := by
  subst hp
  exact fun H locs ls hR hS hl => lv_icmp_ge G.1 G.2.1 hd ht (fun z => kt z H locs ls hR hS hl) (fun z => kf z H locs ls hR hS hl)
theorem jv_if_ge (G : jv_C E cc own nL) {x : Int32} {off : Int} {tgt : Nat} (hd : decode cc pc = .ok (.ifCond .ge off, 3)) (ht : (pc : Int) + off = (tgt : Int)) (hp : pc + 3 = q) (kt : 0 ≤ x → jv_V E nL h ce sl Q tgt lo st) (kf : ¬ 0 ≤ x → jv_V E nL h ce sl Q q lo st) : jv_V E nL h ce sl Q pc lo (.int x :: st) := by
  subst hp
  exact fun H locs ls hR hS hl => lv_if_ge G.1 G.2.1 hd ht (fun z => kt z H locs ls hR hS hl) (fun z => kf z H locs ls hR hS hl)
theorem jv_icmp_gt (G : jv_C E cc own nL) {x y : Int32} {off : Int} {tgt : Nat} (hd : decode cc pc = .ok (.if_icmp .gt off, 3)) (ht : (pc : Int) + off = (tgt : Int)) (hp : pc + 3 = q) (kt : y < x → jv_V E nL h ce sl Q tgt lo st) (kf : ¬ y < x → jv_V E nL h ce sl Q q lo st) : jv_V E nL h ce sl Q pc lo (.int y :: .int x :: st) := by
  subst hp
  exact fun H locs ls hR hS hl => lv_icmp_gt G.1 G.2.1 hd ht (fun z => kt z H locs ls hR hS hl) (fun z => kf z H locs ls hR hS hl)
theorem jv_if_gt (G : jv_C E cc own nL) {x : Int32} {off : Int} {tgt : Nat} (hd : decode cc pc = .ok (.ifCond .gt off, 3)) (ht : (pc : Int) + off = (tgt : Int)) (hp : pc + 3 = q) (kt : 0 < x → jv_V E nL h ce sl Q tgt lo st) (kf : ¬ 0 < x → jv_V E nL h ce sl Q q lo st) : jv_V E nL h ce sl Q pc lo (.int x :: st) := by
  subst hp
  exact fun H locs ls hR hS hl => lv_if_gt G.1 G.2.1 hd ht (fun z => kt z H locs ls hR hS hl) (fun z => kf z H locs ls hR hS hl)
theorem jv_icmp_le (G : jv_C E cc own nL) {x y : Int32} {off : Int} {tgt : Nat} (hd : decode cc pc = .ok (.if_icmp .le off, 3)) (ht : (pc : Int) + off = (tgt : Int)) (hp : pc + 3 = q) (kt : x ≤ y → jv_V E nL h ce sl Q tgt lo st) (kf : ¬ x ≤ y → jv_V E nL h ce sl Q q lo st) : jv_V E nL h ce sl Q pc lo (.int y :: .int x :: st) := by
  subst hp
  exact fun H locs ls hR hS hl => lv_icmp_le G.1 G.2.1 hd ht (fun z => kt z H locs ls hR hS hl) (fun z => kf z H locs ls hR hS hl)
theorem jv_if_le (G : jv_C E cc own nL) {x : Int32} {off : Int} {tgt : Nat} (hd : decode cc pc = .ok (.ifCond .le off, 3)) (ht : (pc : Int) + off = (tgt : Int)) (hp : pc + 3 = q) (kt : x ≤ 0 → jv_V E nL h ce sl Q tgt lo st) (kf : ¬ x ≤ 0 → jv_V E nL h ce sl Q q lo st) : jv_V E nL h ce sl Q pc lo (.int x :: st) := by
  subst hp
  exact fun H locs ls hR hS hl => lv_if_le G.1 G.2.1 hd ht (fun z => kt z H locs ls hR hS hl) (fun z => kf z H locs ls hR hS hl)
theorem jv_goto (G : jv_C E cc own nL) {off : Int} (hd : decode cc pc = .ok (.goto off, 3)) (ht : (pc : Int) + off = (q : Int)) (k : jv_V E nL h ce sl Q q lo st) : jv_V E nL h ce sl Q pc lo st := fun H locs ls hR hS hl => lv_goto G.1 G.2.1 hd ht (k H locs ls hR hS hl)
theorem jv_ifnull (G : jv_C E cc own nL) {x : Option Nat} {off : Int} {tgt : Nat} (hd : decode cc pc = .ok (.ifnull off, 3)) (ht : (pc : Int) + off = (tgt : Int)) (hp : pc + 3 = q) (kt : x = none → jv_V E nL h ce sl Q tgt lo st) (kf : ∀ a, x = some a → jv_V E nL h ce sl Q q lo st) : jv_V E nL h ce sl Q pc lo (va_rf x :: st) := by
  subst hp
  cases x with
  | none => exact fun H locs ls hR hS hl => lv_ifnullN G.1 G.2.1 hd ht (kt rfl H locs ls hR hS hl)
  | some a => exact fun H locs ls hR hS hl => lv_ifnull G.1 G.2.1 hd (kf a rfl H locs ls hR hS hl)
theorem jv_ifnonnull (G : jv_C E cc own nL) {x : Option Nat} {off : Int} {tgt : Nat} (hd : decode cc pc = .ok (.ifnonnull off, 3)) (ht : (pc : Int) + off = (tgt : Int)) (hp : pc + 3 = q) (kt : ∀ a, x = some a → jv_V E nL h ce sl Q tgt lo st) (kf : x = none → jv_V E nL h ce sl Q q lo st) : jv_V E nL h ce sl Q pc lo (va_rf x :: st) := by
  subst hp
  cases x with
  | none => exact fun H locs ls hR hS hl => lv_ifnonnullN G.1 G.2.1 hd (kf rfl H locs ls hR hS hl)
  | some a => exact fun H locs ls hR hS hl => lv_ifnonnull G.1 G.2.1 hd ht (kt a rfl H locs ls hR hS hl)
theorem jv_aload_nR (G : jv_C E cc own nL) (j : Nat) {n : Fin 4} {i : Nat} {x : Option Nat} (hd : decode cc pc = .ok (.aload_n n, 1)) (hi : (n : Nat) = i) (hj : lo[j]? = some (i, va_rf x)) (hp : pc + 1 = q) (k : jv_V E nL h ce sl Q q lo (va_rf x :: st)) : jv_V E nL h ce sl Q pc lo st := by
  subst hp
  cases x with
  | none => exact fun H locs ls hR hS hl => lv_aload_nN G.1 G.2.1 hd hi (lv_at hl j hj) (k H locs ls hR hS hl)
  | some a => exact fun H locs ls hR hS hl => lv_aload_n G.1 G.2.1 hd hi (lv_at hl j hj) (k H locs ls hR hS hl)
theorem jv_astore_nR (G : jv_C E cc own nL) {lo' : List (Nat × Value)} {n : Fin 4} {i : Nat} {x : Option Nat} (hd : decode cc pc = .ok (.astore_n n, 1)) (hi : (n : Nat) = i) (hn : i < nL) (hl' : (i, va_rf x) :: lo.filter (fun q => !(q.1 == i) && !(q.1 + 1 == i && q.2.category == 2)) = lo') (hp : pc + 1 = q) (k : jv_V E nL h ce sl Q q lo' st) : jv_V E nL h ce sl Q pc lo (va_rf x :: st) := by
  subst hp
  cases x with
  | none => exact fun H locs ls hR hS hl => lv_astore_nN G.1 G.2.1 hd hi hl hn hl' (fun ls' h' => k H locs ls' hR hS h')
  | some a => exact fun H locs ls hR hS hl => lv_astore_n G.1 G.2.1 hd hi hl hn hl' (fun ls' h' => k H locs ls' hR hS h')
theorem jv_aloadR (G : jv_C E cc own nL) (j : Nat) {i : Nat} {x : Option Nat} (hd : decode cc pc = .ok (.aload i, 2)) (hj : lo[j]? = some (i, va_rf x)) (hp : pc + 2 = q) (k : jv_V E nL h ce sl Q q lo (va_rf x :: st)) : jv_V E nL h ce sl Q pc lo st := by
  subst hp
  cases x with
  | none => exact fun H locs ls hR hS hl => lv_aloadN G.1 G.2.1 hd (lv_at hl j hj) (k H locs ls hR hS hl)
  | some a => exact fun H locs ls hR hS hl => lv_aload G.1 G.2.1 hd (lv_at hl j hj) (k H locs ls hR hS hl)
theorem jv_astoreR (G : jv_C E cc own nL) {lo' : List (Nat × Value)} {i : Nat} {x : Option Nat} (hd : decode cc pc = .ok (.astore i, 2)) (hn : i < nL) (hl' : (i, va_rf x) :: lo.filter (fun q => !(q.1 == i) && !(q.1 + 1 == i && q.2.category == 2)) = lo') (hp : pc + 2 = q) (k : jv_V E nL h ce sl Q q lo' st) : jv_V E nL h ce sl Q pc lo (va_rf x :: st) := by
  subst hp
  cases x with
  | none => exact fun H locs ls hR hS hl => lv_astoreN G.1 G.2.1 hd hl hn hl' (fun ls' h' => k H locs ls' hR hS h')
  | some a => exact fun H locs ls hR hS hl => lv_astore G.1 G.2.1 hd hl hn hl' (fun ls' h' => k H locs ls' hR hS h')
theorem jv_lo (ks : List Nat) {lo' : List (Nat × Value)} (hl' : lv_pick lo ks = lo') (k : jv_V E nL h ce sl Q pc lo' st) : jv_V E nL h ce sl Q pc lo st := fun H locs ls hR hS hl => k H locs ls hR hS (lv_sub hl ks hl')
theorem jv_wide {ce' sl' : Nat} (h1 : ce ≤ ce') (h2 : sl ≤ sl') (k : jv_V E nL h ce' sl' Q pc lo st) : jv_V E nL h ce sl Q pc lo st := fun H locs ls hR hS hl => W.widen h1 h2 (k H locs ls hR hS hl)
theorem jv_lcmp (G : jv_C E cc own nL) {x y : Int64} {v : Int32} (hd : decode cc pc = .ok (.lcmp, 1)) (hv : lg_cmp x y = v) (hp : pc + 1 = q) (k : jv_V E nL h ce sl Q q lo (.int v :: st)) : jv_V E nL h ce sl Q pc lo (.long y :: .long x :: st) := by
  subst hp; subst hv
  exact fun H locs ls hR hS hl => W.lcmp G.1 G.2.1 hd (k H locs ls hR hS hl)
end JVR
