section MV
variable {g : mj_G} {l : Launch} {y : mj_Y} {d pc : Nat} {lv : List (Nat × Value)} {st : List Value} {M : mj_M} {nx kc ks : Nat} {Q : Option Value → mj_M → Nat → Prop}
theorem mv_iconst {n : Int} {v : Int32} (hd : decode y.2.1 pc = .ok (.iconst n, 1)) (hv : Int32.ofInt n = v) (k : mj_V g l y d (pc + 1) lv (.int v :: st) M nx kc ks Q) : mj_V g l y d pc lv st M nx kc ks Q := by
  intro p e R s m args below meth c H locs ls cells slots TC TS X hR hS hl h1 h2 h3 h4
  exact lv_iconst X.1 X.2.1 hd hv (k p e R s m args below meth c H locs ls cells slots TC TS X hR hS hl h1 h2 h3 h4)
theorem mv_bipush {n : Int} {v : Int32} (hd : decode y.2.1 pc = .ok (.bipush n, 2)) (hv : (Int8.ofInt n).toInt32 = v) (k : mj_V g l y d (pc + 2) lv (.int v :: st) M nx kc ks Q) : mj_V g l y d pc lv st M nx kc ks Q := by
  intro p e R s m args below meth c H locs ls cells slots TC TS X hR hS hl h1 h2 h3 h4
  exact lv_bipush X.1 X.2.1 hd hv (k p e R s m args below meth c H locs ls cells slots TC TS X hR hS hl h1 h2 h3 h4)
theorem mv_sipush {n : Int} {v : Int32} (hd : decode y.2.1 pc = .ok (.sipush n, 3)) (hv : (Int16.ofInt n).toInt32 = v) (k : mj_V g l y d (pc + 3) lv (.int v :: st) M nx kc ks Q) : mj_V g l y d pc lv st M nx kc ks Q := by
  intro p e R s m args below meth c H locs ls cells slots TC TS X hR hS hl h1 h2 h3 h4
  exact lv_sipush X.1 X.2.1 hd hv (k p e R s m args below meth c H locs ls cells slots TC TS X hR hS hl h1 h2 h3 h4)
theorem mv_lconst {n : Fin 2} {v : Int64} (hd : decode y.2.1 pc = .ok (.lconst n, 1)) (hv : Int64.ofNat (n : Nat) = v) (k : mj_V g l y d (pc + 1) lv (.long v :: st) M nx kc ks Q) : mj_V g l y d pc lv st M nx kc ks Q := by
  intro p e R s m args below meth c H locs ls cells slots TC TS X hR hS hl h1 h2 h3 h4
  exact lv_lconst X.1 X.2.1 hd hv (k p e R s m args below meth c H locs ls cells slots TC TS X hR hS hl h1 h2 h3 h4)
theorem mv_null  (hd : decode y.2.1 pc = .ok (.aconst_null, 1))  (k : mj_V g l y d (pc + 1) lv (.null :: st) M nx kc ks Q) : mj_V g l y d pc lv st M nx kc ks Q := by
  intro p e R s m args below meth c H locs ls cells slots TC TS X hR hS hl h1 h2 h3 h4
  exact lv_null X.1 X.2.1 hd  (k p e R s m args below meth c H locs ls cells slots TC TS X hR hS hl h1 h2 h3 h4)
theorem mv_iload_n {k : Fin 4} {i : Nat} {x : Int32} (hd : decode y.2.1 pc = .ok (.iload_n k, 1)) (hi : (k : Nat) = i) (hk : mj_lk lv i = some (.int x)) (k : mj_V g l y d (pc + 1) lv (.int x :: st) M nx kc ks Q) : mj_V g l y d pc lv st M nx kc ks Q := by
  intro p e R s m args below meth c H locs ls cells slots TC TS X hR hS hl h1 h2 h3 h4
  exact lv_iload_n X.1 X.2.1 hd hi (mj_at hl hk) (k p e R s m args below meth c H locs ls cells slots TC TS X hR hS hl h1 h2 h3 h4)
theorem mv_iload {i : Nat} {x : Int32} (hd : decode y.2.1 pc = .ok (.iload i, 2)) (hk : mj_lk lv i = some (.int x)) (k : mj_V g l y d (pc + 2) lv (.int x :: st) M nx kc ks Q) : mj_V g l y d pc lv st M nx kc ks Q := by
  intro p e R s m args below meth c H locs ls cells slots TC TS X hR hS hl h1 h2 h3 h4
  exact lv_iload X.1 X.2.1 hd (mj_at hl hk) (k p e R s m args below meth c H locs ls cells slots TC TS X hR hS hl h1 h2 h3 h4)
theorem mv_lload_n {k : Fin 4} {i : Nat} {x : Int64} (hd : decode y.2.1 pc = .ok (.lload_n k, 1)) (hi : (k : Nat) = i) (hk : mj_lk lv i = some (.long x)) (k : mj_V g l y d (pc + 1) lv (.long x :: st) M nx kc ks Q) : mj_V g l y d pc lv st M nx kc ks Q := by
  intro p e R s m args below meth c H locs ls cells slots TC TS X hR hS hl h1 h2 h3 h4
  exact lv_lload_n X.1 X.2.1 hd hi (mj_at hl hk) (k p e R s m args below meth c H locs ls cells slots TC TS X hR hS hl h1 h2 h3 h4)
theorem mv_lload {i : Nat} {x : Int64} (hd : decode y.2.1 pc = .ok (.lload i, 2)) (hk : mj_lk lv i = some (.long x)) (k : mj_V g l y d (pc + 2) lv (.long x :: st) M nx kc ks Q) : mj_V g l y d pc lv st M nx kc ks Q := by
  intro p e R s m args below meth c H locs ls cells slots TC TS X hR hS hl h1 h2 h3 h4
  exact lv_lload X.1 X.2.1 hd (mj_at hl hk) (k p e R s m args below meth c H locs ls cells slots TC TS X hR hS hl h1 h2 h3 h4)
theorem mv_aload_n {k : Fin 4} {i : Nat} {x : Nat} (hd : decode y.2.1 pc = .ok (.aload_n k, 1)) (hi : (k : Nat) = i) (hk : mj_lk lv i = some (.ref x)) (k : mj_V g l y d (pc + 1) lv (.ref x :: st) M nx kc ks Q) : mj_V g l y d pc lv st M nx kc ks Q := by
  intro p e R s m args below meth c H locs ls cells slots TC TS X hR hS hl h1 h2 h3 h4
  exact lv_aload_n X.1 X.2.1 hd hi (mj_at hl hk) (k p e R s m args below meth c H locs ls cells slots TC TS X hR hS hl h1 h2 h3 h4)
theorem mv_aload {i : Nat} {x : Nat} (hd : decode y.2.1 pc = .ok (.aload i, 2)) (hk : mj_lk lv i = some (.ref x)) (k : mj_V g l y d (pc + 2) lv (.ref x :: st) M nx kc ks Q) : mj_V g l y d pc lv st M nx kc ks Q := by
  intro p e R s m args below meth c H locs ls cells slots TC TS X hR hS hl h1 h2 h3 h4
  exact lv_aload X.1 X.2.1 hd (mj_at hl hk) (k p e R s m args below meth c H locs ls cells slots TC TS X hR hS hl h1 h2 h3 h4)
theorem mv_aload_nN {k : Fin 4} {i : Nat} (hd : decode y.2.1 pc = .ok (.aload_n k, 1)) (hi : (k : Nat) = i) (hk : mj_lk lv i = some .null) (k : mj_V g l y d (pc + 1) lv (.null :: st) M nx kc ks Q) : mj_V g l y d pc lv st M nx kc ks Q := by
  intro p e R s m args below meth c H locs ls cells slots TC TS X hR hS hl h1 h2 h3 h4
  exact lv_aload_nN X.1 X.2.1 hd hi (mj_at hl hk) (k p e R s m args below meth c H locs ls cells slots TC TS X hR hS hl h1 h2 h3 h4)
theorem mv_aloadN {i : Nat} (hd : decode y.2.1 pc = .ok (.aload i, 2)) (hk : mj_lk lv i = some .null) (k : mj_V g l y d (pc + 2) lv (.null :: st) M nx kc ks Q) : mj_V g l y d pc lv st M nx kc ks Q := by
  intro p e R s m args below meth c H locs ls cells slots TC TS X hR hS hl h1 h2 h3 h4
  exact lv_aloadN X.1 X.2.1 hd (mj_at hl hk) (k p e R s m args below meth c H locs ls cells slots TC TS X hR hS hl h1 h2 h3 h4)
theorem mv_rload_n {k : Fin 4} {i : Nat} {r : Option Nat} (hd : decode y.2.1 pc = .ok (.aload_n k, 1)) (hi : (k : Nat) = i) (hk : mj_lk lv i = some (va_rf r)) (kk : mj_V g l y d (pc + 1) lv (va_rf r :: st) M nx kc ks Q) : mj_V g l y d pc lv st M nx kc ks Q := by
  cases r with
  | none => exact mv_aload_nN hd hi hk kk
  | some a => exact mv_aload_n hd hi hk kk
theorem mv_rload {i : Nat} {r : Option Nat} (hd : decode y.2.1 pc = .ok (.aload i, 2)) (hk : mj_lk lv i = some (va_rf r)) (kk : mj_V g l y d (pc + 2) lv (va_rf r :: st) M nx kc ks Q) : mj_V g l y d pc lv st M nx kc ks Q := by
  cases r with
  | none => exact mv_aloadN hd hk kk
  | some a => exact mv_aload hd hk kk
theorem mv_istore_n {k0 : Fin 4} {i : Nat} {x : Int32} {lv' : List (Nat × Value)} (hd : decode y.2.1 pc = .ok (.istore_n k0, 1)) (hi : (k0 : Nat) = i) (hn : i < y.2.2.1) (hp : mj_put lv i (.int x) = lv') (k : mj_V g l y d (pc + 1) lv' st M nx kc ks Q) : mj_V g l y d pc lv (.int x :: st) M nx kc ks Q := by
  intro p e R s m args below meth c H locs ls cells slots TC TS X hR hS hl h1 h2 h3 h4
  subst hp
  exact lv_istore_n X.1 X.2.1 hd hi hl hn (mj_put_map g lv i (.int x)).symm (fun ls hl => k p e R s m args below meth c H locs ls cells slots TC TS X hR hS hl h1 h2 h3 h4)
theorem mv_istore {i : Nat} {x : Int32} {lv' : List (Nat × Value)} (hd : decode y.2.1 pc = .ok (.istore i, 2))  (hn : i < y.2.2.1) (hp : mj_put lv i (.int x) = lv') (k : mj_V g l y d (pc + 2) lv' st M nx kc ks Q) : mj_V g l y d pc lv (.int x :: st) M nx kc ks Q := by
  intro p e R s m args below meth c H locs ls cells slots TC TS X hR hS hl h1 h2 h3 h4
  subst hp
  exact lv_istore X.1 X.2.1 hd  hl hn (mj_put_map g lv i (.int x)).symm (fun ls hl => k p e R s m args below meth c H locs ls cells slots TC TS X hR hS hl h1 h2 h3 h4)
theorem mv_lstore_n {k0 : Fin 4} {i : Nat} {x : Int64} {lv' : List (Nat × Value)} (hd : decode y.2.1 pc = .ok (.lstore_n k0, 1)) (hi : (k0 : Nat) = i) (hn : i + 1 < y.2.2.1) (hp : mj_put2 lv i (.long x) = lv') (k : mj_V g l y d (pc + 1) lv' st M nx kc ks Q) : mj_V g l y d pc lv (.long x :: st) M nx kc ks Q := by
  intro p e R s m args below meth c H locs ls cells slots TC TS X hR hS hl h1 h2 h3 h4
  subst hp
  exact lv_lstore_n X.1 X.2.1 hd hi hl hn (mj_put2_map g lv i (.long x)).symm (fun ls hl => k p e R s m args below meth c H locs ls cells slots TC TS X hR hS hl h1 h2 h3 h4)
theorem mv_lstore {i : Nat} {x : Int64} {lv' : List (Nat × Value)} (hd : decode y.2.1 pc = .ok (.lstore i, 2))  (hn : i + 1 < y.2.2.1) (hp : mj_put2 lv i (.long x) = lv') (k : mj_V g l y d (pc + 2) lv' st M nx kc ks Q) : mj_V g l y d pc lv (.long x :: st) M nx kc ks Q := by
  intro p e R s m args below meth c H locs ls cells slots TC TS X hR hS hl h1 h2 h3 h4
  subst hp
  exact lv_lstore X.1 X.2.1 hd  hl hn (mj_put2_map g lv i (.long x)).symm (fun ls hl => k p e R s m args below meth c H locs ls cells slots TC TS X hR hS hl h1 h2 h3 h4)
theorem mv_astore_n {k0 : Fin 4} {i : Nat} {x : Nat} {lv' : List (Nat × Value)} (hd : decode y.2.1 pc = .ok (.astore_n k0, 1)) (hi : (k0 : Nat) = i) (hn : i < y.2.2.1) (hp : mj_put lv i (.ref x) = lv') (k : mj_V g l y d (pc + 1) lv' st M nx kc ks Q) : mj_V g l y d pc lv (.ref x :: st) M nx kc ks Q := by
  intro p e R s m args below meth c H locs ls cells slots TC TS X hR hS hl h1 h2 h3 h4
  subst hp
  exact lv_astore_n X.1 X.2.1 hd hi hl hn (mj_put_map g lv i (.ref x)).symm (fun ls hl => k p e R s m args below meth c H locs ls cells slots TC TS X hR hS hl h1 h2 h3 h4)
theorem mv_astore {i : Nat} {x : Nat} {lv' : List (Nat × Value)} (hd : decode y.2.1 pc = .ok (.astore i, 2))  (hn : i < y.2.2.1) (hp : mj_put lv i (.ref x) = lv') (k : mj_V g l y d (pc + 2) lv' st M nx kc ks Q) : mj_V g l y d pc lv (.ref x :: st) M nx kc ks Q := by
  intro p e R s m args below meth c H locs ls cells slots TC TS X hR hS hl h1 h2 h3 h4
  subst hp
  exact lv_astore X.1 X.2.1 hd  hl hn (mj_put_map g lv i (.ref x)).symm (fun ls hl => k p e R s m args below meth c H locs ls cells slots TC TS X hR hS hl h1 h2 h3 h4)
theorem mv_astore_nN {k0 : Fin 4} {i : Nat} {lv' : List (Nat × Value)} (hd : decode y.2.1 pc = .ok (.astore_n k0, 1)) (hi : (k0 : Nat) = i) (hn : i < y.2.2.1) (hp : mj_put lv i (.null) = lv') (k : mj_V g l y d (pc + 1) lv' st M nx kc ks Q) : mj_V g l y d pc lv (.null :: st) M nx kc ks Q := by
  intro p e R s m args below meth c H locs ls cells slots TC TS X hR hS hl h1 h2 h3 h4
  subst hp
  exact lv_astore_nN X.1 X.2.1 hd hi hl hn (mj_put_map g lv i (.null)).symm (fun ls hl => k p e R s m args below meth c H locs ls cells slots TC TS X hR hS hl h1 h2 h3 h4)
theorem mv_astoreN {i : Nat} {lv' : List (Nat × Value)} (hd : decode y.2.1 pc = .ok (.astore i, 2))  (hn : i < y.2.2.1) (hp : mj_put lv i (.null) = lv') (k : mj_V g l y d (pc + 2) lv' st M nx kc ks Q) : mj_V g l y d pc lv (.null :: st) M nx kc ks Q := by
  intro p e R s m args below meth c H locs ls cells slots TC TS X hR hS hl h1 h2 h3 h4
  subst hp
  exact lv_astoreN X.1 X.2.1 hd  hl hn (mj_put_map g lv i (.null)).symm (fun ls hl => k p e R s m args below meth c H locs ls cells slots TC TS X hR hS hl h1 h2 h3 h4)
theorem mv_rstore_n {k0 : Fin 4} {i : Nat} {r : Option Nat} {lv' : List (Nat × Value)} (hd : decode y.2.1 pc = .ok (.astore_n k0, 1)) (hi : (k0 : Nat) = i) (hn : i < y.2.2.1) (hp : mj_put lv i (va_rf r) = lv') (k : mj_V g l y d (pc + 1) lv' st M nx kc ks Q) : mj_V g l y d pc lv (va_rf r :: st) M nx kc ks Q := by
  cases r with
  | none => exact mv_astore_nN hd hi hn hp k
  | some a => exact mv_astore_n hd hi hn hp k
theorem mv_rstore {i : Nat} {r : Option Nat} {lv' : List (Nat × Value)} (hd : decode y.2.1 pc = .ok (.astore i, 2)) (hn : i < y.2.2.1) (hp : mj_put lv i (va_rf r) = lv') (k : mj_V g l y d (pc + 2) lv' st M nx kc ks Q) : mj_V g l y d pc lv (va_rf r :: st) M nx kc ks Q := by
  cases r with
  | none => exact mv_astoreN hd hn hp k
  | some a => exact mv_astore hd hn hp k
theorem mj_mem_pl {g : mj_G} {lv : List (Nat × Value)} {i : Nat} {v : Value} (h : mj_lk lv i = some v) : ∃ k : Nat, (lv.map (mj_p g))[k]? = some (i, mj_v g v) := by
  have h1 : (i, mj_v g v) ∈ lv.map (mj_p g) := List.mem_map.mpr ⟨(i, v), mj_lk_mem h, rfl⟩
  obtain ⟨k, hk⟩ := List.getElem?_of_mem h1
  exact ⟨k, hk⟩
theorem mv_iinc {i : Nat} {n : Int} {x v : Int32} {lv' : List (Nat × Value)} (hd : decode y.2.1 pc = .ok (.iinc i n, 3)) (hk : mj_lk lv i = some (.int x)) (hv : x + Int32.ofInt n = v) (hn : i < y.2.2.1) (hp : mj_put lv i (.int v) = lv') (k : mj_V g l y d (pc + 3) lv' st M nx kc ks Q) : mj_V g l y d pc lv st M nx kc ks Q := by
  intro p e R s m args below meth c H locs ls cells slots TC TS X hR hS hl h1 h2 h3 h4
  subst hp
  obtain ⟨k9, hk9⟩ := mj_mem_pl (g := g) hk
  exact lv_iinc X.1 X.2.1 hd hl hk9 hv hn (mj_put_map g lv i (.int v)).symm (fun ls hl => k p e R s m args below meth c H locs ls cells slots TC TS X hR hS hl h1 h2 h3 h4)
theorem mv_iadd {x y0 : Int32} (hd : decode y.2.1 pc = .ok (.iadd, 1))  (k : mj_V g l y d (pc + 1) lv (.int (x + y0) :: st) M nx kc ks Q) : mj_V g l y d pc lv (.int y0 :: .int x :: st) M nx kc ks Q := by
  intro p e R s m args below meth c H locs ls cells slots TC TS X hR hS hl h1 h2 h3 h4
  exact lv_iadd X.1 X.2.1 hd  (k p e R s m args below meth c H locs ls cells slots TC TS X hR hS hl h1 h2 h3 h4)
theorem mv_isub {x y0 : Int32} (hd : decode y.2.1 pc = .ok (.isub, 1))  (k : mj_V g l y d (pc + 1) lv (.int (x - y0) :: st) M nx kc ks Q) : mj_V g l y d pc lv (.int y0 :: .int x :: st) M nx kc ks Q := by
  intro p e R s m args below meth c H locs ls cells slots TC TS X hR hS hl h1 h2 h3 h4
  exact lv_isub X.1 X.2.1 hd  (k p e R s m args below meth c H locs ls cells slots TC TS X hR hS hl h1 h2 h3 h4)
theorem mv_imul {x y0 : Int32} (hd : decode y.2.1 pc = .ok (.imul, 1))  (k : mj_V g l y d (pc + 1) lv (.int (x * y0) :: st) M nx kc ks Q) : mj_V g l y d pc lv (.int y0 :: .int x :: st) M nx kc ks Q := by
  intro p e R s m args below meth c H locs ls cells slots TC TS X hR hS hl h1 h2 h3 h4
  exact lv_imul X.1 X.2.1 hd  (k p e R s m args below meth c H locs ls cells slots TC TS X hR hS hl h1 h2 h3 h4)
theorem mv_iand {x y0 : Int32} (hd : decode y.2.1 pc = .ok (.iand, 1))  (k : mj_V g l y d (pc + 1) lv (.int (x &&& y0) :: st) M nx kc ks Q) : mj_V g l y d pc lv (.int y0 :: .int x :: st) M nx kc ks Q := by
  intro p e R s m args below meth c H locs ls cells slots TC TS X hR hS hl h1 h2 h3 h4
  exact lv_iand X.1 X.2.1 hd  (k p e R s m args below meth c H locs ls cells slots TC TS X hR hS hl h1 h2 h3 h4)
theorem mv_ior {x y0 : Int32} (hd : decode y.2.1 pc = .ok (.ior, 1))  (k : mj_V g l y d (pc + 1) lv (.int (x ||| y0) :: st) M nx kc ks Q) : mj_V g l y d pc lv (.int y0 :: .int x :: st) M nx kc ks Q := by
  intro p e R s m args below meth c H locs ls cells slots TC TS X hR hS hl h1 h2 h3 h4
  exact lv_ior X.1 X.2.1 hd  (k p e R s m args below meth c H locs ls cells slots TC TS X hR hS hl h1 h2 h3 h4)
theorem mv_ixor {x y0 : Int32} (hd : decode y.2.1 pc = .ok (.ixor, 1))  (k : mj_V g l y d (pc + 1) lv (.int (x ^^^ y0) :: st) M nx kc ks Q) : mj_V g l y d pc lv (.int y0 :: .int x :: st) M nx kc ks Q := by
  intro p e R s m args below meth c H locs ls cells slots TC TS X hR hS hl h1 h2 h3 h4
  exact lv_ixor X.1 X.2.1 hd  (k p e R s m args below meth c H locs ls cells slots TC TS X hR hS hl h1 h2 h3 h4)
theorem mv_ishl {x y0 : Int32} (hd : decode y.2.1 pc = .ok (.ishl, 1))  (k : mj_V g l y d (pc + 1) lv (.int (x <<< (y0 &&& 31)) :: st) M nx kc ks Q) : mj_V g l y d pc lv (.int y0 :: .int x :: st) M nx kc ks Q := by
  intro p e R s m args below meth c H locs ls cells slots TC TS X hR hS hl h1 h2 h3 h4
  exact lv_ishl X.1 X.2.1 hd  (k p e R s m args below meth c H locs ls cells slots TC TS X hR hS hl h1 h2 h3 h4)
theorem mv_ishr {x y0 : Int32} (hd : decode y.2.1 pc = .ok (.ishr, 1))  (k : mj_V g l y d (pc + 1) lv (.int (x >>> (y0 &&& 31)) :: st) M nx kc ks Q) : mj_V g l y d pc lv (.int y0 :: .int x :: st) M nx kc ks Q := by
  intro p e R s m args below meth c H locs ls cells slots TC TS X hR hS hl h1 h2 h3 h4
  exact lv_ishr X.1 X.2.1 hd  (k p e R s m args below meth c H locs ls cells slots TC TS X hR hS hl h1 h2 h3 h4)
theorem mv_idiv {x y0 : Int32} (hd : decode y.2.1 pc = .ok (.idiv, 1)) (hne : ¬ y0 = 0) (k : mj_V g l y d (pc + 1) lv (.int (x / y0) :: st) M nx kc ks Q) : mj_V g l y d pc lv (.int y0 :: .int x :: st) M nx kc ks Q := by
  intro p e R s m args below meth c H locs ls cells slots TC TS X hR hS hl h1 h2 h3 h4
  exact lv_idiv X.1 X.2.1 hd hne (k p e R s m args below meth c H locs ls cells slots TC TS X hR hS hl h1 h2 h3 h4)
theorem mv_irem {x y0 : Int32} (hd : decode y.2.1 pc = .ok (.irem, 1)) (hne : ¬ y0 = 0) (k : mj_V g l y d (pc + 1) lv (.int (x - x / y0 * y0) :: st) M nx kc ks Q) : mj_V g l y d pc lv (.int y0 :: .int x :: st) M nx kc ks Q := by
  intro p e R s m args below meth c H locs ls cells slots TC TS X hR hS hl h1 h2 h3 h4
  exact lv_irem X.1 X.2.1 hd hne (k p e R s m args below meth c H locs ls cells slots TC TS X hR hS hl h1 h2 h3 h4)
theorem mv_ineg {x : Int32} (hd : decode y.2.1 pc = .ok (.ineg, 1))  (k : mj_V g l y d (pc + 1) lv (.int (-x) :: st) M nx kc ks Q) : mj_V g l y d pc lv (.int x :: st) M nx kc ks Q := by
  intro p e R s m args below meth c H locs ls cells slots TC TS X hR hS hl h1 h2 h3 h4
  exact lv_ineg X.1 X.2.1 hd  (k p e R s m args below meth c H locs ls cells slots TC TS X hR hS hl h1 h2 h3 h4)
theorem mv_ladd {x y0 : Int64} (hd : decode y.2.1 pc = .ok (.ladd, 1))  (k : mj_V g l y d (pc + 1) lv (.long (x + y0) :: st) M nx kc ks Q) : mj_V g l y d pc lv (.long y0 :: .long x :: st) M nx kc ks Q := by
  intro p e R s m args below meth c H locs ls cells slots TC TS X hR hS hl h1 h2 h3 h4
  exact lv_ladd X.1 X.2.1 hd  (k p e R s m args below meth c H locs ls cells slots TC TS X hR hS hl h1 h2 h3 h4)
theorem mv_lsub {x y0 : Int64} (hd : decode y.2.1 pc = .ok (.lsub, 1))  (k : mj_V g l y d (pc + 1) lv (.long (x - y0) :: st) M nx kc ks Q) : mj_V g l y d pc lv (.long y0 :: .long x :: st) M nx kc ks Q := by
  intro p e R s m args below meth c H locs ls cells slots TC TS X hR hS hl h1 h2 h3 h4
  exact lv_lsub X.1 X.2.1 hd  (k p e R s m args below meth c H locs ls cells slots TC TS X hR hS hl h1 h2 h3 h4)
theorem mv_lmul {x y0 : Int64} (hd : decode y.2.1 pc = .ok (.lmul, 1))  (k : mj_V g l y d (pc + 1) lv (.long (x * y0) :: st) M nx kc ks Q) : mj_V g l y d pc lv (.long y0 :: .long x :: st) M nx kc ks Q := by
  intro p e R s m args below meth c H locs ls cells slots TC TS X hR hS hl h1 h2 h3 h4
  exact lv_lmul X.1 X.2.1 hd  (k p e R s m args below meth c H locs ls cells slots TC TS X hR hS hl h1 h2 h3 h4)
theorem mv_land {x y0 : Int64} (hd : decode y.2.1 pc = .ok (.land, 1))  (k : mj_V g l y d (pc + 1) lv (.long (x &&& y0) :: st) M nx kc ks Q) : mj_V g l y d pc lv (.long y0 :: .long x :: st) M nx kc ks Q := by
  intro p e R s m args below meth c H locs ls cells slots TC TS X hR hS hl h1 h2 h3 h4
  exact lv_land X.1 X.2.1 hd  (k p e R s m args below meth c H locs ls cells slots TC TS X hR hS hl h1 h2 h3 h4)
theorem mv_lor {x y0 : Int64} (hd : decode y.2.1 pc = .ok (.lor, 1))  (k : mj_V g l y d (pc + 1) lv (.long (x ||| y0) :: st) M nx kc ks Q) : mj_V g l y d pc lv (.long y0 :: .long x :: st) M nx kc ks Q := by
  intro p e R s m args below meth c H locs ls cells slots TC TS X hR hS hl h1 h2 h3 h4
  exact lv_lor X.1 X.2.1 hd  (k p e R s m args below meth c H locs ls cells slots TC TS X hR hS hl h1 h2 h3 h4)
theorem mv_ldiv {x y0 : Int64} (hd : decode y.2.1 pc = .ok (.ldiv, 1)) (hne : ¬ y0 = 0) (k : mj_V g l y d (pc + 1) lv (.long (x / y0) :: st) M nx kc ks Q) : mj_V g l y d pc lv (.long y0 :: .long x :: st) M nx kc ks Q := by
  intro p e R s m args below meth c H locs ls cells slots TC TS X hR hS hl h1 h2 h3 h4
  exact lv_ldiv X.1 X.2.1 hd hne (k p e R s m args below meth c H locs ls cells slots TC TS X hR hS hl h1 h2 h3 h4)
theorem mv_lneg {x : Int64} (hd : decode y.2.1 pc = .ok (.lneg, 1))  (k : mj_V g l y d (pc + 1) lv (.long (-x) :: st) M nx kc ks Q) : mj_V g l y d pc lv (.long x :: st) M nx kc ks Q := by
  intro p e R s m args below meth c H locs ls cells slots TC TS X hR hS hl h1 h2 h3 h4
  exact lv_lneg X.1 X.2.1 hd  (k p e R s m args below meth c H locs ls cells slots TC TS X hR hS hl h1 h2 h3 h4)
theorem mv_i2l {x : Int32} {v : Int64} (hd : decode y.2.1 pc = .ok (.i2l, 1)) (hv : x.toInt64 = v) (k : mj_V g l y d (pc + 1) lv (.long v :: st) M nx kc ks Q) : mj_V g l y d pc lv (.int x :: st) M nx kc ks Q := by
  intro p e R s m args below meth c H locs ls cells slots TC TS X hR hS hl h1 h2 h3 h4
  exact lv_i2l X.1 X.2.1 hd hv (k p e R s m args below meth c H locs ls cells slots TC TS X hR hS hl h1 h2 h3 h4)
theorem mv_l2i {x : Int64} {v : Int32} (hd : decode y.2.1 pc = .ok (.l2i, 1)) (hv : x.toInt32 = v) (k : mj_V g l y d (pc + 1) lv (.int v :: st) M nx kc ks Q) : mj_V g l y d pc lv (.long x :: st) M nx kc ks Q := by
  intro p e R s m args below meth c H locs ls cells slots TC TS X hR hS hl h1 h2 h3 h4
  exact lv_l2i X.1 X.2.1 hd hv (k p e R s m args below meth c H locs ls cells slots TC TS X hR hS hl h1 h2 h3 h4)
theorem mv_i2b {x v : Int32} (hd : decode y.2.1 pc = .ok (.i2b, 1)) (hv : x.toInt8.toInt32 = v) (k : mj_V g l y d (pc + 1) lv (.int v :: st) M nx kc ks Q) : mj_V g l y d pc lv (.int x :: st) M nx kc ks Q := by
  intro p e R s m args below meth c H locs ls cells slots TC TS X hR hS hl h1 h2 h3 h4
  exact lv_i2b X.1 X.2.1 hd hv (k p e R s m args below meth c H locs ls cells slots TC TS X hR hS hl h1 h2 h3 h4)
theorem mv_i2c {x v : Int32} (hd : decode y.2.1 pc = .ok (.i2c, 1)) (hv : (x.toUInt32 % 65536).toInt32 = v) (k : mj_V g l y d (pc + 1) lv (.int v :: st) M nx kc ks Q) : mj_V g l y d pc lv (.int x :: st) M nx kc ks Q := by
  intro p e R s m args below meth c H locs ls cells slots TC TS X hR hS hl h1 h2 h3 h4
  exact lv_i2c X.1 X.2.1 hd hv (k p e R s m args below meth c H locs ls cells slots TC TS X hR hS hl h1 h2 h3 h4)
theorem mv_iushr {x y0 v : Int32} (hd : decode y.2.1 pc = .ok (.iushr, 1)) (hv : (x.toUInt32 >>> (y0.toUInt32 &&& Int32.toUInt32 31)).toInt32 = v) (k : mj_V g l y d (pc + 1) lv (.int v :: st) M nx kc ks Q) : mj_V g l y d pc lv (.int y0 :: .int x :: st) M nx kc ks Q := by
  intro p e R s m args below meth c H locs ls cells slots TC TS X hR hS hl h1 h2 h3 h4
  exact lv_iushr X.1 X.2.1 hd hv (k p e R s m args below meth c H locs ls cells slots TC TS X hR hS hl h1 h2 h3 h4)
theorem mv_lcmp {x y0 : Int64} (hd : decode y.2.1 pc = .ok (.lcmp, 1))  (k : mj_V g l y d (pc + 1) lv (.int (lg_cmp x y0) :: st) M nx kc ks Q) : mj_V g l y d pc lv (.long y0 :: .long x :: st) M nx kc ks Q := by
  intro p e R s m args below meth c H locs ls cells slots TC TS X hR hS hl h1 h2 h3 h4
  exact W.lcmp X.1 X.2.1 hd  (k p e R s m args below meth c H locs ls cells slots TC TS X hR hS hl h1 h2 h3 h4)
theorem mv_dup {va : Value} (hd : decode y.2.1 pc = .ok (.dup, 1)) (ha : va.category = 1) (k : mj_V g l y d (pc + 1) lv (va :: va :: st) M nx kc ks Q) : mj_V g l y d pc lv (va :: st) M nx kc ks Q := by
  intro p e R s m args below meth c H locs ls cells slots TC TS X hR hS hl h1 h2 h3 h4
  exact lv_dup X.1 X.2.1 hd (by rw [mj_cat]; exact ha) (k p e R s m args below meth c H locs ls cells slots TC TS X hR hS hl h1 h2 h3 h4)
theorem mv_pop {va : Value} (hd : decode y.2.1 pc = .ok (.pop, 1)) (ha : va.category = 1) (k : mj_V g l y d (pc + 1) lv (st) M nx kc ks Q) : mj_V g l y d pc lv (va :: st) M nx kc ks Q := by
  intro p e R s m args below meth c H locs ls cells slots TC TS X hR hS hl h1 h2 h3 h4
  exact lv_pop X.1 X.2.1 hd (by rw [mj_cat]; exact ha) (k p e R s m args below meth c H locs ls cells slots TC TS X hR hS hl h1 h2 h3 h4)
theorem mv_dup_x1 {va vb : Value} (hd : decode y.2.1 pc = .ok (.dup_x1, 1)) (ha : va.category = 1) (hb : vb.category = 1) (k : mj_V g l y d (pc + 1) lv (va :: vb :: va :: st) M nx kc ks Q) : mj_V g l y d pc lv (va :: vb :: st) M nx kc ks Q := by
  intro p e R s m args below meth c H locs ls cells slots TC TS X hR hS hl h1 h2 h3 h4
  exact lv_dup_x1 X.1 X.2.1 hd (by rw [mj_cat]; exact ha) (by rw [mj_cat]; exact hb) (k p e R s m args below meth c H locs ls cells slots TC TS X hR hS hl h1 h2 h3 h4)
theorem mv_dup_x2 {va vb vw : Value} (hd : decode y.2.1 pc = .ok (.dup_x2, 1)) (ha : va.category = 1) (hb : vb.category = 1) (hw : vw.category = 1) (k : mj_V g l y d (pc + 1) lv (va :: vb :: vw :: va :: st) M nx kc ks Q) : mj_V g l y d pc lv (va :: vb :: vw :: st) M nx kc ks Q := by
  intro p e R s m args below meth c H locs ls cells slots TC TS X hR hS hl h1 h2 h3 h4
  exact lv_dup_x2 X.1 X.2.1 hd (by rw [mj_cat]; exact ha) (by rw [mj_cat]; exact hb) (by rw [mj_cat]; exact hw) (k p e R s m args below meth c H locs ls cells slots TC TS X hR hS hl h1 h2 h3 h4)
theorem mv_dup2_11 {va vb : Value} (hd : decode y.2.1 pc = .ok (.dup2, 1)) (ha : va.category = 1) (hb : vb.category = 1) (k : mj_V g l y d (pc + 1) lv (va :: vb :: va :: vb :: st) M nx kc ks Q) : mj_V g l y d pc lv (va :: vb :: st) M nx kc ks Q := by
  intro p e R s m args below meth c H locs ls cells slots TC TS X hR hS hl h1 h2 h3 h4
  exact lv_dup2_11 X.1 X.2.1 hd (by rw [mj_cat]; exact ha) (by rw [mj_cat]; exact hb) (k p e R s m args below meth c H locs ls cells slots TC TS X hR hS hl h1 h2 h3 h4)
theorem mv_dup2_2 {va : Value} (hd : decode y.2.1 pc = .ok (.dup2, 1)) (ha : va.category = 2) (k : mj_V g l y d (pc + 1) lv (va :: va :: st) M nx kc ks Q) : mj_V g l y d pc lv (va :: st) M nx kc ks Q := by
  intro p e R s m args below meth c H locs ls cells slots TC TS X hR hS hl h1 h2 h3 h4
  exact lv_dup2_2 X.1 X.2.1 hd (by rw [mj_cat]; exact ha) (k p e R s m args below meth c H locs ls cells slots TC TS X hR hS hl h1 h2 h3 h4)
theorem mv_pop2_2 {va : Value} (hd : decode y.2.1 pc = .ok (.pop2, 1)) (ha : va.category = 2) (k : mj_V g l y d (pc + 1) lv (st) M nx kc ks Q) : mj_V g l y d pc lv (va :: st) M nx kc ks Q := by
  intro p e R s m args below meth c H locs ls cells slots TC TS X hR hS hl h1 h2 h3 h4
  exact lv_pop2_2 X.1 X.2.1 hd (by rw [mj_cat]; exact ha) (k p e R s m args below meth c H locs ls cells slots TC TS X hR hS hl h1 h2 h3 h4)
theorem mv_pop2_11 {va vb : Value} (hd : decode y.2.1 pc = .ok (.pop2, 1)) (ha : va.category = 1) (hb : vb.category = 1) (k : mj_V g l y d (pc + 1) lv (st) M nx kc ks Q) : mj_V g l y d pc lv (va :: vb :: st) M nx kc ks Q := by
  intro p e R s m args below meth c H locs ls cells slots TC TS X hR hS hl h1 h2 h3 h4
  exact lv_pop2_11 X.1 X.2.1 hd (by rw [mj_cat]; exact ha) (by rw [mj_cat]; exact hb) (k p e R s m args below meth c H locs ls cells slots TC TS X hR hS hl h1 h2 h3 h4)
theorem mv_if_eq {x : Int32} {off : Int} {tgt : Nat} (hd : decode y.2.1 pc = .ok (.ifCond .eq off, 3)) (ht : (pc : Int) + off = (tgt : Int)) (kt : x = 0 → mj_V g l y d tgt lv st M nx kc ks Q) (kf : ¬ x = 0 → mj_V g l y d (pc + 3) lv st M nx kc ks Q) : mj_V g l y d pc lv (.int x :: st) M nx kc ks Q := by
  intro p e R s m args below meth c H locs ls cells slots TC TS X hR hS hl h1 h2 h3 h4
  exact lv_if_eq X.1 X.2.1 hd ht (fun z => kt z p e R s m args below meth c H locs ls cells slots TC TS X hR hS hl h1 h2 h3 h4) (fun z => kf z p e R s m args below meth c H locs ls cells slots TC TS X hR hS hl h1 h2 h3 h4)
theorem mv_if_eq_t {x : Int32} {off : Int} {tgt : Nat} (hd : decode y.2.1 pc = .ok (.ifCond .eq off, 3)) (ht : (pc : Int) + off = (tgt : Int)) (hz : x = 0) (kt : mj_V g l y d tgt lv st M nx kc ks Q) : mj_V g l y d pc lv (.int x :: st) M nx kc ks Q := mv_if_eq hd ht (fun _ => kt) (fun z => absurd hz z)
theorem mv_if_eq_f {x : Int32} {off : Int} {tgt : Nat} (hd : decode y.2.1 pc = .ok (.ifCond .eq off, 3)) (ht : (pc : Int) + off = (tgt : Int)) (hz : ¬ x = 0) (kf : mj_V g l y d (pc + 3) lv st M nx kc ks Q) : mj_V g l y d pc lv (.int x :: st) M nx kc ks Q := mv_if_eq hd ht (fun z => absurd z hz) (fun _ => kf)
theorem mv_icmp_eq {x y0 : Int32} {off : Int} {tgt : Nat} (hd : decode y.2.1 pc = .ok (.if_icmp .eq off, 3)) (ht : (pc : Int) + off = (tgt : Int)) (kt : x = y0 → mj_V g l y d tgt lv st M nx kc ks Q) (kf : ¬ x = y0 → mj_V g l y d (pc + 3) lv st M nx kc ks Q) : mj_V g l y d pc lv (.int y0 :: .int x :: st) M nx kc ks Q := by
  intro p e R s m args below meth c H locs ls cells slots TC TS X hR hS hl h1 h2 h3 h4
  exact lv_icmp_eq X.1 X.2.1 hd ht (fun z => kt z p e R s m args below meth c H locs ls cells slots TC TS X hR hS hl h1 h2 h3 h4) (fun z => kf z p e R s m args below meth c H locs ls cells slots TC TS X hR hS hl h1 h2 h3 h4)
theorem mv_icmp_eq_t {x y0 : Int32} {off : Int} {tgt : Nat} (hd : decode y.2.1 pc = .ok (.if_icmp .eq off, 3)) (ht : (pc : Int) + off = (tgt : Int)) (hz : x = y0) (kt : mj_V g l y d tgt lv st M nx kc ks Q) : mj_V g l y d pc lv (.int y0 :: .int x :: st) M nx kc ks Q := mv_icmp_eq hd ht (fun _ => kt) (fun z => absurd hz z)
theorem mv_icmp_eq_f {x y0 : Int32} {off : Int} {tgt : Nat} (hd : decode y.2.1 pc = .ok (.if_icmp .eq off, 3)) (ht : (pc : Int) + off = (tgt : Int)) (hz : ¬ x = y0) (kf : mj_V g l y d (pc + 3) lv st M nx kc ks Q) : mj_V g l y d pc lv (.int y0 :: .int x :: st) M nx kc ks Q := mv_icmp_eq hd ht (fun z => absurd z hz) (fun _ => kf)
theorem mv_if_ne {x : Int32} {off : Int} {tgt : Nat} (hd : decode y.2.1 pc = .ok (.ifCond .ne off, 3)) (ht : (pc : Int) + off = (tgt : Int)) (kt : ¬ x = 0 → mj_V g l y d tgt lv st M nx kc ks Q) (kf : x = 0 → mj_V g l y d (pc + 3) lv st M nx kc ks Q) : mj_V g l y d pc lv (.int x :: st) M nx kc ks Q := by
  intro p e R s m args below meth c H locs ls cells slots TC TS X hR hS hl h1 h2 h3 h4
  exact lv_if_ne X.1 X.2.1 hd ht (fun z => kt z p e R s m args below meth c H locs ls cells slots TC TS X hR hS hl h1 h2 h3 h4) (fun z => kf z p e R s m args below meth c H locs ls cells slots TC TS X hR hS hl h1 h2 h3 h4)
theorem mv_if_ne_t {x : Int32} {off : Int} {tgt : Nat} (hd : decode y.2.1 pc = .ok (.ifCond .ne off, 3)) (ht : (pc : Int) + off = (tgt : Int)) (hz : ¬ x = 0) (kt : mj_V g l y d tgt lv st M nx kc ks Q) : mj_V g l y d pc lv (.int x :: st) M nx kc ks Q := mv_if_ne hd ht (fun _ => kt) (fun z => absurd z hz)
theorem mv_if_ne_f {x : Int32} {off : Int} {tgt : Nat} (hd : decode y.2.1 pc = .ok (.ifCond .ne off, 3)) (ht : (pc : Int) + off = (tgt : Int)) (hz : x = 0) (kf : mj_V g l y d (pc + 3) lv st M nx kc ks Q) : mj_V g l y d pc lv (.int x :: st) M nx kc ks Q := mv_if_ne hd ht (fun z => absurd hz z) (fun _ => kf)
theorem mv_icmp_ne {x y0 : Int32} {off : Int} {tgt : Nat} (hd : decode y.2.1 pc = .ok (.if_icmp .ne off, 3)) (ht : (pc : Int) + off = (tgt : Int)) (kt : ¬ x = y0 → mj_V g l y d tgt lv st M nx kc ks Q) (kf : x = y0 → mj_V g l y d (pc + 3) lv st M nx kc ks Q) : mj_V g l y d pc lv (.int y0 :: .int x :: st) M nx kc ks Q := by
  intro p e R s m args below meth c H locs ls cells slots TC TS X hR hS hl h1 h2 h3 h4
  exact lv_icmp_ne X.1 X.2.1 hd ht (fun z => kt z p e R s m args below meth c H locs ls cells slots TC TS X hR hS hl h1 h2 h3 h4) (fun z => kf z p e R s m args below meth c H locs ls cells slots TC TS X hR hS hl h1 h2 h3 h4)
theorem mv_icmp_ne_t {x y0 : Int32} {off : Int} {tgt : Nat} (hd : decode y.2.1 pc = .ok (.if_icmp .ne off, 3)) (ht : (pc : Int) + off = (tgt : Int)) (hz : ¬ x = y0) (kt : mj_V g l y d tgt lv st M nx kc ks Q) : mj_V g l y d pc lv (.int y0 :: .int x :: st) M nx kc ks Q := mv_icmp_ne hd ht (fun _ => kt) (fun z => absurd z hz)
theorem mv_icmp_ne_f {x y0 : Int32} {off : Int} {tgt : Nat} (hd : decode y.2.1 pc = .ok (.if_icmp .ne off, 3)) (ht : (pc : Int) + off = (tgt : Int)) (hz : x = y0) (kf : mj_V g l y d (pc + 3) lv st M nx kc ks Q) : mj_V g l y d pc lv (.int y0 :: .int x :: st) M nx kc ks Q := mv_icmp_ne hd ht (fun z => absurd hz z) (fun _ => kf)
theorem mv_if_lt {x : Int32} {off : Int} {tgt : Nat} (hd : decode y.2.1 pc = .ok (.ifCond .lt off, 3)) (ht : (pc : Int) + off = (tgt : Int)) (kt : x < 0 → mj_V g l y d tgt lv st M nx kc ks Q) (kf : ¬ x < 0 → mj_V g l y d (pc + 3) lv st M nx kc ks Q) : mj_V g l y d pc lv (.int x :: st) M nx kc ks Q := by
  intro p e R s m args below meth c H locs ls cells slots TC TS X hR hS hl h1 h2 h3 h4
  exact lv_if_lt X.1 X.2.1 hd ht (fun z => kt z p e R s m args below meth c H locs ls cells slots TC TS X hR hS hl h1 h2 h3 h4) (fun z => kf z p e R s m args below meth c H locs ls cells slots TC TS X hR hS hl h1 h2 h3 h4)
theorem mv_if_lt_t {x : Int32} {off : Int} {tgt : Nat} (hd : decode y.2.1 pc = .ok (.ifCond .lt off, 3)) (ht : (pc : Int) + off = (tgt : Int)) (hz : x < 0) (kt : mj_V g l y d tgt lv st M nx kc ks Q) : mj_V g l y d pc lv (.int x :: st) M nx kc ks Q := mv_if_lt hd ht (fun _ => kt) (fun z => absurd hz z)
theorem mv_if_lt_f {x : Int32} {off : Int} {tgt : Nat} (hd : decode y.2.1 pc = .ok (.ifCond .lt off, 3)) (ht : (pc : Int) + off = (tgt : Int)) (hz : ¬ x < 0) (kf : mj_V g l y d (pc + 3) lv st M nx kc ks Q) : mj_V g l y d pc lv (.int x :: st) M nx kc ks Q := mv_if_lt hd ht (fun z => absurd z hz) (fun _ => kf)
theorem mv_icmp_lt {x y0 : Int32} {off : Int} {tgt : Nat} (hd : decode y.2.1 pc = .ok (.if_icmp .lt off, 3)) (ht : (pc : Int) + off = (tgt : Int)) (kt : x < y0 → mj_V g l y d tgt lv st M nx kc ks Q) (kf : ¬ x < y0 → mj_V g l y d (pc + 3) lv st M nx kc ks Q) : mj_V g l y d pc lv (.int y0 :: .int x :: st) M nx kc ks Q := by
  intro p e R s m args below meth c H locs ls cells slots TC TS X hR hS hl h1 h2 h3 h4
  exact lv_icmp_lt X.1 X.2.1 hd ht (fun z => kt z p e R s m args below meth c H locs ls cells slots TC TS X hR hS hl h1 h2 h3 h4) (fun z => kf z p e R s m args below meth c H locs ls cells slots TC TS X hR hS hl h1 h2 h3 h4)
theorem mv_icmp_lt_t {x y0 : Int32} {off : Int} {tgt : Nat} (hd : decode y.2.1 pc = .ok (.if_icmp .lt off, 3)) (ht : (pc : Int) + off = (tgt : Int)) (hz : x < y0) (kt : mj_V g l y d tgt lv st M nx kc ks Q) : mj_V g l y d pc lv (.int y0 :: .int x :: st) M nx kc ks Q := mv_icmp_lt hd ht (fun _ => kt) (fun z => absurd hz z)
theorem mv_icmp_lt_f {x y0 : Int32} {off : Int} {tgt : Nat} (hd : decode y.2.1 pc = .ok (.if_icmp .lt off, 3)) (ht : (pc : Int) + off = (tgt : Int)) (hz : ¬ x < y0) (kf : mj_V g l y d (pc + 3) lv st M nx kc ks Q) : mj_V g l y d pc lv (.int y0 :: .int x :: st) M nx kc ks Q := mv_icmp_lt hd ht (fun z => absurd z hz) (fun _ => kf)
theorem mv_if_ge {x : Int32} {off : Int} {tgt : Nat} (hd : decode y.2.1 pc = .ok (.ifCond .ge off, 3)) (ht : (pc : Int) + off = (tgt : Int)) (kt : 0 ≤ x → mj_V g l y d tgt lv st M nx kc ks Q) (kf : ¬ 0 ≤ x → mj_V g l y d (pc + 3) lv st M nx kc ks Q) : mj_V g l y d pc lv (.int x :: st) M nx kc ks Q := by
  intro p e R s m args below meth c H locs ls cells slots TC TS X hR hS hl h1 h2 h3 h4
  exact lv_if_ge X.1 X.2.1 hd ht (fun z => kt z p e R s m args below meth c H locs ls cells slots TC TS X hR hS hl h1 h2 h3 h4) (fun z => kf z p e R s m args below meth c H locs ls cells slots TC TS X hR hS hl h1 h2 h3 h4)
theorem mv_if_ge_t {x : Int32} {off : Int} {tgt : Nat} (hd : decode y.2.1 pc = .ok (.ifCond .ge off, 3)) (ht : (pc : Int) + off = (tgt : Int)) (hz : 0 ≤ x) (kt : mj_V g l y d tgt lv st M nx kc ks Q) : mj_V g l y d pc lv (.int x :: st) M nx kc ks Q := mv_if_ge hd ht (fun _ => kt) (fun z => absurd hz z)
theorem mv_if_ge_f {x : Int32} {off : Int} {tgt : Nat} (hd : decode y.2.1 pc = .ok (.ifCond .ge off, 3)) (ht : (pc : Int) + off = (tgt : Int)) (hz : ¬ 0 ≤ x) (kf : mj_V g l y d (pc + 3) lv st M nx kc ks Q) : mj_V g l y d pc lv (.int x :: st) M nx kc ks Q := mv_if_ge hd ht (fun z => absurd z hz) (fun _ => kf)
theorem mv_icmp_ge {x y0 : Int32} {off : Int} {tgt : Nat} (hd : decode y.2.1 pc = .ok (.if_icmp .ge off, 3)) (ht : (pc : Int) + off = (tgt : Int)) (kt : y0 ≤ x → mj_V g l y d tgt lv st M nx kc ks Q) (kf : ¬ y0 ≤ x → mj_V g l y d (pc + 3) lv st M nx kc ks Q) : mj_V g l y d pc lv (.int y0 :: .int x :: st) M nx kc ks Q := by
  intro p e R s m args below meth c H locs ls cells slots TC TS X hR hS hl h1 h2 h3 h4
  exact lv_icmp_ge X.1 X.2.1 hd ht (fun z => kt z p e R s m args below meth c H locs ls cells slots TC TS X hR hS hl h1 h2 h3 h4) (fun z => kf z p e R s m args below meth c H locs ls cells slots TC TS X hR hS hl h1 h2 h3 h4)
theorem mv_icmp_ge_t {x y0 : Int32} {off : Int} {tgt : Nat} (hd : decode y.2.1 pc = .ok (.if_icmp .ge off, 3)) (ht : (pc : Int) + off = (tgt : Int)) (hz : y0 ≤ x) (kt : mj_V g l y d tgt lv st M nx kc ks Q) : mj_V g l y d pc lv (.int y0 :: .int x :: st) M nx kc ks Q := mv_icmp_ge hd ht (fun _ => kt) (fun z => absurd hz z)
theorem mv_icmp_ge_f {x y0 : Int32} {off : Int} {tgt : Nat} (hd : decode y.2.1 pc = .ok (.if_icmp .ge off, 3)) (ht : (pc : Int) + off = (tgt : Int)) (hz : ¬ y0 ≤ x) (kf : mj_V g l y d (pc + 3) lv st M nx kc ks Q) : mj_V g l y d pc lv (.int y0 :: .int x :: st) M nx kc ks Q := mv_icmp_ge hd ht (fun z => absurd z hz) (fun _ => kf)
theorem mv_if_gt {x : Int32} {off : Int} {tgt : Nat} (hd : decode y.2.1 pc = .ok (.ifCond .gt off, 3)) (ht : (pc : Int) + off = (tgt : Int)) (kt : 0 < x → mj_V g l y d tgt lv st M nx kc ks Q) (kf : ¬ 0 < x → mj_V g l y d (pc + 3) lv st M nx kc ks Q) : mj_V g l y d pc lv (.int x :: st) M nx kc ks Q := by
  intro p e R s m args below meth c H locs ls cells slots TC TS X hR hS hl h1 h2 h3 h4
  exact lv_if_gt X.1 X.2.1 hd ht (fun z => kt z p e R s m args below meth c H locs ls cells slots TC TS X hR hS hl h1 h2 h3 h4) (fun z => kf z p e R s m args below meth c H locs ls cells slots TC TS X hR hS hl h1 h2 h3 h4)
theorem mv_if_gt_t {x : Int32} {off : Int} {tgt : Nat} (hd : decode y.2.1 pc = .ok (.ifCond .gt off, 3)) (ht : (pc : Int) + off = (tgt : Int)) (hz : 0 < x) (kt : mj_V g l y d tgt lv st M nx kc ks Q) : mj_V g l y d pc lv (.int x :: st) M nx kc ks Q := mv_if_gt hd ht (fun _ => kt) (fun z => absurd hz z)
theorem mv_if_gt_f {x : Int32} {off : Int} {tgt : Nat} (hd : decode y.2.1 pc = .ok (.ifCond .gt off, 3)) (ht : (pc : Int) + off = (tgt : Int)) (hz : ¬ 0 < x) (kf : mj_V g l y d (pc + 3) lv st M nx kc ks Q) : mj_V g l y d pc lv (.int x :: st) M nx kc ks Q := mv_if_gt hd ht (fun z => absurd z hz) (fun _ => kf)
theorem mv_icmp_gt {x y0 : Int32} {off : Int} {tgt : Nat} (hd : decode y.2.1 pc = .ok (.if_icmp .gt off, 3)) (ht : (pc : Int) + off = (tgt : Int)) (kt : y0 < x → mj_V g l y d tgt lv st M nx kc ks Q) (kf : ¬ y0 < x → mj_V g l y d (pc + 3) lv st M nx kc ks Q) : mj_V g l y d pc lv (.int y0 :: .int x :: st) M nx kc ks Q := by
  intro p e R s m args below meth c H locs ls cells slots TC TS X hR hS hl h1 h2 h3 h4
  exact lv_icmp_gt X.1 X.2.1 hd ht (fun z => kt z p e R s m args below meth c H locs ls cells slots TC TS X hR hS hl h1 h2 h3 h4) (fun z => kf z p e R s m args below meth c H locs ls cells slots TC TS X hR hS hl h1 h2 h3 h4)
theorem mv_icmp_gt_t {x y0 : Int32} {off : Int} {tgt : Nat} (hd : decode y.2.1 pc = .ok (.if_icmp .gt off, 3)) (ht : (pc : Int) + off = (tgt : Int)) (hz : y0 < x) (kt : mj_V g l y d tgt lv st M nx kc ks Q) : mj_V g l y d pc lv (.int y0 :: .int x :: st) M nx kc ks Q := mv_icmp_gt hd ht (fun _ => kt) (fun z => absurd hz z)
theorem mv_icmp_gt_f {x y0 : Int32} {off : Int} {tgt : Nat} (hd : decode y.2.1 pc = .ok (.if_icmp .gt off, 3)) (ht : (pc : Int) + off = (tgt : Int)) (hz : ¬ y0 < x) (kf : mj_V g l y d (pc + 3) lv st M nx kc ks Q) : mj_V g l y d pc lv (.int y0 :: .int x :: st) M nx kc ks Q := mv_icmp_gt hd ht (fun z => absurd z hz) (fun _ => kf)
theorem mv_if_le {x : Int32} {off : Int} {tgt : Nat} (hd : decode y.2.1 pc = .ok (.ifCond .le off, 3)) (ht : (pc : Int) + off = (tgt : Int)) (kt : x ≤ 0 → mj_V g l y d tgt lv st M nx kc ks Q) (kf : ¬ x ≤ 0 → mj_V g l y d (pc + 3) lv st M nx kc ks Q) : mj_V g l y d pc lv (.int x :: st) M nx kc ks Q := by
  intro p e R s m args below meth c H locs ls cells slots TC TS X hR hS hl h1 h2 h3 h4
  exact lv_if_le X.1 X.2.1 hd ht (fun z => kt z p e R s m args below meth c H locs ls cells slots TC TS X hR hS hl h1 h2 h3 h4) (fun z => kf z p e R s m args below meth c H locs ls cells slots TC TS X hR hS hl h1 h2 h3 h4)
theorem mv_if_le_t {x : Int32} {off : Int} {tgt : Nat} (hd : decode y.2.1 pc = .ok (.ifCond .le off, 3)) (ht : (pc : Int) + off = (tgt : Int)) (hz : x ≤ 0) (kt : mj_V g l y d tgt lv st M nx kc ks Q) : mj_V g l y d pc lv (.int x :: st) M nx kc ks Q := mv_if_le hd ht (fun _ => kt) (fun z => absurd hz z)
theorem mv_if_le_f {x : Int32} {off : Int} {tgt : Nat} (hd : decode y.2.1 pc = .ok (.ifCond .le off, 3)) (ht : (pc : Int) + off = (tgt : Int)) (hz : ¬ x ≤ 0) (kf : mj_V g l y d (pc + 3) lv st M nx kc ks Q) : mj_V g l y d pc lv (.int x :: st) M nx kc ks Q := mv_if_le hd ht (fun z => absurd z hz) (fun _ => kf)
theorem mv_icmp_le {x y0 : Int32} {off : Int} {tgt : Nat} (hd : decode y.2.1 pc = .ok (.if_icmp .le off, 3)) (ht : (pc : Int) + off = (tgt : Int)) (kt : x ≤ y0 → mj_V g l y d tgt lv st M nx kc ks Q) (kf : ¬ x ≤ y0 → mj_V g l y d (pc + 3) lv st M nx kc ks Q) : mj_V g l y d pc lv (.int y0 :: .int x :: st) M nx kc ks Q := by
  intro p e R s m args below meth c H locs ls cells slots TC TS X hR hS hl h1 h2 h3 h4
  exact lv_icmp_le X.1 X.2.1 hd ht (fun z => kt z p e R s m args below meth c H locs ls cells slots TC TS X hR hS hl h1 h2 h3 h4) (fun z => kf z p e R s m args below meth c H locs ls cells slots TC TS X hR hS hl h1 h2 h3 h4)
theorem mv_icmp_le_t {x y0 : Int32} {off : Int} {tgt : Nat} (hd : decode y.2.1 pc = .ok (.if_icmp .le off, 3)) (ht : (pc : Int) + off = (tgt : Int)) (hz : x ≤ y0) (kt : mj_V g l y d tgt lv st M nx kc ks Q) : mj_V g l y d pc lv (.int y0 :: .int x :: st) M nx kc ks Q := mv_icmp_le hd ht (fun _ => kt) (fun z => absurd hz z)
theorem mv_icmp_le_f {x y0 : Int32} {off : Int} {tgt : Nat} (hd : decode y.2.1 pc = .ok (.if_icmp .le off, 3)) (ht : (pc : Int) + off = (tgt : Int)) (hz : ¬ x ≤ y0) (kf : mj_V g l y d (pc + 3) lv st M nx kc ks Q) : mj_V g l y d pc lv (.int y0 :: .int x :: st) M nx kc ks Q := mv_icmp_le hd ht (fun z => absurd z hz) (fun _ => kf)
theorem mv_goto {off : Int} {tgt : Nat} (hd : decode y.2.1 pc = .ok (.goto off, 3)) (ht : (pc : Int) + off = (tgt : Int)) (k : mj_V g l y d tgt lv st M nx kc ks Q) : mj_V g l y d pc lv st M nx kc ks Q := by
  intro p e R s m args below meth c H locs ls cells slots TC TS X hR hS hl h1 h2 h3 h4
  exact lv_goto X.1 X.2.1 hd ht (k p e R s m args below meth c H locs ls cells slots TC TS X hR hS hl h1 h2 h3 h4)
theorem mv_ifnonnull {a : Nat} {off : Int} {tgt : Nat} (hd : decode y.2.1 pc = .ok (.ifnonnull off, 3)) (ht : (pc : Int) + off = (tgt : Int)) (k : mj_V g l y d tgt lv st M nx kc ks Q) : mj_V g l y d pc lv (.ref a :: st) M nx kc ks Q := by
  intro p e R s m args below meth c H locs ls cells slots TC TS X hR hS hl h1 h2 h3 h4
  exact lv_ifnonnull X.1 X.2.1 hd ht (k p e R s m args below meth c H locs ls cells slots TC TS X hR hS hl h1 h2 h3 h4)
theorem mv_ifnull {a : Nat} {off : Int} (hd : decode y.2.1 pc = .ok (.ifnull off, 3)) (k : mj_V g l y d (pc + 3) lv st M nx kc ks Q) : mj_V g l y d pc lv (.ref a :: st) M nx kc ks Q := by
  intro p e R s m args below meth c H locs ls cells slots TC TS X hR hS hl h1 h2 h3 h4
  exact lv_ifnull X.1 X.2.1 hd (k p e R s m args below meth c H locs ls cells slots TC TS X hR hS hl h1 h2 h3 h4)
theorem mv_ifnullN {off : Int} {tgt : Nat} (hd : decode y.2.1 pc = .ok (.ifnull off, 3)) (ht : (pc : Int) + off = (tgt : Int)) (k : mj_V g l y d tgt lv st M nx kc ks Q) : mj_V g l y d pc lv (.null :: st) M nx kc ks Q := by
  intro p e R s m args below meth c H locs ls cells slots TC TS X hR hS hl h1 h2 h3 h4
  exact lv_ifnullN X.1 X.2.1 hd ht (k p e R s m args below meth c H locs ls cells slots TC TS X hR hS hl h1 h2 h3 h4)
theorem mv_ifnonnullN {off : Int} (hd : decode y.2.1 pc = .ok (.ifnonnull off, 3)) (k : mj_V g l y d (pc + 3) lv st M nx kc ks Q) : mj_V g l y d pc lv (.null :: st) M nx kc ks Q := by
  intro p e R s m args below meth c H locs ls cells slots TC TS X hR hS hl h1 h2 h3 h4
  exact lv_ifnonnullN X.1 X.2.1 hd (k p e R s m args below meth c H locs ls cells slots TC TS X hR hS hl h1 h2 h3 h4)
theorem mv_tableIn {dflt lo hi : Int} {offs : Array Int} {len : Nat} {x : Int32} {off : Int} {tgt : Nat} (hd : decode y.2.1 pc = .ok (.tableswitch dflt lo hi offs, len)) (z1 : ¬ x.toInt < lo) (z2 : ¬ hi < x.toInt) (ho : offs[(x.toInt - lo).toNat]? = some off) (ht : (pc : Int) + off = (tgt : Int)) (k : mj_V g l y d tgt lv st M nx kc ks Q) : mj_V g l y d pc lv (.int x :: st) M nx kc ks Q := by
  intro p e R s m args below meth c H locs ls cells slots TC TS X hR hS hl h1 h2 h3 h4
  exact lv_tableIn X.1 X.2.1 hd z1 z2 ho ht (k p e R s m args below meth c H locs ls cells slots TC TS X hR hS hl h1 h2 h3 h4)
theorem mv_tableOut {dflt lo hi : Int} {offs : Array Int} {len : Nat} {x : Int32} {tgt : Nat} (hd : decode y.2.1 pc = .ok (.tableswitch dflt lo hi offs, len)) (z : x.toInt < lo ∨ hi < x.toInt) (ht : (pc : Int) + dflt = (tgt : Int)) (k : mj_V g l y d tgt lv st M nx kc ks Q) : mj_V g l y d pc lv (.int x :: st) M nx kc ks Q := by
  intro p e R s m args below meth c H locs ls cells slots TC TS X hR hS hl h1 h2 h3 h4
  exact lv_tableOut X.1 X.2.1 hd z ht (k p e R s m args below meth c H locs ls cells slots TC TS X hR hS hl h1 h2 h3 h4)
theorem mv_ldc {index : Nat} {v : Int32} (hd : decode y.2.1 pc = .ok (.ldc index, 2)) (hw : Cond.constant y.1.cls index v ∈ mj_T) (k : mj_V g l y d (pc + 2) lv (.int v :: st) M nx kc ks Q) : mj_V g l y d pc lv st M nx kc ks Q := by
  intro p e R s m args below meth c H locs ls cells slots TC TS X hR hS hl h1 h2 h3 h4
  exact lv_ldc X.1 X.2.1 X.2.2.2.2.2.1 (X.2.2.2.2.2.2.2.1 _ hw) hd (k p e R s m args below meth c H locs ls cells slots TC TS X hR hS hl h1 h2 h3 h4)
theorem mv_ldcw {index : Nat} {v : Int32} (hd : decode y.2.1 pc = .ok (.ldc_w index, 3)) (hw : Cond.constant y.1.cls index v ∈ mj_T) (k : mj_V g l y d (pc + 3) lv (.int v :: st) M nx kc ks Q) : mj_V g l y d pc lv st M nx kc ks Q := by
  intro p e R s m args below meth c H locs ls cells slots TC TS X hR hS hl h1 h2 h3 h4
  exact lv_ldcw X.1 X.2.1 X.2.2.2.2.2.1 (X.2.2.2.2.2.2.2.1 _ hw) hd (k p e R s m args below meth c H locs ls cells slots TC TS X hR hS hl h1 h2 h3 h4)
theorem mv_ldc2 {index : Nat} {v : Int64} (hd : decode y.2.1 pc = .ok (.ldc2_w index, 3)) (hw : Cond.constantLong y.1.cls index v ∈ mj_T) (k : mj_V g l y d (pc + 3) lv (.long v :: st) M nx kc ks Q) : mj_V g l y d pc lv st M nx kc ks Q := by
  intro p e R s m args below meth c H locs ls cells slots TC TS X hR hS hl h1 h2 h3 h4
  exact lv_ldc2 X.1 X.2.1 X.2.2.2.2.2.1 (X.2.2.2.2.2.2.2.1 _ hw) hd (k p e R s m args below meth c H locs ls cells slots TC TS X hR hS hl h1 h2 h3 h4)
theorem mv_ldcS {index id : Nat} {tx : String} (hd : decode y.2.1 pc = .ok (.ldc index, 2)) (hw : (y.1.cls, index, tx, id) ∈ mj_strs) (k : mj_V g l y d (pc + 2) lv (.ref id :: st) M nx kc ks Q) : mj_V g l y d pc lv st M nx kc ks Q := by
  intro p e R s m args below meth c H locs ls cells slots TC TS X hR hS hl h1 h2 h3 h4
  exact va_ldcS X.1 X.2.1 X.2.2.2.2.2.1 (X.2.2.2.2.2.2.2.2.2.1.2.2.2.2.2.2.1 _ hw) hd (k p e R s m args below meth c H locs ls cells slots TC TS X hR hS hl h1 h2 h3 h4)
theorem mv_slen {v : Int32} (hd : decode y.2.1 pc = .ok (.arraylength, 1)) (hv : nI (mj_L g) = v) (k : mj_V g l y d (pc + 1) lv (.int v :: st) M nx kc ks Q) : mj_V g l y d pc lv (.ref 50 :: st) M nx kc ks Q := by
  intro p e R s m args below meth c H locs ls cells slots TC TS X hR hS hl h1 h2 h3 h4
  subst hv
  have hz := X.2.2.2.2.2.2.2.2.2.1.2.2.2.2.1
  exact va_slen X.1 X.2.1 hz.1 (by obtain ⟨scr, z, -⟩ := hz.1; exact (Array.getElem?_eq_some_iff.mp z).1) hz.2 hS hd (k p e R s m args below meth c H locs ls cells slots TC TS X hR hS hl h1 h2 h3 h4)
theorem mv_sld {i v : Int32} (hd : decode y.2.1 pc = .ok (.iaload, 1)) (hin : vp_in i (mj_L g)) (hv : mj_xs g i.toNatClampNeg = v) (k : mj_V g l y d (pc + 1) lv (.int v :: st) M nx kc ks Q) : mj_V g l y d pc lv (.int i :: .ref 50 :: st) M nx kc ks Q := by
  intro p e R s m args below meth c H locs ls cells slots TC TS X hR hS hl h1 h2 h3 h4
  subst hv
  have hz := X.2.2.2.2.2.2.2.2.2.1.2.2.2.2.1
  exact va_sld X.1 X.2.1 hz.1 (by obtain ⟨scr, z, -⟩ := hz.1; exact (Array.getElem?_eq_some_iff.mp z).1) hz.2 hS hin hd (k p e R s m args below meth c H locs ls cells slots TC TS X hR hS hl h1 h2 h3 h4)
end MV
